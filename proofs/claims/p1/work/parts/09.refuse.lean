set_option maxRecDepth 20000 in
theorem ggX10_onFault_X10_isTeam : GoodIn wsX10_onFault wsX10_isTeam := goodIn_r _ [7, 1, 8, 9, 10, 11, 12, 13, 14, 15, 6, 16, 40, 41, 42, 43, 44, 45, 46, 47, 48, 49, 50, 51, 52, 53] (by decide +kernel) (by decide +kernel)
set_option maxRecDepth 20000 in
theorem gX10_onFault_X10_isTeam : GoodIn wsX10_onFault (wsV RX10 111 RX10 yX10_isTeam wsX10_isTeam) := goodIn_app (goodIn_of _ (by decide +kernel)) ggX10_onFault_X10_isTeam
theorem dX10_onFault_0 : decode cX10_onFault 0 = .ok (.aload_n 0, 1) := by decide +kernel
theorem dX10_onFault_1 : decode cX10_onFault 1 = .ok (.iload_n 1, 1) := by decide +kernel
theorem dX10_onFault_2 : decode cX10_onFault 2 = .ok (.invokevirtual 111, 3) := by decide +kernel
theorem dX10_onFault_5 : decode cX10_onFault 5 = .ok (.ifCond .ne 7, 3) := by decide +kernel
theorem dX10_onFault_8 : decode cX10_onFault 8 = .ok (.iconst 1, 1) := by decide +kernel
theorem dX10_onFault_9 : decode cX10_onFault 9 = .ok (.goto 27, 3) := by decide +kernel
theorem dX10_onFault_36 : decode cX10_onFault 36 = .ok (.ireturn, 1) := by decide +kernel
set_option maxHeartbeats 4000000 in
set_option maxRecDepth 100000 in
theorem c_X10_onFault (l : Launch) (htr : l.stackTraces = false) (dC : Nat → ClassId) (dI : Nat → Nat → Nat) (e0 sz : Nat) (h0 : Nat) (th : Int32) (b : Nat → Nat) (p0 : Int32) : Met l yX10_onFault wsX10_onFault ({ frames := 2, cells := 0, slots := 0, locals := 46 }) (va_Pc [.ref h0, .int p0] (fun U => U.heap.size = sz ∧ va_P (dC, dI) vwCl [(h0, .inr (15, zM th b)), ((b 2), .inr (4, [.int 0, .ref e0, .int 0]))] U.heap ∧ va_K (dC, dI) vwCl [] U ∧ va_D (fun _ => True) [(h0, .inr (15, zM th b)), ((b 2), .inr (4, [.int 0, .ref e0, .int 0]))] ∧ zE e0 (va_A [(h0, .inr (15, zM th b)), ((b 2), .inr (4, [.int 0, .ref e0, .int 0]))] sz) U U.heap)) (va_Qi (fun (r : Int32) (_ : Unit) => r = 1) (fun _ t => va_P (dC, dI) vwCl [(h0, .inr (15, zM th b)), ((b 2), .inr (4, [.int 0, .ref e0, .int 0]))] t.heap ∧ va_K (dC, dI) vwCl [] t ∧ va_D (va_A [(h0, .inr (15, zM th b)), ((b 2), .inr (4, [.int 0, .ref e0, .int 0]))] sz) [(h0, .inr (15, zM th b)), ((b 2), .inr (4, [.int 0, .ref e0, .int 0]))]) (va_A [(h0, .inr (15, zM th b)), ((b 2), .inr (4, [.int 0, .ref e0, .int 0]))] sz)) 0 0 (va_A [(h0, .inr (15, zM th b)), ((b 2), .inr (4, [.int 0, .ref e0, .int 0]))] sz) := by
  refine Met.ofW (cc := cX10_onFault) (maxL := 2) (ret := (some .int)) (by decide) rfl ?_
  intro p e s m args below meth c s₁ B hml hv
  obtain ⟨rfl, hsz, hP, hK, hD0, hE⟩ := hv
  have hx := B.exec
  have hb := B.bytes
  have hr := B.returns
  have hts := atoms_spec (ws := wsX10_onFault) B.pre
  have hown : s.vm.findClass RX10 = some m.cls := findClass_of_methodNamed B.named
  have hlocks := B.notSynchronized
  subst hsz
  have hD := hD0.self (sz := s.heap.size)
  generalize hAe : va_A [(h0, .inr (15, zM th b)), ((b 2), .inr (4, [.int 0, .ref e0, .int 0]))] s.heap.size = A at hD hE ⊢
  have hA : ∀ q : Nat, s.heap.size ≤ q → A q := fun q h => by rw [← hAe]; exact Or.inr h
  have hS : va_S A s.heap s.heap [] := va_S.rf
  have hl := lv_entry ([.ref h0, .int p0]) (n := 2) (Nat.le_of_ble_eq_true rfl)
  rw [lg_entry_eq]
  generalize (lg_sl ([.ref h0, .int p0]) ++ List.replicate (2 - (lg_sl ([.ref h0, .int p0])).length) Slot.unset).toArray = ls at hl ⊢
  have hl : lv_has ls 2 [(0, .ref h0), (1, .int p0)] := hl
  refine lv_aload_n hx hb dX10_onFault_0 rfl (lv_at hl 0 rfl) ?_
  refine lv_iload_n hx hb dX10_onFault_1 rfl (lv_at hl 1 rfl) ?_
  have hPc := hP.sub (ws' := [(h0, .inr (15, zM th b)), ((b 2), .inr (4, [.int 0, .ref e0, .int 0]))]) [0, 1] rfl
  have hDc := hD.sub (ws' := [(h0, .inr (15, zM th b)), ((b 2), .inr (4, [.int 0, .ref e0, .int 0]))]) [0, 1] (by decide) rfl
  have hKc := hK.sub (tys' := []) [] rfl
  have hFc := va_free (wc := [(h0, .inr (15, zM th b)), ((b 2), .inr (4, [.int 0, .ref e0, .int 0]))]) hD hS hA [0, 1] rfl
  have hEc := (hE.kept hS.2.1).narrow hFc
  refine va_calli (va_runV (As := [.int p0]) (rest := []) ⟨hx, hb, hml, hown, hts⟩ (c_X10_isTeam l htr dC dI e0 s.heap.size h0 th b p0) (cwV 1 hts gX10_onFault_X10_isTeam rfl rfl rfl (by decide +kernel) ⟨Nat.le_of_ble_eq_true rfl, Nat.le_of_ble_eq_true rfl⟩) ⟨fun a U g mk q => by obtain ⟨q0, q1, qP, qK, qD, qE⟩ := q; exact ⟨q0, q1, qP, va_K.moved (u := U) (U := U.calling g mk a) (Vm.Alike.refl U.vm) qK, qD, zE.same rfl qE⟩, va_recv hKc hPc (ci := 15) (q0 := 0) rfl rfl, fun U hU hW => ⟨rfl, by rw [hU], by rw [hU]; exact hPc, va_K.moved hW.alike hKc, hDc.weaken (fun _ _ _ _ => trivial), by rw [hU]; exact zE.warm hW hEc⟩⟩ rfl rfl hl.1 rfl (lv_room (Nat.le_of_ble_eq_true rfl)) dX10_onFault_2 ⟨Nat.le_of_ble_eq_true rfl, Nat.le_of_ble_eq_true rfl⟩) hS (fun q _ h => hFc q h) hFc (fun r1 u t H1 locs ht hvm hw hB hz1 hk1 hS => ?_)
  obtain ⟨hP1, hK1, hD1⟩ := hB
  rw [ht] at hP1
  obtain ⟨hP, hD⟩ := va_join (wr := []) (w1 := [(h0, .inr (15, zM th b)), ((b 2), .inr (4, [.int 0, .ref e0, .int 0]))]) hP hD [0, 1] [] rfl rfl (by decide) (by decide) hk1 hFc hP1 hD1
  generalize H1 = H at hP hS ⊢
  have hP : va_P (dC, dI) vwCl [(h0, .inr (15, zM th b)), ((b 2), .inr (4, [.int 0, .ref e0, .int 0]))] H := hP
  have hD : va_D A [(h0, .inr (15, zM th b)), ((b 2), .inr (4, [.int 0, .ref e0, .int 0]))] := hD
  obtain rfl : r1 = 0 := hw
  refine lv_if_ne (tgt := 12) hx hb dX10_onFault_5 (by decide) (fun c2 => absurd (by decide) c2) (fun _ => ?_)
  refine lv_iconst (v := 1) hx hb dX10_onFault_8 (by decide) ?_
  refine lv_goto (tgt := 36) hx hb dX10_onFault_9 (by decide) ?_
  have hP9 := hP.sub (ws' := [(h0, .inr (15, zM th b)), ((b 2), .inr (4, [.int 0, .ref e0, .int 0]))]) [0, 1] rfl
  have hD9 := hD.sub (ws' := [(h0, .inr (15, zM th b)), ((b 2), .inr (4, [.int 0, .ref e0, .int 0]))]) [0, 1] (by decide) rfl
  have hK9 := hK.sub (tys' := []) [] rfl
  exact W.iret (v := 1) hx hb hr (fun t ht hW => ⟨⟨1, (), rfl, rfl, ⟨by rw [ht]; exact hP9, va_K.moved hW.alike hK9, hD9⟩⟩, hS.F ht⟩) hS.2.2 dX10_onFault_36

set_option maxRecDepth 20000 in
theorem ggX10_dog_X10_goesOn : GoodIn wsX10_dog wsX10_goesOn := goodIn_r _ [24, 25, 100, 101, 102, 103, 104, 105, 106, 107, 108, 109, 110] (by decide +kernel) (by decide +kernel)
set_option maxRecDepth 20000 in
theorem gX10_dog_X10_goesOn : GoodIn wsX10_dog (wsV RX10 78 RX10 yX10_goesOn wsX10_goesOn) := goodIn_app (goodIn_of _ (by decide +kernel)) ggX10_dog_X10_goesOn
set_option maxRecDepth 20000 in
theorem ggX10_dog_X10_in : GoodIn wsX10_dog wsX10_in := goodIn_r _ [9] (by decide +kernel) (by decide +kernel)
set_option maxRecDepth 20000 in
theorem gX10_dog_X10_in : GoodIn wsX10_dog (va_wsS RX10 63 yX10_in wsX10_in) := goodIn_app (goodIn_of _ (by decide +kernel)) ggX10_dog_X10_in
set_option maxRecDepth 20000 in
theorem ggX10_dog_X10_isTeam : GoodIn wsX10_dog wsX10_isTeam := goodIn_r _ [13, 14, 15, 16, 17, 18, 19, 20, 6, 7, 8, 9, 100, 101, 102, 103, 104, 105, 106, 107, 108, 109, 110, 128, 129, 130] (by decide +kernel) (by decide +kernel)
set_option maxRecDepth 20000 in
theorem gX10_dog_X10_isTeam : GoodIn wsX10_dog (wsV RX10 111 RX10 yX10_isTeam wsX10_isTeam) := goodIn_app (goodIn_of _ (by decide +kernel)) ggX10_dog_X10_isTeam
theorem dX10_dog_0 : decode cX10_dog 0 = .ok (.iload_n 2, 1) := by decide +kernel
theorem dX10_dog_1 : decode cX10_dog 1 = .ok (.i2l, 1) := by decide +kernel
theorem dX10_dog_2 : decode cX10_dog 2 = .ok (.lconst 1, 1) := by decide +kernel
theorem dX10_dog_3 : decode cX10_dog 3 = .ok (.ldc2_w 71, 3) := by decide +kernel
theorem dX10_dog_6 : decode cX10_dog 6 = .ok (.invokestatic 63, 3) := by decide +kernel
theorem dX10_dog_9 : decode cX10_dog 9 = .ok (.ifCond .eq 19, 3) := by decide +kernel
theorem dX10_dog_12 : decode cX10_dog 12 = .ok (.iload_n 3, 1) := by decide +kernel
theorem dX10_dog_13 : decode cX10_dog 13 = .ok (.i2l, 1) := by decide +kernel
theorem dX10_dog_14 : decode cX10_dog 14 = .ok (.lconst 0, 1) := by decide +kernel
theorem dX10_dog_15 : decode cX10_dog 15 = .ok (.ldc2_w 71, 3) := by decide +kernel
theorem dX10_dog_18 : decode cX10_dog 18 = .ok (.invokestatic 63, 3) := by decide +kernel
theorem dX10_dog_21 : decode cX10_dog 21 = .ok (.ifCond .eq 7, 3) := by decide +kernel
theorem dX10_dog_24 : decode cX10_dog 24 = .ok (.iconst 1, 1) := by decide +kernel
theorem dX10_dog_25 : decode cX10_dog 25 = .ok (.goto 4, 3) := by decide +kernel
theorem dX10_dog_28 : decode cX10_dog 28 = .ok (.iconst 0, 1) := by decide +kernel
theorem dX10_dog_29 : decode cX10_dog 29 = .ok (.istore 4, 2) := by decide +kernel
theorem dX10_dog_31 : decode cX10_dog 31 = .ok (.aload_n 0, 1) := by decide +kernel
theorem dX10_dog_32 : decode cX10_dog 32 = .ok (.aload_n 0, 1) := by decide +kernel
theorem dX10_dog_33 : decode cX10_dog 33 = .ok (.iload_n 1, 1) := by decide +kernel
theorem dX10_dog_34 : decode cX10_dog 34 = .ok (.invokevirtual 111, 3) := by decide +kernel
theorem dX10_dog_37 : decode cX10_dog 37 = .ok (.ifCond .ne 7, 3) := by decide +kernel
theorem dX10_dog_40 : decode cX10_dog 40 = .ok (.iconst 1, 1) := by decide +kernel
theorem dX10_dog_41 : decode cX10_dog 41 = .ok (.goto 31, 3) := by decide +kernel
theorem dX10_dog_72 : decode cX10_dog 72 = .ok (.invokevirtual 78, 3) := by decide +kernel
theorem dX10_dog_75 : decode cX10_dog 75 = .ok (.ifCond .ne 5, 3) := by decide +kernel
theorem dX10_dog_78 : decode cX10_dog 78 = .ok (.iconst 0, 1) := by decide +kernel
theorem dX10_dog_79 : decode cX10_dog 79 = .ok (.ireturn, 1) := by decide +kernel
set_option maxHeartbeats 4000000 in
set_option maxRecDepth 100000 in
theorem c_X10_dog (l : Launch) (htr : l.stackTraces = false) (dC : Nat → ClassId) (dI : Nat → Nat → Nat) (e0 sz : Nat) (h0 : Nat) (th : Int32) (b : Nat → Nat) (p0 : Int32) (p1 : Int32) (p2 : Int32) : Met l yX10_dog wsX10_dog ({ frames := 2, cells := 0, slots := 0, locals := 46 }) (va_Pc [.ref h0, .int p0, .int p1, .int p2] (fun U => U.heap.size = sz ∧ va_P (dC, dI) vwCl [(h0, .inr (15, zM th b)), ((b 0), .inr (4, [.int 0, .ref e0, .int 0])), ((b 1), .inr (4, [.int 0, .ref e0, .int 0])), ((b 2), .inr (4, [.int 0, .ref e0, .int 0])), ((b 3), .inr (4, [.int 0, .ref e0, .int 0]))] U.heap ∧ va_K (dC, dI) vwCl [] U ∧ va_D (fun _ => True) [(h0, .inr (15, zM th b)), ((b 0), .inr (4, [.int 0, .ref e0, .int 0])), ((b 1), .inr (4, [.int 0, .ref e0, .int 0])), ((b 2), .inr (4, [.int 0, .ref e0, .int 0])), ((b 3), .inr (4, [.int 0, .ref e0, .int 0]))] ∧ zE e0 (va_A [(h0, .inr (15, zM th b)), ((b 0), .inr (4, [.int 0, .ref e0, .int 0])), ((b 1), .inr (4, [.int 0, .ref e0, .int 0])), ((b 2), .inr (4, [.int 0, .ref e0, .int 0])), ((b 3), .inr (4, [.int 0, .ref e0, .int 0]))] sz) U U.heap)) (va_Qi (fun (r : Int32) (_ : Unit) => r = 0) (fun _ t => va_P (dC, dI) vwCl [(h0, .inr (15, zM 1 b))] t.heap ∧ va_K (dC, dI) vwCl [] t ∧ va_D (va_A [(h0, .inr (15, zM th b)), ((b 0), .inr (4, [.int 0, .ref e0, .int 0])), ((b 1), .inr (4, [.int 0, .ref e0, .int 0])), ((b 2), .inr (4, [.int 0, .ref e0, .int 0])), ((b 3), .inr (4, [.int 0, .ref e0, .int 0]))] sz) [(h0, .inr (15, zM 1 b))]) (va_A [(h0, .inr (15, zM th b)), ((b 0), .inr (4, [.int 0, .ref e0, .int 0])), ((b 1), .inr (4, [.int 0, .ref e0, .int 0])), ((b 2), .inr (4, [.int 0, .ref e0, .int 0])), ((b 3), .inr (4, [.int 0, .ref e0, .int 0]))] sz)) 0 0 (va_A [(h0, .inr (15, zM th b)), ((b 0), .inr (4, [.int 0, .ref e0, .int 0])), ((b 1), .inr (4, [.int 0, .ref e0, .int 0])), ((b 2), .inr (4, [.int 0, .ref e0, .int 0])), ((b 3), .inr (4, [.int 0, .ref e0, .int 0]))] sz) := by
  refine Met.ofW (cc := cX10_dog) (maxL := 5) (ret := (some .int)) (by decide) rfl ?_
  intro p e s m args below meth c s₁ B hml hv
  obtain ⟨rfl, hsz, hP, hK, hD0, hE⟩ := hv
  have hx := B.exec
  have hb := B.bytes
  have hr := B.returns
  have hts := atoms_spec (ws := wsX10_dog) B.pre
  have hown : s.vm.findClass RX10 = some m.cls := findClass_of_methodNamed B.named
  have hlocks := B.notSynchronized
  subst hsz
  have hD := hD0.self (sz := s.heap.size)
  generalize hAe : va_A [(h0, .inr (15, zM th b)), ((b 0), .inr (4, [.int 0, .ref e0, .int 0])), ((b 1), .inr (4, [.int 0, .ref e0, .int 0])), ((b 2), .inr (4, [.int 0, .ref e0, .int 0])), ((b 3), .inr (4, [.int 0, .ref e0, .int 0]))] s.heap.size = A at hD hE ⊢
  have hA : ∀ q : Nat, s.heap.size ≤ q → A q := fun q h => by rw [← hAe]; exact Or.inr h
  have hS : va_S A s.heap s.heap [] := va_S.rf
  have hl := lv_entry ([.ref h0, .int p0, .int p1, .int p2]) (n := 5) (Nat.le_of_ble_eq_true rfl)
  rw [lg_entry_eq]
  generalize (lg_sl ([.ref h0, .int p0, .int p1, .int p2]) ++ List.replicate (5 - (lg_sl ([.ref h0, .int p0, .int p1, .int p2])).length) Slot.unset).toArray = ls at hl ⊢
  have hl : lv_has ls 5 [(0, .ref h0), (1, .int p0), (2, .int p1), (3, .int p2)] := hl
  refine lv_iload_n hx hb dX10_dog_0 rfl (lv_at hl 2 rfl) ?_
  refine lv_i2l (v := (p1).toInt64) hx hb dX10_dog_1 rfl ?_
  refine lv_lconst (v := 1) hx hb dX10_dog_2 (by decide) ?_
  refine lv_ldc2 hx hb hown (hts (.constantLong RX10 71 (9)) (by decide +kernel)) dX10_dog_3 ?_
  have hPc := hP.sub (ws' := []) [] rfl
  have hDc := hD.sub (ws' := []) [] (by decide) rfl
  have hKc := hK.sub (tys' := []) [] rfl
  have hFc := va_free (wc := []) hD hS hA [] rfl
  refine va_calli (va_runS (As := [.long (p1).toInt64, .long 1, .long (9)]) (rest := []) ⟨hx, hb, hml, hown, hts⟩ (c_X10_in l htr dC dI e0 s.heap.size ((p1).toInt64) 1 (9)) (va_cwS 3 hts gX10_dog_X10_in rfl rfl rfl (by decide +kernel) ⟨Nat.le_of_ble_eq_true rfl, Nat.le_of_ble_eq_true rfl⟩) ⟨fun a U g mk q => by obtain ⟨q0, q1, qP, qK, qD⟩ := q; exact ⟨q0, q1, qP, va_K.moved (u := U) (U := U.calling g mk a) (Vm.Alike.refl U.vm) qK, qD⟩, fun U hU hW => ⟨rfl, by rw [hU], by rw [hU]; exact hPc, va_K.moved hW.alike hKc, hDc.weaken (fun _ _ _ _ => trivial)⟩⟩ rfl rfl hl.1 rfl (lv_room (Nat.le_of_ble_eq_true rfl)) dX10_dog_6 ⟨Nat.le_of_ble_eq_true rfl, Nat.le_of_ble_eq_true rfl⟩) hS (fun q _ h => hFc q h) hFc (fun r1 u t H1 locs ht hvm hw hB hz1 hk1 hS => ?_)
  have hP1 : va_P (dC, dI) vwCl [] H1 := fun k q h => by simp at h
  have hD1 : va_D (va_A [] s.heap.size) [] := ⟨fun i j p q h => by simp at h, fun k q h => by simp at h⟩
  obtain ⟨hP, hD⟩ := va_join (wr := [(h0, .inr (15, zM th b)), ((b 0), .inr (4, [.int 0, .ref e0, .int 0])), ((b 1), .inr (4, [.int 0, .ref e0, .int 0])), ((b 2), .inr (4, [.int 0, .ref e0, .int 0])), ((b 3), .inr (4, [.int 0, .ref e0, .int 0]))]) (w1 := []) hP hD [] [0, 1, 2, 3, 4] rfl rfl (by decide) (by decide) hk1 hFc hP1 hD1
  generalize H1 = H at hP hS ⊢
  have hP : va_P (dC, dI) vwCl [(h0, .inr (15, zM th b)), ((b 0), .inr (4, [.int 0, .ref e0, .int 0])), ((b 1), .inr (4, [.int 0, .ref e0, .int 0])), ((b 2), .inr (4, [.int 0, .ref e0, .int 0])), ((b 3), .inr (4, [.int 0, .ref e0, .int 0]))] H := hP
  have hD : va_D A [(h0, .inr (15, zM th b)), ((b 0), .inr (4, [.int 0, .ref e0, .int 0])), ((b 1), .inr (4, [.int 0, .ref e0, .int 0])), ((b 2), .inr (4, [.int 0, .ref e0, .int 0])), ((b 3), .inr (4, [.int 0, .ref e0, .int 0]))] := hD
  have hr1 : r1 = (if 1 ≤ ((p1).toInt64) ∧ ((p1).toInt64) ≤ (9) then 1 else 0) := hw
  refine lv_if_eq (tgt := 28) hx hb dX10_dog_9 (by decide) (fun c2 => ?_) (fun c2 => ?_)
  · refine lv_iconst (v := 0) hx hb dX10_dog_28 (by decide) ?_
    refine lv_istore (lv' := [(4, .int 0), (0, .ref h0), (1, .int p0), (2, .int p1), (3, .int p2)]) hx hb dX10_dog_29 hl (by decide) rfl (fun ls hl => ?_)
    refine lv_aload_n hx hb dX10_dog_31 rfl (lv_at hl 1 rfl) ?_
    refine lv_aload_n hx hb dX10_dog_32 rfl (lv_at hl 1 rfl) ?_
    refine lv_iload_n hx hb dX10_dog_33 rfl (lv_at hl 2 rfl) ?_
    have hPc := hP.sub (ws' := [(h0, .inr (15, zM th b)), ((b 2), .inr (4, [.int 0, .ref e0, .int 0]))]) [0, 3] rfl
    have hDc := hD.sub (ws' := [(h0, .inr (15, zM th b)), ((b 2), .inr (4, [.int 0, .ref e0, .int 0]))]) [0, 3] (by decide) rfl
    have hKc := hK.sub (tys' := []) [] rfl
    have hFc := va_free (wc := [(h0, .inr (15, zM th b)), ((b 2), .inr (4, [.int 0, .ref e0, .int 0]))]) hD hS hA [0, 3] rfl
    have hEc := (hE.kept hS.2.1).narrow hFc
    refine va_calli (va_runV (As := [.int p0]) (rest := [.ref h0]) ⟨hx, hb, hml, hown, hts⟩ (c_X10_isTeam l htr dC dI e0 H.size h0 th b p0) (cwV 1 hts gX10_dog_X10_isTeam rfl rfl rfl (by decide +kernel) ⟨Nat.le_of_ble_eq_true rfl, Nat.le_of_ble_eq_true rfl⟩) ⟨fun a U g mk q => by obtain ⟨q0, q1, qP, qK, qD, qE⟩ := q; exact ⟨q0, q1, qP, va_K.moved (u := U) (U := U.calling g mk a) (Vm.Alike.refl U.vm) qK, qD, zE.same rfl qE⟩, va_recv hKc hPc (ci := 15) (q0 := 0) rfl rfl, fun U hU hW => ⟨rfl, by rw [hU], by rw [hU]; exact hPc, va_K.moved hW.alike hKc, hDc.weaken (fun _ _ _ _ => trivial), by rw [hU]; exact zE.warm hW hEc⟩⟩ rfl rfl hl.1 rfl (lv_room (Nat.le_of_ble_eq_true rfl)) dX10_dog_34 ⟨Nat.le_of_ble_eq_true rfl, Nat.le_of_ble_eq_true rfl⟩) hS (fun q _ h => hFc q h) hFc (fun r3 u t H1 locs ht hvm hw hB hz1 hk1 hS => ?_)
    obtain ⟨hP1, hK1, hD1⟩ := hB
    rw [ht] at hP1
    obtain ⟨hP, hD⟩ := va_join (wr := [((b 0), .inr (4, [.int 0, .ref e0, .int 0])), ((b 1), .inr (4, [.int 0, .ref e0, .int 0])), ((b 3), .inr (4, [.int 0, .ref e0, .int 0]))]) (w1 := [(h0, .inr (15, zM th b)), ((b 2), .inr (4, [.int 0, .ref e0, .int 0]))]) hP hD [0, 3] [1, 2, 4] rfl rfl (by decide) (by decide) hk1 hFc hP1 hD1
    generalize H1 = H at hP hS ⊢
    have hP : va_P (dC, dI) vwCl [((b 0), .inr (4, [.int 0, .ref e0, .int 0])), ((b 1), .inr (4, [.int 0, .ref e0, .int 0])), ((b 3), .inr (4, [.int 0, .ref e0, .int 0])), (h0, .inr (15, zM th b)), ((b 2), .inr (4, [.int 0, .ref e0, .int 0]))] H := hP
    have hD : va_D A [((b 0), .inr (4, [.int 0, .ref e0, .int 0])), ((b 1), .inr (4, [.int 0, .ref e0, .int 0])), ((b 3), .inr (4, [.int 0, .ref e0, .int 0])), (h0, .inr (15, zM th b)), ((b 2), .inr (4, [.int 0, .ref e0, .int 0]))] := hD
    obtain rfl : r3 = 0 := hw
    refine lv_if_ne (tgt := 44) hx hb dX10_dog_37 (by decide) (fun c4 => absurd (by decide) c4) (fun _ => ?_)
    refine lv_iconst (v := 1) hx hb dX10_dog_40 (by decide) ?_
    refine lv_goto (tgt := 72) hx hb dX10_dog_41 (by decide) ?_
    have hPc := hP.sub (ws' := [(h0, .inr (15, zM th b))]) [3] rfl
    have hDc := hD.sub (ws' := [(h0, .inr (15, zM th b))]) [3] (by decide) rfl
    have hKc := hK.sub (tys' := []) [] rfl
    have hFc := va_free (wc := [(h0, .inr (15, zM th b))]) hD hS hA [3] rfl
    refine va_calli (va_runV (As := [.int 1]) (rest := []) ⟨hx, hb, hml, hown, hts⟩ (c_X10_goesOn l htr dC dI e0 H.size h0 th b 1) (cwV 1 hts gX10_dog_X10_goesOn rfl rfl rfl (by decide +kernel) ⟨Nat.le_of_ble_eq_true rfl, Nat.le_of_ble_eq_true rfl⟩) ⟨fun a U g mk q => by obtain ⟨q0, q1, qP, qK, qD⟩ := q; exact ⟨q0, q1, qP, va_K.moved (u := U) (U := U.calling g mk a) (Vm.Alike.refl U.vm) qK, qD⟩, va_recv hKc hPc (ci := 15) (q0 := 0) rfl rfl, fun U hU hW => ⟨rfl, by rw [hU], by rw [hU]; exact hPc, va_K.moved hW.alike hKc, hDc.weaken (fun _ _ _ _ => trivial)⟩⟩ rfl rfl hl.1 rfl (lv_room (Nat.le_of_ble_eq_true rfl)) dX10_dog_72 ⟨Nat.le_of_ble_eq_true rfl, Nat.le_of_ble_eq_true rfl⟩) hS (fun q _ h => hFc q h) hFc (fun r5 u t H1 locs ht hvm hw hB hz1 hk1 hS => ?_)
    obtain ⟨hP1, hK1, hD1⟩ := hB
    rw [ht] at hP1
    obtain ⟨hP, hD⟩ := va_join (wr := [((b 0), .inr (4, [.int 0, .ref e0, .int 0])), ((b 1), .inr (4, [.int 0, .ref e0, .int 0])), ((b 3), .inr (4, [.int 0, .ref e0, .int 0])), ((b 2), .inr (4, [.int 0, .ref e0, .int 0]))]) (w1 := [(h0, .inr (15, zM 1 b))]) hP hD [3] [0, 1, 2, 4] rfl rfl (by decide) (by decide) hk1 hFc hP1 hD1
    generalize H1 = H at hP hS ⊢
    have hP : va_P (dC, dI) vwCl [((b 0), .inr (4, [.int 0, .ref e0, .int 0])), ((b 1), .inr (4, [.int 0, .ref e0, .int 0])), ((b 3), .inr (4, [.int 0, .ref e0, .int 0])), ((b 2), .inr (4, [.int 0, .ref e0, .int 0])), (h0, .inr (15, zM 1 b))] H := hP
    have hD : va_D A [((b 0), .inr (4, [.int 0, .ref e0, .int 0])), ((b 1), .inr (4, [.int 0, .ref e0, .int 0])), ((b 3), .inr (4, [.int 0, .ref e0, .int 0])), ((b 2), .inr (4, [.int 0, .ref e0, .int 0])), (h0, .inr (15, zM 1 b))] := hD
    obtain rfl : r5 = 0 := hw.trans (by decide)
    refine lv_if_ne (tgt := 80) hx hb dX10_dog_75 (by decide) (fun c6 => absurd (by decide) c6) (fun _ => ?_)
    refine lv_iconst (v := 0) hx hb dX10_dog_78 (by decide) ?_
    have hP9 := hP.sub (ws' := [(h0, .inr (15, zM 1 b))]) [4] rfl
    have hD9 := hD.sub (ws' := [(h0, .inr (15, zM 1 b))]) [4] (by decide) rfl
    have hK9 := hK.sub (tys' := []) [] rfl
    exact W.iret (v := 0) hx hb hr (fun t ht hW => ⟨⟨0, (), rfl, rfl, ⟨by rw [ht]; exact hP9, va_K.moved hW.alike hK9, hD9⟩⟩, hS.F ht⟩) hS.2.2 dX10_dog_79
  · refine lv_iload_n hx hb dX10_dog_12 rfl (lv_at hl 3 rfl) ?_
    refine lv_i2l (v := (p2).toInt64) hx hb dX10_dog_13 rfl ?_
    refine lv_lconst (v := 0) hx hb dX10_dog_14 (by decide) ?_
    refine lv_ldc2 hx hb hown (hts (.constantLong RX10 71 (9)) (by decide +kernel)) dX10_dog_15 ?_
    have hPc := hP.sub (ws' := []) [] rfl
    have hDc := hD.sub (ws' := []) [] (by decide) rfl
    have hKc := hK.sub (tys' := []) [] rfl
    have hFc := va_free (wc := []) hD hS hA [] rfl
    refine va_calli (va_runS (As := [.long (p2).toInt64, .long 0, .long (9)]) (rest := []) ⟨hx, hb, hml, hown, hts⟩ (c_X10_in l htr dC dI e0 H.size ((p2).toInt64) 0 (9)) (va_cwS 3 hts gX10_dog_X10_in rfl rfl rfl (by decide +kernel) ⟨Nat.le_of_ble_eq_true rfl, Nat.le_of_ble_eq_true rfl⟩) ⟨fun a U g mk q => by obtain ⟨q0, q1, qP, qK, qD⟩ := q; exact ⟨q0, q1, qP, va_K.moved (u := U) (U := U.calling g mk a) (Vm.Alike.refl U.vm) qK, qD⟩, fun U hU hW => ⟨rfl, by rw [hU], by rw [hU]; exact hPc, va_K.moved hW.alike hKc, hDc.weaken (fun _ _ _ _ => trivial)⟩⟩ rfl rfl hl.1 rfl (lv_room (Nat.le_of_ble_eq_true rfl)) dX10_dog_18 ⟨Nat.le_of_ble_eq_true rfl, Nat.le_of_ble_eq_true rfl⟩) hS (fun q _ h => hFc q h) hFc (fun r7 u t H1 locs ht hvm hw hB hz1 hk1 hS => ?_)
    have hP1 : va_P (dC, dI) vwCl [] H1 := fun k q h => by simp at h
    have hD1 : va_D (va_A [] H.size) [] := ⟨fun i j p q h => by simp at h, fun k q h => by simp at h⟩
    obtain ⟨hP, hD⟩ := va_join (wr := [(h0, .inr (15, zM th b)), ((b 0), .inr (4, [.int 0, .ref e0, .int 0])), ((b 1), .inr (4, [.int 0, .ref e0, .int 0])), ((b 2), .inr (4, [.int 0, .ref e0, .int 0])), ((b 3), .inr (4, [.int 0, .ref e0, .int 0]))]) (w1 := []) hP hD [] [0, 1, 2, 3, 4] rfl rfl (by decide) (by decide) hk1 hFc hP1 hD1
    generalize H1 = H at hP hS ⊢
    have hP : va_P (dC, dI) vwCl [(h0, .inr (15, zM th b)), ((b 0), .inr (4, [.int 0, .ref e0, .int 0])), ((b 1), .inr (4, [.int 0, .ref e0, .int 0])), ((b 2), .inr (4, [.int 0, .ref e0, .int 0])), ((b 3), .inr (4, [.int 0, .ref e0, .int 0]))] H := hP
    have hD : va_D A [(h0, .inr (15, zM th b)), ((b 0), .inr (4, [.int 0, .ref e0, .int 0])), ((b 1), .inr (4, [.int 0, .ref e0, .int 0])), ((b 2), .inr (4, [.int 0, .ref e0, .int 0])), ((b 3), .inr (4, [.int 0, .ref e0, .int 0]))] := hD
    have hr7 : r7 = (if 0 ≤ ((p2).toInt64) ∧ ((p2).toInt64) ≤ (9) then 1 else 0) := hw
    refine lv_if_eq (tgt := 28) hx hb dX10_dog_21 (by decide) (fun c8 => ?_) (fun c8 => ?_)
    · refine lv_iconst (v := 0) hx hb dX10_dog_28 (by decide) ?_
      refine lv_istore (lv' := [(4, .int 0), (0, .ref h0), (1, .int p0), (2, .int p1), (3, .int p2)]) hx hb dX10_dog_29 hl (by decide) rfl (fun ls hl => ?_)
      refine lv_aload_n hx hb dX10_dog_31 rfl (lv_at hl 1 rfl) ?_
      refine lv_aload_n hx hb dX10_dog_32 rfl (lv_at hl 1 rfl) ?_
      refine lv_iload_n hx hb dX10_dog_33 rfl (lv_at hl 2 rfl) ?_
      have hPc := hP.sub (ws' := [(h0, .inr (15, zM th b)), ((b 2), .inr (4, [.int 0, .ref e0, .int 0]))]) [0, 3] rfl
      have hDc := hD.sub (ws' := [(h0, .inr (15, zM th b)), ((b 2), .inr (4, [.int 0, .ref e0, .int 0]))]) [0, 3] (by decide) rfl
      have hKc := hK.sub (tys' := []) [] rfl
      have hFc := va_free (wc := [(h0, .inr (15, zM th b)), ((b 2), .inr (4, [.int 0, .ref e0, .int 0]))]) hD hS hA [0, 3] rfl
      have hEc := (hE.kept hS.2.1).narrow hFc
      refine va_calli (va_runV (As := [.int p0]) (rest := [.ref h0]) ⟨hx, hb, hml, hown, hts⟩ (c_X10_isTeam l htr dC dI e0 H.size h0 th b p0) (cwV 1 hts gX10_dog_X10_isTeam rfl rfl rfl (by decide +kernel) ⟨Nat.le_of_ble_eq_true rfl, Nat.le_of_ble_eq_true rfl⟩) ⟨fun a U g mk q => by obtain ⟨q0, q1, qP, qK, qD, qE⟩ := q; exact ⟨q0, q1, qP, va_K.moved (u := U) (U := U.calling g mk a) (Vm.Alike.refl U.vm) qK, qD, zE.same rfl qE⟩, va_recv hKc hPc (ci := 15) (q0 := 0) rfl rfl, fun U hU hW => ⟨rfl, by rw [hU], by rw [hU]; exact hPc, va_K.moved hW.alike hKc, hDc.weaken (fun _ _ _ _ => trivial), by rw [hU]; exact zE.warm hW hEc⟩⟩ rfl rfl hl.1 rfl (lv_room (Nat.le_of_ble_eq_true rfl)) dX10_dog_34 ⟨Nat.le_of_ble_eq_true rfl, Nat.le_of_ble_eq_true rfl⟩) hS (fun q _ h => hFc q h) hFc (fun r9 u t H1 locs ht hvm hw hB hz1 hk1 hS => ?_)
      obtain ⟨hP1, hK1, hD1⟩ := hB
      rw [ht] at hP1
      obtain ⟨hP, hD⟩ := va_join (wr := [((b 0), .inr (4, [.int 0, .ref e0, .int 0])), ((b 1), .inr (4, [.int 0, .ref e0, .int 0])), ((b 3), .inr (4, [.int 0, .ref e0, .int 0]))]) (w1 := [(h0, .inr (15, zM th b)), ((b 2), .inr (4, [.int 0, .ref e0, .int 0]))]) hP hD [0, 3] [1, 2, 4] rfl rfl (by decide) (by decide) hk1 hFc hP1 hD1
      generalize H1 = H at hP hS ⊢
      have hP : va_P (dC, dI) vwCl [((b 0), .inr (4, [.int 0, .ref e0, .int 0])), ((b 1), .inr (4, [.int 0, .ref e0, .int 0])), ((b 3), .inr (4, [.int 0, .ref e0, .int 0])), (h0, .inr (15, zM th b)), ((b 2), .inr (4, [.int 0, .ref e0, .int 0]))] H := hP
      have hD : va_D A [((b 0), .inr (4, [.int 0, .ref e0, .int 0])), ((b 1), .inr (4, [.int 0, .ref e0, .int 0])), ((b 3), .inr (4, [.int 0, .ref e0, .int 0])), (h0, .inr (15, zM th b)), ((b 2), .inr (4, [.int 0, .ref e0, .int 0]))] := hD
      obtain rfl : r9 = 0 := hw
      refine lv_if_ne (tgt := 44) hx hb dX10_dog_37 (by decide) (fun c10 => absurd (by decide) c10) (fun _ => ?_)
      refine lv_iconst (v := 1) hx hb dX10_dog_40 (by decide) ?_
      refine lv_goto (tgt := 72) hx hb dX10_dog_41 (by decide) ?_
      have hPc := hP.sub (ws' := [(h0, .inr (15, zM th b))]) [3] rfl
      have hDc := hD.sub (ws' := [(h0, .inr (15, zM th b))]) [3] (by decide) rfl
      have hKc := hK.sub (tys' := []) [] rfl
      have hFc := va_free (wc := [(h0, .inr (15, zM th b))]) hD hS hA [3] rfl
      refine va_calli (va_runV (As := [.int 1]) (rest := []) ⟨hx, hb, hml, hown, hts⟩ (c_X10_goesOn l htr dC dI e0 H.size h0 th b 1) (cwV 1 hts gX10_dog_X10_goesOn rfl rfl rfl (by decide +kernel) ⟨Nat.le_of_ble_eq_true rfl, Nat.le_of_ble_eq_true rfl⟩) ⟨fun a U g mk q => by obtain ⟨q0, q1, qP, qK, qD⟩ := q; exact ⟨q0, q1, qP, va_K.moved (u := U) (U := U.calling g mk a) (Vm.Alike.refl U.vm) qK, qD⟩, va_recv hKc hPc (ci := 15) (q0 := 0) rfl rfl, fun U hU hW => ⟨rfl, by rw [hU], by rw [hU]; exact hPc, va_K.moved hW.alike hKc, hDc.weaken (fun _ _ _ _ => trivial)⟩⟩ rfl rfl hl.1 rfl (lv_room (Nat.le_of_ble_eq_true rfl)) dX10_dog_72 ⟨Nat.le_of_ble_eq_true rfl, Nat.le_of_ble_eq_true rfl⟩) hS (fun q _ h => hFc q h) hFc (fun r11 u t H1 locs ht hvm hw hB hz1 hk1 hS => ?_)
      obtain ⟨hP1, hK1, hD1⟩ := hB
      rw [ht] at hP1
      obtain ⟨hP, hD⟩ := va_join (wr := [((b 0), .inr (4, [.int 0, .ref e0, .int 0])), ((b 1), .inr (4, [.int 0, .ref e0, .int 0])), ((b 3), .inr (4, [.int 0, .ref e0, .int 0])), ((b 2), .inr (4, [.int 0, .ref e0, .int 0]))]) (w1 := [(h0, .inr (15, zM 1 b))]) hP hD [3] [0, 1, 2, 4] rfl rfl (by decide) (by decide) hk1 hFc hP1 hD1
      generalize H1 = H at hP hS ⊢
      have hP : va_P (dC, dI) vwCl [((b 0), .inr (4, [.int 0, .ref e0, .int 0])), ((b 1), .inr (4, [.int 0, .ref e0, .int 0])), ((b 3), .inr (4, [.int 0, .ref e0, .int 0])), ((b 2), .inr (4, [.int 0, .ref e0, .int 0])), (h0, .inr (15, zM 1 b))] H := hP
      have hD : va_D A [((b 0), .inr (4, [.int 0, .ref e0, .int 0])), ((b 1), .inr (4, [.int 0, .ref e0, .int 0])), ((b 3), .inr (4, [.int 0, .ref e0, .int 0])), ((b 2), .inr (4, [.int 0, .ref e0, .int 0])), (h0, .inr (15, zM 1 b))] := hD
      obtain rfl : r11 = 0 := hw.trans (by decide)
      refine lv_if_ne (tgt := 80) hx hb dX10_dog_75 (by decide) (fun c12 => absurd (by decide) c12) (fun _ => ?_)
      refine lv_iconst (v := 0) hx hb dX10_dog_78 (by decide) ?_
      have hP9 := hP.sub (ws' := [(h0, .inr (15, zM 1 b))]) [4] rfl
      have hD9 := hD.sub (ws' := [(h0, .inr (15, zM 1 b))]) [4] (by decide) rfl
      have hK9 := hK.sub (tys' := []) [] rfl
      exact W.iret (v := 0) hx hb hr (fun t ht hW => ⟨⟨0, (), rfl, rfl, ⟨by rw [ht]; exact hP9, va_K.moved hW.alike hK9, hD9⟩⟩, hS.F ht⟩) hS.2.2 dX10_dog_79
    · refine lv_iconst (v := 1) hx hb dX10_dog_24 (by decide) ?_
      refine lv_goto (tgt := 29) hx hb dX10_dog_25 (by decide) ?_
      refine lv_istore (lv' := [(4, .int 1), (0, .ref h0), (1, .int p0), (2, .int p1), (3, .int p2)]) hx hb dX10_dog_29 hl (by decide) rfl (fun ls hl => ?_)
      refine lv_aload_n hx hb dX10_dog_31 rfl (lv_at hl 1 rfl) ?_
      refine lv_aload_n hx hb dX10_dog_32 rfl (lv_at hl 1 rfl) ?_
      refine lv_iload_n hx hb dX10_dog_33 rfl (lv_at hl 2 rfl) ?_
      have hPc := hP.sub (ws' := [(h0, .inr (15, zM th b)), ((b 2), .inr (4, [.int 0, .ref e0, .int 0]))]) [0, 3] rfl
      have hDc := hD.sub (ws' := [(h0, .inr (15, zM th b)), ((b 2), .inr (4, [.int 0, .ref e0, .int 0]))]) [0, 3] (by decide) rfl
      have hKc := hK.sub (tys' := []) [] rfl
      have hFc := va_free (wc := [(h0, .inr (15, zM th b)), ((b 2), .inr (4, [.int 0, .ref e0, .int 0]))]) hD hS hA [0, 3] rfl
      have hEc := (hE.kept hS.2.1).narrow hFc
      refine va_calli (va_runV (As := [.int p0]) (rest := [.ref h0]) ⟨hx, hb, hml, hown, hts⟩ (c_X10_isTeam l htr dC dI e0 H.size h0 th b p0) (cwV 1 hts gX10_dog_X10_isTeam rfl rfl rfl (by decide +kernel) ⟨Nat.le_of_ble_eq_true rfl, Nat.le_of_ble_eq_true rfl⟩) ⟨fun a U g mk q => by obtain ⟨q0, q1, qP, qK, qD, qE⟩ := q; exact ⟨q0, q1, qP, va_K.moved (u := U) (U := U.calling g mk a) (Vm.Alike.refl U.vm) qK, qD, zE.same rfl qE⟩, va_recv hKc hPc (ci := 15) (q0 := 0) rfl rfl, fun U hU hW => ⟨rfl, by rw [hU], by rw [hU]; exact hPc, va_K.moved hW.alike hKc, hDc.weaken (fun _ _ _ _ => trivial), by rw [hU]; exact zE.warm hW hEc⟩⟩ rfl rfl hl.1 rfl (lv_room (Nat.le_of_ble_eq_true rfl)) dX10_dog_34 ⟨Nat.le_of_ble_eq_true rfl, Nat.le_of_ble_eq_true rfl⟩) hS (fun q _ h => hFc q h) hFc (fun r13 u t H1 locs ht hvm hw hB hz1 hk1 hS => ?_)
      obtain ⟨hP1, hK1, hD1⟩ := hB
      rw [ht] at hP1
      obtain ⟨hP, hD⟩ := va_join (wr := [((b 0), .inr (4, [.int 0, .ref e0, .int 0])), ((b 1), .inr (4, [.int 0, .ref e0, .int 0])), ((b 3), .inr (4, [.int 0, .ref e0, .int 0]))]) (w1 := [(h0, .inr (15, zM th b)), ((b 2), .inr (4, [.int 0, .ref e0, .int 0]))]) hP hD [0, 3] [1, 2, 4] rfl rfl (by decide) (by decide) hk1 hFc hP1 hD1
      generalize H1 = H at hP hS ⊢
      have hP : va_P (dC, dI) vwCl [((b 0), .inr (4, [.int 0, .ref e0, .int 0])), ((b 1), .inr (4, [.int 0, .ref e0, .int 0])), ((b 3), .inr (4, [.int 0, .ref e0, .int 0])), (h0, .inr (15, zM th b)), ((b 2), .inr (4, [.int 0, .ref e0, .int 0]))] H := hP
      have hD : va_D A [((b 0), .inr (4, [.int 0, .ref e0, .int 0])), ((b 1), .inr (4, [.int 0, .ref e0, .int 0])), ((b 3), .inr (4, [.int 0, .ref e0, .int 0])), (h0, .inr (15, zM th b)), ((b 2), .inr (4, [.int 0, .ref e0, .int 0]))] := hD
      obtain rfl : r13 = 0 := hw
      refine lv_if_ne (tgt := 44) hx hb dX10_dog_37 (by decide) (fun c14 => absurd (by decide) c14) (fun _ => ?_)
      refine lv_iconst (v := 1) hx hb dX10_dog_40 (by decide) ?_
      refine lv_goto (tgt := 72) hx hb dX10_dog_41 (by decide) ?_
      have hPc := hP.sub (ws' := [(h0, .inr (15, zM th b))]) [3] rfl
      have hDc := hD.sub (ws' := [(h0, .inr (15, zM th b))]) [3] (by decide) rfl
      have hKc := hK.sub (tys' := []) [] rfl
      have hFc := va_free (wc := [(h0, .inr (15, zM th b))]) hD hS hA [3] rfl
      refine va_calli (va_runV (As := [.int 1]) (rest := []) ⟨hx, hb, hml, hown, hts⟩ (c_X10_goesOn l htr dC dI e0 H.size h0 th b 1) (cwV 1 hts gX10_dog_X10_goesOn rfl rfl rfl (by decide +kernel) ⟨Nat.le_of_ble_eq_true rfl, Nat.le_of_ble_eq_true rfl⟩) ⟨fun a U g mk q => by obtain ⟨q0, q1, qP, qK, qD⟩ := q; exact ⟨q0, q1, qP, va_K.moved (u := U) (U := U.calling g mk a) (Vm.Alike.refl U.vm) qK, qD⟩, va_recv hKc hPc (ci := 15) (q0 := 0) rfl rfl, fun U hU hW => ⟨rfl, by rw [hU], by rw [hU]; exact hPc, va_K.moved hW.alike hKc, hDc.weaken (fun _ _ _ _ => trivial)⟩⟩ rfl rfl hl.1 rfl (lv_room (Nat.le_of_ble_eq_true rfl)) dX10_dog_72 ⟨Nat.le_of_ble_eq_true rfl, Nat.le_of_ble_eq_true rfl⟩) hS (fun q _ h => hFc q h) hFc (fun r15 u t H1 locs ht hvm hw hB hz1 hk1 hS => ?_)
      obtain ⟨hP1, hK1, hD1⟩ := hB
      rw [ht] at hP1
      obtain ⟨hP, hD⟩ := va_join (wr := [((b 0), .inr (4, [.int 0, .ref e0, .int 0])), ((b 1), .inr (4, [.int 0, .ref e0, .int 0])), ((b 3), .inr (4, [.int 0, .ref e0, .int 0])), ((b 2), .inr (4, [.int 0, .ref e0, .int 0]))]) (w1 := [(h0, .inr (15, zM 1 b))]) hP hD [3] [0, 1, 2, 4] rfl rfl (by decide) (by decide) hk1 hFc hP1 hD1
      generalize H1 = H at hP hS ⊢
      have hP : va_P (dC, dI) vwCl [((b 0), .inr (4, [.int 0, .ref e0, .int 0])), ((b 1), .inr (4, [.int 0, .ref e0, .int 0])), ((b 3), .inr (4, [.int 0, .ref e0, .int 0])), ((b 2), .inr (4, [.int 0, .ref e0, .int 0])), (h0, .inr (15, zM 1 b))] H := hP
      have hD : va_D A [((b 0), .inr (4, [.int 0, .ref e0, .int 0])), ((b 1), .inr (4, [.int 0, .ref e0, .int 0])), ((b 3), .inr (4, [.int 0, .ref e0, .int 0])), ((b 2), .inr (4, [.int 0, .ref e0, .int 0])), (h0, .inr (15, zM 1 b))] := hD
      obtain rfl : r15 = 0 := hw.trans (by decide)
      refine lv_if_ne (tgt := 80) hx hb dX10_dog_75 (by decide) (fun c16 => absurd (by decide) c16) (fun _ => ?_)
      refine lv_iconst (v := 0) hx hb dX10_dog_78 (by decide) ?_
      have hP9 := hP.sub (ws' := [(h0, .inr (15, zM 1 b))]) [4] rfl
      have hD9 := hD.sub (ws' := [(h0, .inr (15, zM 1 b))]) [4] (by decide) rfl
      have hK9 := hK.sub (tys' := []) [] rfl
      exact W.iret (v := 0) hx hb hr (fun t ht hW => ⟨⟨0, (), rfl, rfl, ⟨by rw [ht]; exact hP9, va_K.moved hW.alike hK9, hD9⟩⟩, hS.F ht⟩) hS.2.2 dX10_dog_79

set_option maxRecDepth 20000 in
theorem ggX10_hitch_X10_goesOn : GoodIn wsX10_hitch wsX10_goesOn := goodIn_r _ [43, 44, 98, 99, 100, 101, 102, 103, 104, 105, 106, 107, 108] (by decide +kernel) (by decide +kernel)
set_option maxRecDepth 20000 in
theorem gX10_hitch_X10_goesOn : GoodIn wsX10_hitch (wsV RX10 78 RX10 yX10_goesOn wsX10_goesOn) := goodIn_app (goodIn_of _ (by decide +kernel)) ggX10_hitch_X10_goesOn
set_option maxRecDepth 20000 in
theorem ggX10_hitch_X10_isTeam : GoodIn wsX10_hitch wsX10_isTeam := goodIn_r _ [9, 3, 10, 11, 12, 13, 14, 15, 16, 17, 8, 18, 98, 99, 100, 101, 102, 103, 104, 105, 106, 107, 108, 148, 149, 150] (by decide +kernel) (by decide +kernel)
set_option maxRecDepth 20000 in
theorem gX10_hitch_X10_isTeam : GoodIn wsX10_hitch (wsV RX10 111 RX10 yX10_isTeam wsX10_isTeam) := goodIn_app (goodIn_of _ (by decide +kernel)) ggX10_hitch_X10_isTeam
theorem dX10_hitch_0 : decode cX10_hitch 0 = .ok (.aload_n 0, 1) := by decide +kernel
theorem dX10_hitch_1 : decode cX10_hitch 1 = .ok (.iload_n 1, 1) := by decide +kernel
theorem dX10_hitch_2 : decode cX10_hitch 2 = .ok (.invokevirtual 111, 3) := by decide +kernel
theorem dX10_hitch_5 : decode cX10_hitch 5 = .ok (.ifCond .eq 15, 3) := by decide +kernel
theorem dX10_hitch_20 : decode cX10_hitch 20 = .ok (.iconst 0, 1) := by decide +kernel
theorem dX10_hitch_21 : decode cX10_hitch 21 = .ok (.istore_n 3, 1) := by decide +kernel
theorem dX10_hitch_22 : decode cX10_hitch 22 = .ok (.iload_n 3, 1) := by decide +kernel
theorem dX10_hitch_23 : decode cX10_hitch 23 = .ok (.ifCond .eq 19, 3) := by decide +kernel
theorem dX10_hitch_42 : decode cX10_hitch 42 = .ok (.aconst_null, 1) := by decide +kernel
theorem dX10_hitch_43 : decode cX10_hitch 43 = .ok (.astore 4, 2) := by decide +kernel
theorem dX10_hitch_45 : decode cX10_hitch 45 = .ok (.iload_n 3, 1) := by decide +kernel
theorem dX10_hitch_46 : decode cX10_hitch 46 = .ok (.ifCond .eq 71, 3) := by decide +kernel
theorem dX10_hitch_117 : decode cX10_hitch 117 = .ok (.iconst 0, 1) := by decide +kernel
theorem dX10_hitch_118 : decode cX10_hitch 118 = .ok (.istore 5, 2) := by decide +kernel
theorem dX10_hitch_120 : decode cX10_hitch 120 = .ok (.aload_n 0, 1) := by decide +kernel
theorem dX10_hitch_121 : decode cX10_hitch 121 = .ok (.iload_n 3, 1) := by decide +kernel
theorem dX10_hitch_122 : decode cX10_hitch 122 = .ok (.ifCond .ne 7, 3) := by decide +kernel
theorem dX10_hitch_125 : decode cX10_hitch 125 = .ok (.iconst 1, 1) := by decide +kernel
theorem dX10_hitch_126 : decode cX10_hitch 126 = .ok (.goto 43, 3) := by decide +kernel
theorem dX10_hitch_169 : decode cX10_hitch 169 = .ok (.invokevirtual 78, 3) := by decide +kernel
theorem dX10_hitch_172 : decode cX10_hitch 172 = .ok (.ifCond .ne 5, 3) := by decide +kernel
theorem dX10_hitch_175 : decode cX10_hitch 175 = .ok (.iconst 0, 1) := by decide +kernel
theorem dX10_hitch_176 : decode cX10_hitch 176 = .ok (.ireturn, 1) := by decide +kernel
set_option maxHeartbeats 4000000 in
set_option maxRecDepth 100000 in
theorem c_X10_hitch (l : Launch) (htr : l.stackTraces = false) (dC : Nat → ClassId) (dI : Nat → Nat → Nat) (e0 sz : Nat) (h0 : Nat) (th : Int32) (b : Nat → Nat) (p0 : Int32) (p1 : Int32) : Met l yX10_hitch wsX10_hitch ({ frames := 2, cells := 0, slots := 0, locals := 46 }) (va_Pc [.ref h0, .int p0, .int p1] (fun U => U.heap.size = sz ∧ va_P (dC, dI) vwCl [(h0, .inr (15, zM th b)), ((b 0), .inr (4, [.int 0, .ref e0, .int 0])), ((b 1), .inr (4, [.int 0, .ref e0, .int 0])), ((b 2), .inr (4, [.int 0, .ref e0, .int 0])), ((b 3), .inr (4, [.int 0, .ref e0, .int 0]))] U.heap ∧ va_K (dC, dI) vwCl [] U ∧ va_D (fun _ => True) [(h0, .inr (15, zM th b)), ((b 0), .inr (4, [.int 0, .ref e0, .int 0])), ((b 1), .inr (4, [.int 0, .ref e0, .int 0])), ((b 2), .inr (4, [.int 0, .ref e0, .int 0])), ((b 3), .inr (4, [.int 0, .ref e0, .int 0]))] ∧ zE e0 (va_A [(h0, .inr (15, zM th b)), ((b 0), .inr (4, [.int 0, .ref e0, .int 0])), ((b 1), .inr (4, [.int 0, .ref e0, .int 0])), ((b 2), .inr (4, [.int 0, .ref e0, .int 0])), ((b 3), .inr (4, [.int 0, .ref e0, .int 0]))] sz) U U.heap)) (va_Qi (fun (r : Int32) (_ : Unit) => r = 0) (fun _ t => va_P (dC, dI) vwCl [(h0, .inr (15, zM 1 b))] t.heap ∧ va_K (dC, dI) vwCl [] t ∧ va_D (va_A [(h0, .inr (15, zM th b)), ((b 0), .inr (4, [.int 0, .ref e0, .int 0])), ((b 1), .inr (4, [.int 0, .ref e0, .int 0])), ((b 2), .inr (4, [.int 0, .ref e0, .int 0])), ((b 3), .inr (4, [.int 0, .ref e0, .int 0]))] sz) [(h0, .inr (15, zM 1 b))]) (va_A [(h0, .inr (15, zM th b)), ((b 0), .inr (4, [.int 0, .ref e0, .int 0])), ((b 1), .inr (4, [.int 0, .ref e0, .int 0])), ((b 2), .inr (4, [.int 0, .ref e0, .int 0])), ((b 3), .inr (4, [.int 0, .ref e0, .int 0]))] sz)) 0 0 (va_A [(h0, .inr (15, zM th b)), ((b 0), .inr (4, [.int 0, .ref e0, .int 0])), ((b 1), .inr (4, [.int 0, .ref e0, .int 0])), ((b 2), .inr (4, [.int 0, .ref e0, .int 0])), ((b 3), .inr (4, [.int 0, .ref e0, .int 0]))] sz) := by
  refine Met.ofW (cc := cX10_hitch) (maxL := 6) (ret := (some .int)) (by decide) rfl ?_
  intro p e s m args below meth c s₁ B hml hv
  obtain ⟨rfl, hsz, hP, hK, hD0, hE⟩ := hv
  have hx := B.exec
  have hb := B.bytes
  have hr := B.returns
  have hts := atoms_spec (ws := wsX10_hitch) B.pre
  have hown : s.vm.findClass RX10 = some m.cls := findClass_of_methodNamed B.named
  have hlocks := B.notSynchronized
  subst hsz
  have hD := hD0.self (sz := s.heap.size)
  generalize hAe : va_A [(h0, .inr (15, zM th b)), ((b 0), .inr (4, [.int 0, .ref e0, .int 0])), ((b 1), .inr (4, [.int 0, .ref e0, .int 0])), ((b 2), .inr (4, [.int 0, .ref e0, .int 0])), ((b 3), .inr (4, [.int 0, .ref e0, .int 0]))] s.heap.size = A at hD hE ⊢
  have hA : ∀ q : Nat, s.heap.size ≤ q → A q := fun q h => by rw [← hAe]; exact Or.inr h
  have hS : va_S A s.heap s.heap [] := va_S.rf
  have hl := lv_entry ([.ref h0, .int p0, .int p1]) (n := 6) (Nat.le_of_ble_eq_true rfl)
  rw [lg_entry_eq]
  generalize (lg_sl ([.ref h0, .int p0, .int p1]) ++ List.replicate (6 - (lg_sl ([.ref h0, .int p0, .int p1])).length) Slot.unset).toArray = ls at hl ⊢
  have hl : lv_has ls 6 [(0, .ref h0), (1, .int p0), (2, .int p1)] := hl
  refine lv_aload_n hx hb dX10_hitch_0 rfl (lv_at hl 0 rfl) ?_
  refine lv_iload_n hx hb dX10_hitch_1 rfl (lv_at hl 1 rfl) ?_
  have hPc := hP.sub (ws' := [(h0, .inr (15, zM th b)), ((b 2), .inr (4, [.int 0, .ref e0, .int 0]))]) [0, 3] rfl
  have hDc := hD.sub (ws' := [(h0, .inr (15, zM th b)), ((b 2), .inr (4, [.int 0, .ref e0, .int 0]))]) [0, 3] (by decide) rfl
  have hKc := hK.sub (tys' := []) [] rfl
  have hFc := va_free (wc := [(h0, .inr (15, zM th b)), ((b 2), .inr (4, [.int 0, .ref e0, .int 0]))]) hD hS hA [0, 3] rfl
  have hEc := (hE.kept hS.2.1).narrow hFc
  refine va_calli (va_runV (As := [.int p0]) (rest := []) ⟨hx, hb, hml, hown, hts⟩ (c_X10_isTeam l htr dC dI e0 s.heap.size h0 th b p0) (cwV 1 hts gX10_hitch_X10_isTeam rfl rfl rfl (by decide +kernel) ⟨Nat.le_of_ble_eq_true rfl, Nat.le_of_ble_eq_true rfl⟩) ⟨fun a U g mk q => by obtain ⟨q0, q1, qP, qK, qD, qE⟩ := q; exact ⟨q0, q1, qP, va_K.moved (u := U) (U := U.calling g mk a) (Vm.Alike.refl U.vm) qK, qD, zE.same rfl qE⟩, va_recv hKc hPc (ci := 15) (q0 := 0) rfl rfl, fun U hU hW => ⟨rfl, by rw [hU], by rw [hU]; exact hPc, va_K.moved hW.alike hKc, hDc.weaken (fun _ _ _ _ => trivial), by rw [hU]; exact zE.warm hW hEc⟩⟩ rfl rfl hl.1 rfl (lv_room (Nat.le_of_ble_eq_true rfl)) dX10_hitch_2 ⟨Nat.le_of_ble_eq_true rfl, Nat.le_of_ble_eq_true rfl⟩) hS (fun q _ h => hFc q h) hFc (fun r1 u t H1 locs ht hvm hw hB hz1 hk1 hS => ?_)
  obtain ⟨hP1, hK1, hD1⟩ := hB
  rw [ht] at hP1
  obtain ⟨hP, hD⟩ := va_join (wr := [((b 0), .inr (4, [.int 0, .ref e0, .int 0])), ((b 1), .inr (4, [.int 0, .ref e0, .int 0])), ((b 3), .inr (4, [.int 0, .ref e0, .int 0]))]) (w1 := [(h0, .inr (15, zM th b)), ((b 2), .inr (4, [.int 0, .ref e0, .int 0]))]) hP hD [0, 3] [1, 2, 4] rfl rfl (by decide) (by decide) hk1 hFc hP1 hD1
  generalize H1 = H at hP hS ⊢
  have hP : va_P (dC, dI) vwCl [((b 0), .inr (4, [.int 0, .ref e0, .int 0])), ((b 1), .inr (4, [.int 0, .ref e0, .int 0])), ((b 3), .inr (4, [.int 0, .ref e0, .int 0])), (h0, .inr (15, zM th b)), ((b 2), .inr (4, [.int 0, .ref e0, .int 0]))] H := hP
  have hD : va_D A [((b 0), .inr (4, [.int 0, .ref e0, .int 0])), ((b 1), .inr (4, [.int 0, .ref e0, .int 0])), ((b 3), .inr (4, [.int 0, .ref e0, .int 0])), (h0, .inr (15, zM th b)), ((b 2), .inr (4, [.int 0, .ref e0, .int 0]))] := hD
  obtain rfl : r1 = 0 := hw
  refine lv_if_eq (tgt := 20) hx hb dX10_hitch_5 (by decide) (fun _ => ?_) (fun c2 => absurd (by decide) c2)
  refine lv_iconst (v := 0) hx hb dX10_hitch_20 (by decide) ?_
  refine lv_istore_n (lv' := [(3, .int 0), (0, .ref h0), (1, .int p0), (2, .int p1)]) hx hb dX10_hitch_21 rfl hl (by decide) rfl (fun ls hl => ?_)
  refine lv_iload_n hx hb dX10_hitch_22 rfl (lv_at hl 0 rfl) ?_
  refine lv_if_eq (tgt := 42) hx hb dX10_hitch_23 (by decide) (fun _ => ?_) (fun c3 => absurd (by decide) c3)
  refine lv_null hx hb dX10_hitch_42 ?_
  refine lv_astoreN (lv' := [(4, .null), (3, .int 0), (0, .ref h0), (1, .int p0), (2, .int p1)]) hx hb dX10_hitch_43 hl (by decide) rfl (fun ls hl => ?_)
  refine lv_iload_n hx hb dX10_hitch_45 rfl (lv_at hl 1 rfl) ?_
  refine lv_if_eq (tgt := 117) hx hb dX10_hitch_46 (by decide) (fun _ => ?_) (fun c4 => absurd (by decide) c4)
  refine lv_iconst (v := 0) hx hb dX10_hitch_117 (by decide) ?_
  refine lv_istore (lv' := [(5, .int 0), (4, .null), (3, .int 0), (0, .ref h0), (1, .int p0), (2, .int p1)]) hx hb dX10_hitch_118 hl (by decide) rfl (fun ls hl => ?_)
  refine lv_aload_n hx hb dX10_hitch_120 rfl (lv_at hl 3 rfl) ?_
  refine lv_iload_n hx hb dX10_hitch_121 rfl (lv_at hl 2 rfl) ?_
  refine lv_if_ne (tgt := 129) hx hb dX10_hitch_122 (by decide) (fun c5 => absurd (by decide) c5) (fun _ => ?_)
  refine lv_iconst (v := 1) hx hb dX10_hitch_125 (by decide) ?_
  refine lv_goto (tgt := 169) hx hb dX10_hitch_126 (by decide) ?_
  have hPc := hP.sub (ws' := [(h0, .inr (15, zM th b))]) [3] rfl
  have hDc := hD.sub (ws' := [(h0, .inr (15, zM th b))]) [3] (by decide) rfl
  have hKc := hK.sub (tys' := []) [] rfl
  have hFc := va_free (wc := [(h0, .inr (15, zM th b))]) hD hS hA [3] rfl
  refine va_calli (va_runV (As := [.int 1]) (rest := []) ⟨hx, hb, hml, hown, hts⟩ (c_X10_goesOn l htr dC dI e0 H.size h0 th b 1) (cwV 1 hts gX10_hitch_X10_goesOn rfl rfl rfl (by decide +kernel) ⟨Nat.le_of_ble_eq_true rfl, Nat.le_of_ble_eq_true rfl⟩) ⟨fun a U g mk q => by obtain ⟨q0, q1, qP, qK, qD⟩ := q; exact ⟨q0, q1, qP, va_K.moved (u := U) (U := U.calling g mk a) (Vm.Alike.refl U.vm) qK, qD⟩, va_recv hKc hPc (ci := 15) (q0 := 0) rfl rfl, fun U hU hW => ⟨rfl, by rw [hU], by rw [hU]; exact hPc, va_K.moved hW.alike hKc, hDc.weaken (fun _ _ _ _ => trivial)⟩⟩ rfl rfl hl.1 rfl (lv_room (Nat.le_of_ble_eq_true rfl)) dX10_hitch_169 ⟨Nat.le_of_ble_eq_true rfl, Nat.le_of_ble_eq_true rfl⟩) hS (fun q _ h => hFc q h) hFc (fun r6 u t H1 locs ht hvm hw hB hz1 hk1 hS => ?_)
  obtain ⟨hP1, hK1, hD1⟩ := hB
  rw [ht] at hP1
  obtain ⟨hP, hD⟩ := va_join (wr := [((b 0), .inr (4, [.int 0, .ref e0, .int 0])), ((b 1), .inr (4, [.int 0, .ref e0, .int 0])), ((b 3), .inr (4, [.int 0, .ref e0, .int 0])), ((b 2), .inr (4, [.int 0, .ref e0, .int 0]))]) (w1 := [(h0, .inr (15, zM 1 b))]) hP hD [3] [0, 1, 2, 4] rfl rfl (by decide) (by decide) hk1 hFc hP1 hD1
  generalize H1 = H at hP hS ⊢
  have hP : va_P (dC, dI) vwCl [((b 0), .inr (4, [.int 0, .ref e0, .int 0])), ((b 1), .inr (4, [.int 0, .ref e0, .int 0])), ((b 3), .inr (4, [.int 0, .ref e0, .int 0])), ((b 2), .inr (4, [.int 0, .ref e0, .int 0])), (h0, .inr (15, zM 1 b))] H := hP
  have hD : va_D A [((b 0), .inr (4, [.int 0, .ref e0, .int 0])), ((b 1), .inr (4, [.int 0, .ref e0, .int 0])), ((b 3), .inr (4, [.int 0, .ref e0, .int 0])), ((b 2), .inr (4, [.int 0, .ref e0, .int 0])), (h0, .inr (15, zM 1 b))] := hD
  obtain rfl : r6 = 0 := hw.trans (by decide)
  refine lv_if_ne (tgt := 177) hx hb dX10_hitch_172 (by decide) (fun c7 => absurd (by decide) c7) (fun _ => ?_)
  refine lv_iconst (v := 0) hx hb dX10_hitch_175 (by decide) ?_
  have hP9 := hP.sub (ws' := [(h0, .inr (15, zM 1 b))]) [4] rfl
  have hD9 := hD.sub (ws' := [(h0, .inr (15, zM 1 b))]) [4] (by decide) rfl
  have hK9 := hK.sub (tys' := []) [] rfl
  exact W.iret (v := 0) hx hb hr (fun t ht hW => ⟨⟨0, (), rfl, rfl, ⟨by rw [ht]; exact hP9, va_K.moved hW.alike hK9, hD9⟩⟩, hS.F ht⟩) hS.2.2 dX10_hitch_176

set_option maxRecDepth 20000 in
theorem ggX10_send_X10_goesOn : GoodIn wsX10_send wsX10_goesOn := goodIn_r _ [45, 46, 47, 48, 49, 50, 51, 52, 53, 54, 55, 56, 57] (by decide +kernel) (by decide +kernel)
set_option maxRecDepth 20000 in
theorem gX10_send_X10_goesOn : GoodIn wsX10_send (wsV RX10 78 RX10 yX10_goesOn wsX10_goesOn) := goodIn_app (goodIn_of _ (by decide +kernel)) ggX10_send_X10_goesOn
set_option maxRecDepth 20000 in
theorem ggX10_send_X10_isTeam : GoodIn wsX10_send wsX10_isTeam := goodIn_r _ [9, 2, 10, 11, 12, 13, 14, 15, 16, 17, 8, 18, 47, 48, 49, 50, 51, 52, 53, 54, 55, 56, 57, 80, 81, 82] (by decide +kernel) (by decide +kernel)
set_option maxRecDepth 20000 in
theorem gX10_send_X10_isTeam : GoodIn wsX10_send (wsV RX10 111 RX10 yX10_isTeam wsX10_isTeam) := goodIn_app (goodIn_of _ (by decide +kernel)) ggX10_send_X10_isTeam
theorem dX10_send_0 : decode cX10_send 0 = .ok (.aload_n 0, 1) := by decide +kernel
theorem dX10_send_1 : decode cX10_send 1 = .ok (.iload_n 1, 1) := by decide +kernel
theorem dX10_send_2 : decode cX10_send 2 = .ok (.invokevirtual 111, 3) := by decide +kernel
theorem dX10_send_5 : decode cX10_send 5 = .ok (.ifCond .eq 28, 3) := by decide +kernel
theorem dX10_send_33 : decode cX10_send 33 = .ok (.iconst 0, 1) := by decide +kernel
theorem dX10_send_34 : decode cX10_send 34 = .ok (.istore 4, 2) := by decide +kernel
theorem dX10_send_36 : decode cX10_send 36 = .ok (.iload 4, 2) := by decide +kernel
theorem dX10_send_38 : decode cX10_send 38 = .ok (.ifCond .eq 28, 3) := by decide +kernel
theorem dX10_send_66 : decode cX10_send 66 = .ok (.iconst 0, 1) := by decide +kernel
theorem dX10_send_67 : decode cX10_send 67 = .ok (.istore 5, 2) := by decide +kernel
theorem dX10_send_69 : decode cX10_send 69 = .ok (.iload 4, 2) := by decide +kernel
theorem dX10_send_71 : decode cX10_send 71 = .ok (.ifCond .eq 34, 3) := by decide +kernel
theorem dX10_send_105 : decode cX10_send 105 = .ok (.iconst 0, 1) := by decide +kernel
theorem dX10_send_106 : decode cX10_send 106 = .ok (.istore 6, 2) := by decide +kernel
theorem dX10_send_108 : decode cX10_send 108 = .ok (.aload_n 0, 1) := by decide +kernel
theorem dX10_send_109 : decode cX10_send 109 = .ok (.iload 4, 2) := by decide +kernel
theorem dX10_send_111 : decode cX10_send 111 = .ok (.ifCond .ne 7, 3) := by decide +kernel
theorem dX10_send_114 : decode cX10_send 114 = .ok (.iconst 1, 1) := by decide +kernel
theorem dX10_send_115 : decode cX10_send 115 = .ok (.goto 38, 3) := by decide +kernel
theorem dX10_send_153 : decode cX10_send 153 = .ok (.invokevirtual 78, 3) := by decide +kernel
theorem dX10_send_156 : decode cX10_send 156 = .ok (.ifCond .ne 5, 3) := by decide +kernel
theorem dX10_send_159 : decode cX10_send 159 = .ok (.iconst 0, 1) := by decide +kernel
theorem dX10_send_160 : decode cX10_send 160 = .ok (.ireturn, 1) := by decide +kernel
set_option maxHeartbeats 4000000 in
set_option maxRecDepth 100000 in
theorem c_X10_send (l : Launch) (htr : l.stackTraces = false) (dC : Nat → ClassId) (dI : Nat → Nat → Nat) (e0 sz : Nat) (h0 : Nat) (th : Int32) (b : Nat → Nat) (p0 : Int32) (p1 : Int32) (p2 : Int32) : Met l yX10_send wsX10_send ({ frames := 2, cells := 0, slots := 0, locals := 46 }) (va_Pc [.ref h0, .int p0, .int p1, .int p2] (fun U => U.heap.size = sz ∧ va_P (dC, dI) vwCl [(h0, .inr (15, zM th b)), ((b 0), .inr (4, [.int 0, .ref e0, .int 0])), ((b 1), .inr (4, [.int 0, .ref e0, .int 0])), ((b 2), .inr (4, [.int 0, .ref e0, .int 0])), ((b 3), .inr (4, [.int 0, .ref e0, .int 0]))] U.heap ∧ va_K (dC, dI) vwCl [] U ∧ va_D (fun _ => True) [(h0, .inr (15, zM th b)), ((b 0), .inr (4, [.int 0, .ref e0, .int 0])), ((b 1), .inr (4, [.int 0, .ref e0, .int 0])), ((b 2), .inr (4, [.int 0, .ref e0, .int 0])), ((b 3), .inr (4, [.int 0, .ref e0, .int 0]))] ∧ zE e0 (va_A [(h0, .inr (15, zM th b)), ((b 0), .inr (4, [.int 0, .ref e0, .int 0])), ((b 1), .inr (4, [.int 0, .ref e0, .int 0])), ((b 2), .inr (4, [.int 0, .ref e0, .int 0])), ((b 3), .inr (4, [.int 0, .ref e0, .int 0]))] sz) U U.heap)) (va_Qi (fun (r : Int32) (_ : Unit) => r = 0) (fun _ t => va_P (dC, dI) vwCl [(h0, .inr (15, zM 1 b))] t.heap ∧ va_K (dC, dI) vwCl [] t ∧ va_D (va_A [(h0, .inr (15, zM th b)), ((b 0), .inr (4, [.int 0, .ref e0, .int 0])), ((b 1), .inr (4, [.int 0, .ref e0, .int 0])), ((b 2), .inr (4, [.int 0, .ref e0, .int 0])), ((b 3), .inr (4, [.int 0, .ref e0, .int 0]))] sz) [(h0, .inr (15, zM 1 b))]) (va_A [(h0, .inr (15, zM th b)), ((b 0), .inr (4, [.int 0, .ref e0, .int 0])), ((b 1), .inr (4, [.int 0, .ref e0, .int 0])), ((b 2), .inr (4, [.int 0, .ref e0, .int 0])), ((b 3), .inr (4, [.int 0, .ref e0, .int 0]))] sz)) 0 0 (va_A [(h0, .inr (15, zM th b)), ((b 0), .inr (4, [.int 0, .ref e0, .int 0])), ((b 1), .inr (4, [.int 0, .ref e0, .int 0])), ((b 2), .inr (4, [.int 0, .ref e0, .int 0])), ((b 3), .inr (4, [.int 0, .ref e0, .int 0]))] sz) := by
  refine Met.ofW (cc := cX10_send) (maxL := 7) (ret := (some .int)) (by decide) rfl ?_
  intro p e s m args below meth c s₁ B hml hv
  obtain ⟨rfl, hsz, hP, hK, hD0, hE⟩ := hv
  have hx := B.exec
  have hb := B.bytes
  have hr := B.returns
  have hts := atoms_spec (ws := wsX10_send) B.pre
  have hown : s.vm.findClass RX10 = some m.cls := findClass_of_methodNamed B.named
  have hlocks := B.notSynchronized
  subst hsz
  have hD := hD0.self (sz := s.heap.size)
  generalize hAe : va_A [(h0, .inr (15, zM th b)), ((b 0), .inr (4, [.int 0, .ref e0, .int 0])), ((b 1), .inr (4, [.int 0, .ref e0, .int 0])), ((b 2), .inr (4, [.int 0, .ref e0, .int 0])), ((b 3), .inr (4, [.int 0, .ref e0, .int 0]))] s.heap.size = A at hD hE ⊢
  have hA : ∀ q : Nat, s.heap.size ≤ q → A q := fun q h => by rw [← hAe]; exact Or.inr h
  have hS : va_S A s.heap s.heap [] := va_S.rf
  have hl := lv_entry ([.ref h0, .int p0, .int p1, .int p2]) (n := 7) (Nat.le_of_ble_eq_true rfl)
  rw [lg_entry_eq]
  generalize (lg_sl ([.ref h0, .int p0, .int p1, .int p2]) ++ List.replicate (7 - (lg_sl ([.ref h0, .int p0, .int p1, .int p2])).length) Slot.unset).toArray = ls at hl ⊢
  have hl : lv_has ls 7 [(0, .ref h0), (1, .int p0), (2, .int p1), (3, .int p2)] := hl
  refine lv_aload_n hx hb dX10_send_0 rfl (lv_at hl 0 rfl) ?_
  refine lv_iload_n hx hb dX10_send_1 rfl (lv_at hl 1 rfl) ?_
  have hPc := hP.sub (ws' := [(h0, .inr (15, zM th b)), ((b 2), .inr (4, [.int 0, .ref e0, .int 0]))]) [0, 3] rfl
  have hDc := hD.sub (ws' := [(h0, .inr (15, zM th b)), ((b 2), .inr (4, [.int 0, .ref e0, .int 0]))]) [0, 3] (by decide) rfl
  have hKc := hK.sub (tys' := []) [] rfl
  have hFc := va_free (wc := [(h0, .inr (15, zM th b)), ((b 2), .inr (4, [.int 0, .ref e0, .int 0]))]) hD hS hA [0, 3] rfl
  have hEc := (hE.kept hS.2.1).narrow hFc
  refine va_calli (va_runV (As := [.int p0]) (rest := []) ⟨hx, hb, hml, hown, hts⟩ (c_X10_isTeam l htr dC dI e0 s.heap.size h0 th b p0) (cwV 1 hts gX10_send_X10_isTeam rfl rfl rfl (by decide +kernel) ⟨Nat.le_of_ble_eq_true rfl, Nat.le_of_ble_eq_true rfl⟩) ⟨fun a U g mk q => by obtain ⟨q0, q1, qP, qK, qD, qE⟩ := q; exact ⟨q0, q1, qP, va_K.moved (u := U) (U := U.calling g mk a) (Vm.Alike.refl U.vm) qK, qD, zE.same rfl qE⟩, va_recv hKc hPc (ci := 15) (q0 := 0) rfl rfl, fun U hU hW => ⟨rfl, by rw [hU], by rw [hU]; exact hPc, va_K.moved hW.alike hKc, hDc.weaken (fun _ _ _ _ => trivial), by rw [hU]; exact zE.warm hW hEc⟩⟩ rfl rfl hl.1 rfl (lv_room (Nat.le_of_ble_eq_true rfl)) dX10_send_2 ⟨Nat.le_of_ble_eq_true rfl, Nat.le_of_ble_eq_true rfl⟩) hS (fun q _ h => hFc q h) hFc (fun r1 u t H1 locs ht hvm hw hB hz1 hk1 hS => ?_)
  obtain ⟨hP1, hK1, hD1⟩ := hB
  rw [ht] at hP1
  obtain ⟨hP, hD⟩ := va_join (wr := [((b 0), .inr (4, [.int 0, .ref e0, .int 0])), ((b 1), .inr (4, [.int 0, .ref e0, .int 0])), ((b 3), .inr (4, [.int 0, .ref e0, .int 0]))]) (w1 := [(h0, .inr (15, zM th b)), ((b 2), .inr (4, [.int 0, .ref e0, .int 0]))]) hP hD [0, 3] [1, 2, 4] rfl rfl (by decide) (by decide) hk1 hFc hP1 hD1
  generalize H1 = H at hP hS ⊢
  have hP : va_P (dC, dI) vwCl [((b 0), .inr (4, [.int 0, .ref e0, .int 0])), ((b 1), .inr (4, [.int 0, .ref e0, .int 0])), ((b 3), .inr (4, [.int 0, .ref e0, .int 0])), (h0, .inr (15, zM th b)), ((b 2), .inr (4, [.int 0, .ref e0, .int 0]))] H := hP
  have hD : va_D A [((b 0), .inr (4, [.int 0, .ref e0, .int 0])), ((b 1), .inr (4, [.int 0, .ref e0, .int 0])), ((b 3), .inr (4, [.int 0, .ref e0, .int 0])), (h0, .inr (15, zM th b)), ((b 2), .inr (4, [.int 0, .ref e0, .int 0]))] := hD
  obtain rfl : r1 = 0 := hw
  refine lv_if_eq (tgt := 33) hx hb dX10_send_5 (by decide) (fun _ => ?_) (fun c2 => absurd (by decide) c2)
  refine lv_iconst (v := 0) hx hb dX10_send_33 (by decide) ?_
  refine lv_istore (lv' := [(4, .int 0), (0, .ref h0), (1, .int p0), (2, .int p1), (3, .int p2)]) hx hb dX10_send_34 hl (by decide) rfl (fun ls hl => ?_)
  refine lv_iload hx hb dX10_send_36 (lv_at hl 0 rfl) ?_
  refine lv_if_eq (tgt := 66) hx hb dX10_send_38 (by decide) (fun _ => ?_) (fun c3 => absurd (by decide) c3)
  refine lv_iconst (v := 0) hx hb dX10_send_66 (by decide) ?_
  refine lv_istore (lv' := [(5, .int 0), (4, .int 0), (0, .ref h0), (1, .int p0), (2, .int p1), (3, .int p2)]) hx hb dX10_send_67 hl (by decide) rfl (fun ls hl => ?_)
  refine lv_iload hx hb dX10_send_69 (lv_at hl 1 rfl) ?_
  refine lv_if_eq (tgt := 105) hx hb dX10_send_71 (by decide) (fun _ => ?_) (fun c4 => absurd (by decide) c4)
  refine lv_iconst (v := 0) hx hb dX10_send_105 (by decide) ?_
  refine lv_istore (lv' := [(6, .int 0), (5, .int 0), (4, .int 0), (0, .ref h0), (1, .int p0), (2, .int p1), (3, .int p2)]) hx hb dX10_send_106 hl (by decide) rfl (fun ls hl => ?_)
  refine lv_aload_n hx hb dX10_send_108 rfl (lv_at hl 3 rfl) ?_
  refine lv_iload hx hb dX10_send_109 (lv_at hl 2 rfl) ?_
  refine lv_if_ne (tgt := 118) hx hb dX10_send_111 (by decide) (fun c5 => absurd (by decide) c5) (fun _ => ?_)
  refine lv_iconst (v := 1) hx hb dX10_send_114 (by decide) ?_
  refine lv_goto (tgt := 153) hx hb dX10_send_115 (by decide) ?_
  have hPc := hP.sub (ws' := [(h0, .inr (15, zM th b))]) [3] rfl
  have hDc := hD.sub (ws' := [(h0, .inr (15, zM th b))]) [3] (by decide) rfl
  have hKc := hK.sub (tys' := []) [] rfl
  have hFc := va_free (wc := [(h0, .inr (15, zM th b))]) hD hS hA [3] rfl
  refine va_calli (va_runV (As := [.int 1]) (rest := []) ⟨hx, hb, hml, hown, hts⟩ (c_X10_goesOn l htr dC dI e0 H.size h0 th b 1) (cwV 1 hts gX10_send_X10_goesOn rfl rfl rfl (by decide +kernel) ⟨Nat.le_of_ble_eq_true rfl, Nat.le_of_ble_eq_true rfl⟩) ⟨fun a U g mk q => by obtain ⟨q0, q1, qP, qK, qD⟩ := q; exact ⟨q0, q1, qP, va_K.moved (u := U) (U := U.calling g mk a) (Vm.Alike.refl U.vm) qK, qD⟩, va_recv hKc hPc (ci := 15) (q0 := 0) rfl rfl, fun U hU hW => ⟨rfl, by rw [hU], by rw [hU]; exact hPc, va_K.moved hW.alike hKc, hDc.weaken (fun _ _ _ _ => trivial)⟩⟩ rfl rfl hl.1 rfl (lv_room (Nat.le_of_ble_eq_true rfl)) dX10_send_153 ⟨Nat.le_of_ble_eq_true rfl, Nat.le_of_ble_eq_true rfl⟩) hS (fun q _ h => hFc q h) hFc (fun r6 u t H1 locs ht hvm hw hB hz1 hk1 hS => ?_)
  obtain ⟨hP1, hK1, hD1⟩ := hB
  rw [ht] at hP1
  obtain ⟨hP, hD⟩ := va_join (wr := [((b 0), .inr (4, [.int 0, .ref e0, .int 0])), ((b 1), .inr (4, [.int 0, .ref e0, .int 0])), ((b 3), .inr (4, [.int 0, .ref e0, .int 0])), ((b 2), .inr (4, [.int 0, .ref e0, .int 0]))]) (w1 := [(h0, .inr (15, zM 1 b))]) hP hD [3] [0, 1, 2, 4] rfl rfl (by decide) (by decide) hk1 hFc hP1 hD1
  generalize H1 = H at hP hS ⊢
  have hP : va_P (dC, dI) vwCl [((b 0), .inr (4, [.int 0, .ref e0, .int 0])), ((b 1), .inr (4, [.int 0, .ref e0, .int 0])), ((b 3), .inr (4, [.int 0, .ref e0, .int 0])), ((b 2), .inr (4, [.int 0, .ref e0, .int 0])), (h0, .inr (15, zM 1 b))] H := hP
  have hD : va_D A [((b 0), .inr (4, [.int 0, .ref e0, .int 0])), ((b 1), .inr (4, [.int 0, .ref e0, .int 0])), ((b 3), .inr (4, [.int 0, .ref e0, .int 0])), ((b 2), .inr (4, [.int 0, .ref e0, .int 0])), (h0, .inr (15, zM 1 b))] := hD
  obtain rfl : r6 = 0 := hw.trans (by decide)
  refine lv_if_ne (tgt := 161) hx hb dX10_send_156 (by decide) (fun c7 => absurd (by decide) c7) (fun _ => ?_)
  refine lv_iconst (v := 0) hx hb dX10_send_159 (by decide) ?_
  have hP9 := hP.sub (ws' := [(h0, .inr (15, zM 1 b))]) [4] rfl
  have hD9 := hD.sub (ws' := [(h0, .inr (15, zM 1 b))]) [4] (by decide) rfl
  have hK9 := hK.sub (tys' := []) [] rfl
  exact W.iret (v := 0) hx hb hr (fun t ht hW => ⟨⟨0, (), rfl, rfl, ⟨by rw [ht]; exact hP9, va_K.moved hW.alike hK9, hD9⟩⟩, hS.F ht⟩) hS.2.2 dX10_send_160

set_option maxRecDepth 20000 in
theorem ggX10_begin_X10_goesOn : GoodIn wsX10_begin wsX10_goesOn := goodIn_r _ [48, 49, 92, 93, 94, 95, 96, 97, 98, 99, 100, 101, 102] (by decide +kernel) (by decide +kernel)
set_option maxRecDepth 20000 in
theorem gX10_begin_X10_goesOn : GoodIn wsX10_begin (wsV RX10 78 RX10 yX10_goesOn wsX10_goesOn) := goodIn_app (goodIn_of _ (by decide +kernel)) ggX10_begin_X10_goesOn
set_option maxRecDepth 20000 in
theorem ggX10_begin_X10_isTeam : GoodIn wsX10_begin wsX10_isTeam := goodIn_r _ [14, 1, 15, 16, 17, 18, 19, 20, 21, 22, 13, 23, 92, 93, 94, 95, 96, 97, 98, 99, 100, 101, 102, 125, 126, 127] (by decide +kernel) (by decide +kernel)
set_option maxRecDepth 20000 in
theorem gX10_begin_X10_isTeam : GoodIn wsX10_begin (wsV RX10 111 RX10 yX10_isTeam wsX10_isTeam) := goodIn_app (goodIn_of _ (by decide +kernel)) ggX10_begin_X10_isTeam
theorem dX10_begin_0 : decode cX10_begin 0 = .ok (.aload_n 0, 1) := by decide +kernel
theorem dX10_begin_1 : decode cX10_begin 1 = .ok (.iload_n 1, 1) := by decide +kernel
theorem dX10_begin_2 : decode cX10_begin 2 = .ok (.invokevirtual 111, 3) := by decide +kernel
theorem dX10_begin_5 : decode cX10_begin 5 = .ok (.ifCond .eq 72, 3) := by decide +kernel
theorem dX10_begin_77 : decode cX10_begin 77 = .ok (.iconst 0, 1) := by decide +kernel
theorem dX10_begin_78 : decode cX10_begin 78 = .ok (.istore_n 3, 1) := by decide +kernel
theorem dX10_begin_79 : decode cX10_begin 79 = .ok (.aload_n 0, 1) := by decide +kernel
theorem dX10_begin_80 : decode cX10_begin 80 = .ok (.aload_n 0, 1) := by decide +kernel
theorem dX10_begin_81 : decode cX10_begin 81 = .ok (.iload_n 1, 1) := by decide +kernel
theorem dX10_begin_82 : decode cX10_begin 82 = .ok (.invokevirtual 111, 3) := by decide +kernel
theorem dX10_begin_85 : decode cX10_begin 85 = .ok (.ifCond .ne 7, 3) := by decide +kernel
theorem dX10_begin_88 : decode cX10_begin 88 = .ok (.iconst 1, 1) := by decide +kernel
theorem dX10_begin_89 : decode cX10_begin 89 = .ok (.goto 28, 3) := by decide +kernel
theorem dX10_begin_117 : decode cX10_begin 117 = .ok (.invokevirtual 78, 3) := by decide +kernel
theorem dX10_begin_120 : decode cX10_begin 120 = .ok (.ifCond .ne 5, 3) := by decide +kernel
theorem dX10_begin_123 : decode cX10_begin 123 = .ok (.iconst 0, 1) := by decide +kernel
theorem dX10_begin_124 : decode cX10_begin 124 = .ok (.ireturn, 1) := by decide +kernel
set_option maxHeartbeats 4000000 in
set_option maxRecDepth 100000 in
theorem c_X10_begin (l : Launch) (htr : l.stackTraces = false) (dC : Nat → ClassId) (dI : Nat → Nat → Nat) (e0 sz : Nat) (h0 : Nat) (th : Int32) (b : Nat → Nat) (p0 : Int32) (p1 : Int32) : Met l yX10_begin wsX10_begin ({ frames := 2, cells := 0, slots := 0, locals := 46 }) (va_Pc [.ref h0, .int p0, .int p1] (fun U => U.heap.size = sz ∧ va_P (dC, dI) vwCl [(h0, .inr (15, zM th b)), ((b 0), .inr (4, [.int 0, .ref e0, .int 0])), ((b 1), .inr (4, [.int 0, .ref e0, .int 0])), ((b 2), .inr (4, [.int 0, .ref e0, .int 0])), ((b 3), .inr (4, [.int 0, .ref e0, .int 0]))] U.heap ∧ va_K (dC, dI) vwCl [] U ∧ va_D (fun _ => True) [(h0, .inr (15, zM th b)), ((b 0), .inr (4, [.int 0, .ref e0, .int 0])), ((b 1), .inr (4, [.int 0, .ref e0, .int 0])), ((b 2), .inr (4, [.int 0, .ref e0, .int 0])), ((b 3), .inr (4, [.int 0, .ref e0, .int 0]))] ∧ zE e0 (va_A [(h0, .inr (15, zM th b)), ((b 0), .inr (4, [.int 0, .ref e0, .int 0])), ((b 1), .inr (4, [.int 0, .ref e0, .int 0])), ((b 2), .inr (4, [.int 0, .ref e0, .int 0])), ((b 3), .inr (4, [.int 0, .ref e0, .int 0]))] sz) U U.heap)) (va_Qi (fun (r : Int32) (_ : Unit) => r = 0) (fun _ t => va_P (dC, dI) vwCl [(h0, .inr (15, zM 1 b))] t.heap ∧ va_K (dC, dI) vwCl [] t ∧ va_D (va_A [(h0, .inr (15, zM th b)), ((b 0), .inr (4, [.int 0, .ref e0, .int 0])), ((b 1), .inr (4, [.int 0, .ref e0, .int 0])), ((b 2), .inr (4, [.int 0, .ref e0, .int 0])), ((b 3), .inr (4, [.int 0, .ref e0, .int 0]))] sz) [(h0, .inr (15, zM 1 b))]) (va_A [(h0, .inr (15, zM th b)), ((b 0), .inr (4, [.int 0, .ref e0, .int 0])), ((b 1), .inr (4, [.int 0, .ref e0, .int 0])), ((b 2), .inr (4, [.int 0, .ref e0, .int 0])), ((b 3), .inr (4, [.int 0, .ref e0, .int 0]))] sz)) 0 0 (va_A [(h0, .inr (15, zM th b)), ((b 0), .inr (4, [.int 0, .ref e0, .int 0])), ((b 1), .inr (4, [.int 0, .ref e0, .int 0])), ((b 2), .inr (4, [.int 0, .ref e0, .int 0])), ((b 3), .inr (4, [.int 0, .ref e0, .int 0]))] sz) := by
  refine Met.ofW (cc := cX10_begin) (maxL := 7) (ret := (some .int)) (by decide) rfl ?_
  intro p e s m args below meth c s₁ B hml hv
  obtain ⟨rfl, hsz, hP, hK, hD0, hE⟩ := hv
  have hx := B.exec
  have hb := B.bytes
  have hr := B.returns
  have hts := atoms_spec (ws := wsX10_begin) B.pre
  have hown : s.vm.findClass RX10 = some m.cls := findClass_of_methodNamed B.named
  have hlocks := B.notSynchronized
  subst hsz
  have hD := hD0.self (sz := s.heap.size)
  generalize hAe : va_A [(h0, .inr (15, zM th b)), ((b 0), .inr (4, [.int 0, .ref e0, .int 0])), ((b 1), .inr (4, [.int 0, .ref e0, .int 0])), ((b 2), .inr (4, [.int 0, .ref e0, .int 0])), ((b 3), .inr (4, [.int 0, .ref e0, .int 0]))] s.heap.size = A at hD hE ⊢
  have hA : ∀ q : Nat, s.heap.size ≤ q → A q := fun q h => by rw [← hAe]; exact Or.inr h
  have hS : va_S A s.heap s.heap [] := va_S.rf
  have hl := lv_entry ([.ref h0, .int p0, .int p1]) (n := 7) (Nat.le_of_ble_eq_true rfl)
  rw [lg_entry_eq]
  generalize (lg_sl ([.ref h0, .int p0, .int p1]) ++ List.replicate (7 - (lg_sl ([.ref h0, .int p0, .int p1])).length) Slot.unset).toArray = ls at hl ⊢
  have hl : lv_has ls 7 [(0, .ref h0), (1, .int p0), (2, .int p1)] := hl
  refine lv_aload_n hx hb dX10_begin_0 rfl (lv_at hl 0 rfl) ?_
  refine lv_iload_n hx hb dX10_begin_1 rfl (lv_at hl 1 rfl) ?_
  have hPc := hP.sub (ws' := [(h0, .inr (15, zM th b)), ((b 2), .inr (4, [.int 0, .ref e0, .int 0]))]) [0, 3] rfl
  have hDc := hD.sub (ws' := [(h0, .inr (15, zM th b)), ((b 2), .inr (4, [.int 0, .ref e0, .int 0]))]) [0, 3] (by decide) rfl
  have hKc := hK.sub (tys' := []) [] rfl
  have hFc := va_free (wc := [(h0, .inr (15, zM th b)), ((b 2), .inr (4, [.int 0, .ref e0, .int 0]))]) hD hS hA [0, 3] rfl
  have hEc := (hE.kept hS.2.1).narrow hFc
  refine va_calli (va_runV (As := [.int p0]) (rest := []) ⟨hx, hb, hml, hown, hts⟩ (c_X10_isTeam l htr dC dI e0 s.heap.size h0 th b p0) (cwV 1 hts gX10_begin_X10_isTeam rfl rfl rfl (by decide +kernel) ⟨Nat.le_of_ble_eq_true rfl, Nat.le_of_ble_eq_true rfl⟩) ⟨fun a U g mk q => by obtain ⟨q0, q1, qP, qK, qD, qE⟩ := q; exact ⟨q0, q1, qP, va_K.moved (u := U) (U := U.calling g mk a) (Vm.Alike.refl U.vm) qK, qD, zE.same rfl qE⟩, va_recv hKc hPc (ci := 15) (q0 := 0) rfl rfl, fun U hU hW => ⟨rfl, by rw [hU], by rw [hU]; exact hPc, va_K.moved hW.alike hKc, hDc.weaken (fun _ _ _ _ => trivial), by rw [hU]; exact zE.warm hW hEc⟩⟩ rfl rfl hl.1 rfl (lv_room (Nat.le_of_ble_eq_true rfl)) dX10_begin_2 ⟨Nat.le_of_ble_eq_true rfl, Nat.le_of_ble_eq_true rfl⟩) hS (fun q _ h => hFc q h) hFc (fun r1 u t H1 locs ht hvm hw hB hz1 hk1 hS => ?_)
  obtain ⟨hP1, hK1, hD1⟩ := hB
  rw [ht] at hP1
  obtain ⟨hP, hD⟩ := va_join (wr := [((b 0), .inr (4, [.int 0, .ref e0, .int 0])), ((b 1), .inr (4, [.int 0, .ref e0, .int 0])), ((b 3), .inr (4, [.int 0, .ref e0, .int 0]))]) (w1 := [(h0, .inr (15, zM th b)), ((b 2), .inr (4, [.int 0, .ref e0, .int 0]))]) hP hD [0, 3] [1, 2, 4] rfl rfl (by decide) (by decide) hk1 hFc hP1 hD1
  generalize H1 = H at hP hS ⊢
  have hP : va_P (dC, dI) vwCl [((b 0), .inr (4, [.int 0, .ref e0, .int 0])), ((b 1), .inr (4, [.int 0, .ref e0, .int 0])), ((b 3), .inr (4, [.int 0, .ref e0, .int 0])), (h0, .inr (15, zM th b)), ((b 2), .inr (4, [.int 0, .ref e0, .int 0]))] H := hP
  have hD : va_D A [((b 0), .inr (4, [.int 0, .ref e0, .int 0])), ((b 1), .inr (4, [.int 0, .ref e0, .int 0])), ((b 3), .inr (4, [.int 0, .ref e0, .int 0])), (h0, .inr (15, zM th b)), ((b 2), .inr (4, [.int 0, .ref e0, .int 0]))] := hD
  obtain rfl : r1 = 0 := hw
  refine lv_if_eq (tgt := 77) hx hb dX10_begin_5 (by decide) (fun _ => ?_) (fun c2 => absurd (by decide) c2)
  refine lv_iconst (v := 0) hx hb dX10_begin_77 (by decide) ?_
  refine lv_istore_n (lv' := [(3, .int 0), (0, .ref h0), (1, .int p0), (2, .int p1)]) hx hb dX10_begin_78 rfl hl (by decide) rfl (fun ls hl => ?_)
  refine lv_aload_n hx hb dX10_begin_79 rfl (lv_at hl 1 rfl) ?_
  refine lv_aload_n hx hb dX10_begin_80 rfl (lv_at hl 1 rfl) ?_
  refine lv_iload_n hx hb dX10_begin_81 rfl (lv_at hl 2 rfl) ?_
  have hPc := hP.sub (ws' := [(h0, .inr (15, zM th b)), ((b 2), .inr (4, [.int 0, .ref e0, .int 0]))]) [3, 4] rfl
  have hDc := hD.sub (ws' := [(h0, .inr (15, zM th b)), ((b 2), .inr (4, [.int 0, .ref e0, .int 0]))]) [3, 4] (by decide) rfl
  have hKc := hK.sub (tys' := []) [] rfl
  have hFc := va_free (wc := [(h0, .inr (15, zM th b)), ((b 2), .inr (4, [.int 0, .ref e0, .int 0]))]) hD hS hA [3, 4] rfl
  have hEc := (hE.kept hS.2.1).narrow hFc
  refine va_calli (va_runV (As := [.int p0]) (rest := [.ref h0]) ⟨hx, hb, hml, hown, hts⟩ (c_X10_isTeam l htr dC dI e0 H.size h0 th b p0) (cwV 1 hts gX10_begin_X10_isTeam rfl rfl rfl (by decide +kernel) ⟨Nat.le_of_ble_eq_true rfl, Nat.le_of_ble_eq_true rfl⟩) ⟨fun a U g mk q => by obtain ⟨q0, q1, qP, qK, qD, qE⟩ := q; exact ⟨q0, q1, qP, va_K.moved (u := U) (U := U.calling g mk a) (Vm.Alike.refl U.vm) qK, qD, zE.same rfl qE⟩, va_recv hKc hPc (ci := 15) (q0 := 0) rfl rfl, fun U hU hW => ⟨rfl, by rw [hU], by rw [hU]; exact hPc, va_K.moved hW.alike hKc, hDc.weaken (fun _ _ _ _ => trivial), by rw [hU]; exact zE.warm hW hEc⟩⟩ rfl rfl hl.1 rfl (lv_room (Nat.le_of_ble_eq_true rfl)) dX10_begin_82 ⟨Nat.le_of_ble_eq_true rfl, Nat.le_of_ble_eq_true rfl⟩) hS (fun q _ h => hFc q h) hFc (fun r3 u t H1 locs ht hvm hw hB hz1 hk1 hS => ?_)
  obtain ⟨hP1, hK1, hD1⟩ := hB
  rw [ht] at hP1
  obtain ⟨hP, hD⟩ := va_join (wr := [((b 0), .inr (4, [.int 0, .ref e0, .int 0])), ((b 1), .inr (4, [.int 0, .ref e0, .int 0])), ((b 3), .inr (4, [.int 0, .ref e0, .int 0]))]) (w1 := [(h0, .inr (15, zM th b)), ((b 2), .inr (4, [.int 0, .ref e0, .int 0]))]) hP hD [3, 4] [0, 1, 2] rfl rfl (by decide) (by decide) hk1 hFc hP1 hD1
  generalize H1 = H at hP hS ⊢
  have hP : va_P (dC, dI) vwCl [((b 0), .inr (4, [.int 0, .ref e0, .int 0])), ((b 1), .inr (4, [.int 0, .ref e0, .int 0])), ((b 3), .inr (4, [.int 0, .ref e0, .int 0])), (h0, .inr (15, zM th b)), ((b 2), .inr (4, [.int 0, .ref e0, .int 0]))] H := hP
  have hD : va_D A [((b 0), .inr (4, [.int 0, .ref e0, .int 0])), ((b 1), .inr (4, [.int 0, .ref e0, .int 0])), ((b 3), .inr (4, [.int 0, .ref e0, .int 0])), (h0, .inr (15, zM th b)), ((b 2), .inr (4, [.int 0, .ref e0, .int 0]))] := hD
  obtain rfl : r3 = 0 := hw
  refine lv_if_ne (tgt := 92) hx hb dX10_begin_85 (by decide) (fun c4 => absurd (by decide) c4) (fun _ => ?_)
  refine lv_iconst (v := 1) hx hb dX10_begin_88 (by decide) ?_
  refine lv_goto (tgt := 117) hx hb dX10_begin_89 (by decide) ?_
  have hPc := hP.sub (ws' := [(h0, .inr (15, zM th b))]) [3] rfl
  have hDc := hD.sub (ws' := [(h0, .inr (15, zM th b))]) [3] (by decide) rfl
  have hKc := hK.sub (tys' := []) [] rfl
  have hFc := va_free (wc := [(h0, .inr (15, zM th b))]) hD hS hA [3] rfl
  refine va_calli (va_runV (As := [.int 1]) (rest := []) ⟨hx, hb, hml, hown, hts⟩ (c_X10_goesOn l htr dC dI e0 H.size h0 th b 1) (cwV 1 hts gX10_begin_X10_goesOn rfl rfl rfl (by decide +kernel) ⟨Nat.le_of_ble_eq_true rfl, Nat.le_of_ble_eq_true rfl⟩) ⟨fun a U g mk q => by obtain ⟨q0, q1, qP, qK, qD⟩ := q; exact ⟨q0, q1, qP, va_K.moved (u := U) (U := U.calling g mk a) (Vm.Alike.refl U.vm) qK, qD⟩, va_recv hKc hPc (ci := 15) (q0 := 0) rfl rfl, fun U hU hW => ⟨rfl, by rw [hU], by rw [hU]; exact hPc, va_K.moved hW.alike hKc, hDc.weaken (fun _ _ _ _ => trivial)⟩⟩ rfl rfl hl.1 rfl (lv_room (Nat.le_of_ble_eq_true rfl)) dX10_begin_117 ⟨Nat.le_of_ble_eq_true rfl, Nat.le_of_ble_eq_true rfl⟩) hS (fun q _ h => hFc q h) hFc (fun r5 u t H1 locs ht hvm hw hB hz1 hk1 hS => ?_)
  obtain ⟨hP1, hK1, hD1⟩ := hB
  rw [ht] at hP1
  obtain ⟨hP, hD⟩ := va_join (wr := [((b 0), .inr (4, [.int 0, .ref e0, .int 0])), ((b 1), .inr (4, [.int 0, .ref e0, .int 0])), ((b 3), .inr (4, [.int 0, .ref e0, .int 0])), ((b 2), .inr (4, [.int 0, .ref e0, .int 0]))]) (w1 := [(h0, .inr (15, zM 1 b))]) hP hD [3] [0, 1, 2, 4] rfl rfl (by decide) (by decide) hk1 hFc hP1 hD1
  generalize H1 = H at hP hS ⊢
  have hP : va_P (dC, dI) vwCl [((b 0), .inr (4, [.int 0, .ref e0, .int 0])), ((b 1), .inr (4, [.int 0, .ref e0, .int 0])), ((b 3), .inr (4, [.int 0, .ref e0, .int 0])), ((b 2), .inr (4, [.int 0, .ref e0, .int 0])), (h0, .inr (15, zM 1 b))] H := hP
  have hD : va_D A [((b 0), .inr (4, [.int 0, .ref e0, .int 0])), ((b 1), .inr (4, [.int 0, .ref e0, .int 0])), ((b 3), .inr (4, [.int 0, .ref e0, .int 0])), ((b 2), .inr (4, [.int 0, .ref e0, .int 0])), (h0, .inr (15, zM 1 b))] := hD
  obtain rfl : r5 = 0 := hw.trans (by decide)
  refine lv_if_ne (tgt := 125) hx hb dX10_begin_120 (by decide) (fun c6 => absurd (by decide) c6) (fun _ => ?_)
  refine lv_iconst (v := 0) hx hb dX10_begin_123 (by decide) ?_
  have hP9 := hP.sub (ws' := [(h0, .inr (15, zM 1 b))]) [4] rfl
  have hD9 := hD.sub (ws' := [(h0, .inr (15, zM 1 b))]) [4] (by decide) rfl
  have hK9 := hK.sub (tys' := []) [] rfl
  exact W.iret (v := 0) hx hb hr (fun t ht hW => ⟨⟨0, (), rfl, rfl, ⟨by rw [ht]; exact hP9, va_K.moved hW.alike hK9, hD9⟩⟩, hS.F ht⟩) hS.2.2 dX10_begin_124

set_option maxRecDepth 20000 in
theorem ggX10_run_X10_goesOn : GoodIn wsX10_run wsX10_goesOn := goodIn_r _ [179, 180, 181, 182, 183, 184, 185, 186, 187, 188, 189, 190, 191] (by decide +kernel) (by decide +kernel)
set_option maxRecDepth 20000 in
theorem gX10_run_X10_goesOn : GoodIn wsX10_run (wsV RX10 78 RX10 yX10_goesOn wsX10_goesOn) := goodIn_app (goodIn_of _ (by decide +kernel)) ggX10_run_X10_goesOn
set_option maxRecDepth 20000 in
theorem ggX10_run_X10_isTeam : GoodIn wsX10_run wsX10_isTeam := goodIn_r _ [7, 1, 8, 9, 10, 11, 12, 13, 14, 15, 6, 16, 181, 182, 183, 184, 185, 186, 187, 188, 189, 190, 191, 214, 215, 216] (by decide +kernel) (by decide +kernel)
set_option maxRecDepth 20000 in
theorem gX10_run_X10_isTeam : GoodIn wsX10_run (wsV RX10 111 RX10 yX10_isTeam wsX10_isTeam) := goodIn_app (goodIn_of _ (by decide +kernel)) ggX10_run_X10_isTeam
theorem dX10_run_0 : decode cX10_run 0 = .ok (.aload_n 0, 1) := by decide +kernel
theorem dX10_run_1 : decode cX10_run 1 = .ok (.iload_n 1, 1) := by decide +kernel
theorem dX10_run_2 : decode cX10_run 2 = .ok (.invokevirtual 111, 3) := by decide +kernel
theorem dX10_run_5 : decode cX10_run 5 = .ok (.ifCond .eq 22, 3) := by decide +kernel
theorem dX10_run_27 : decode cX10_run 27 = .ok (.iconst 0, 1) := by decide +kernel
theorem dX10_run_28 : decode cX10_run 28 = .ok (.istore_n 2, 1) := by decide +kernel
theorem dX10_run_29 : decode cX10_run 29 = .ok (.aload_n 0, 1) := by decide +kernel
theorem dX10_run_30 : decode cX10_run 30 = .ok (.iload_n 1, 1) := by decide +kernel
theorem dX10_run_31 : decode cX10_run 31 = .ok (.invokevirtual 111, 3) := by decide +kernel
theorem dX10_run_34 : decode cX10_run 34 = .ok (.ifCond .eq 14, 3) := by decide +kernel
theorem dX10_run_48 : decode cX10_run 48 = .ok (.bipush 45, 2) := by decide +kernel
theorem dX10_run_50 : decode cX10_run 50 = .ok (.istore_n 3, 1) := by decide +kernel
theorem dX10_run_51 : decode cX10_run 51 = .ok (.aload_n 0, 1) := by decide +kernel
theorem dX10_run_52 : decode cX10_run 52 = .ok (.aload_n 0, 1) := by decide +kernel
theorem dX10_run_53 : decode cX10_run 53 = .ok (.iload_n 1, 1) := by decide +kernel
theorem dX10_run_54 : decode cX10_run 54 = .ok (.invokevirtual 111, 3) := by decide +kernel
theorem dX10_run_57 : decode cX10_run 57 = .ok (.ifCond .ne 7, 3) := by decide +kernel
theorem dX10_run_60 : decode cX10_run 60 = .ok (.iconst 1, 1) := by decide +kernel
theorem dX10_run_61 : decode cX10_run 61 = .ok (.goto 14, 3) := by decide +kernel
theorem dX10_run_75 : decode cX10_run 75 = .ok (.invokevirtual 78, 3) := by decide +kernel
theorem dX10_run_78 : decode cX10_run 78 = .ok (.ifCond .eq 24, 3) := by decide +kernel
theorem dX10_run_102 : decode cX10_run 102 = .ok (.iconst 0, 1) := by decide +kernel
theorem dX10_run_103 : decode cX10_run 103 = .ok (.ireturn, 1) := by decide +kernel
set_option maxHeartbeats 4000000 in
set_option maxRecDepth 100000 in
theorem c_X10_run (l : Launch) (htr : l.stackTraces = false) (dC : Nat → ClassId) (dI : Nat → Nat → Nat) (e0 sz : Nat) (h0 : Nat) (th : Int32) (b : Nat → Nat) (p0 : Int32) : Met l yX10_run wsX10_run ({ frames := 2, cells := 0, slots := 0, locals := 46 }) (va_Pc [.ref h0, .int p0] (fun U => U.heap.size = sz ∧ va_P (dC, dI) vwCl [(h0, .inr (15, zM th b)), ((b 0), .inr (4, [.int 0, .ref e0, .int 0])), ((b 1), .inr (4, [.int 0, .ref e0, .int 0])), ((b 2), .inr (4, [.int 0, .ref e0, .int 0])), ((b 3), .inr (4, [.int 0, .ref e0, .int 0]))] U.heap ∧ va_K (dC, dI) vwCl [] U ∧ va_D (fun _ => True) [(h0, .inr (15, zM th b)), ((b 0), .inr (4, [.int 0, .ref e0, .int 0])), ((b 1), .inr (4, [.int 0, .ref e0, .int 0])), ((b 2), .inr (4, [.int 0, .ref e0, .int 0])), ((b 3), .inr (4, [.int 0, .ref e0, .int 0]))] ∧ zE e0 (va_A [(h0, .inr (15, zM th b)), ((b 0), .inr (4, [.int 0, .ref e0, .int 0])), ((b 1), .inr (4, [.int 0, .ref e0, .int 0])), ((b 2), .inr (4, [.int 0, .ref e0, .int 0])), ((b 3), .inr (4, [.int 0, .ref e0, .int 0]))] sz) U U.heap)) (va_Qi (fun (r : Int32) (_ : Unit) => r = 0) (fun _ t => va_P (dC, dI) vwCl [(h0, .inr (15, zM 1 b))] t.heap ∧ va_K (dC, dI) vwCl [] t ∧ va_D (va_A [(h0, .inr (15, zM th b)), ((b 0), .inr (4, [.int 0, .ref e0, .int 0])), ((b 1), .inr (4, [.int 0, .ref e0, .int 0])), ((b 2), .inr (4, [.int 0, .ref e0, .int 0])), ((b 3), .inr (4, [.int 0, .ref e0, .int 0]))] sz) [(h0, .inr (15, zM 1 b))]) (va_A [(h0, .inr (15, zM th b)), ((b 0), .inr (4, [.int 0, .ref e0, .int 0])), ((b 1), .inr (4, [.int 0, .ref e0, .int 0])), ((b 2), .inr (4, [.int 0, .ref e0, .int 0])), ((b 3), .inr (4, [.int 0, .ref e0, .int 0]))] sz)) 0 0 (va_A [(h0, .inr (15, zM th b)), ((b 0), .inr (4, [.int 0, .ref e0, .int 0])), ((b 1), .inr (4, [.int 0, .ref e0, .int 0])), ((b 2), .inr (4, [.int 0, .ref e0, .int 0])), ((b 3), .inr (4, [.int 0, .ref e0, .int 0]))] sz) := by
  refine Met.ofW (cc := cX10_run) (maxL := 4) (ret := (some .int)) (by decide) rfl ?_
  intro p e s m args below meth c s₁ B hml hv
  obtain ⟨rfl, hsz, hP, hK, hD0, hE⟩ := hv
  have hx := B.exec
  have hb := B.bytes
  have hr := B.returns
  have hts := atoms_spec (ws := wsX10_run) B.pre
  have hown : s.vm.findClass RX10 = some m.cls := findClass_of_methodNamed B.named
  have hlocks := B.notSynchronized
  subst hsz
  have hD := hD0.self (sz := s.heap.size)
  generalize hAe : va_A [(h0, .inr (15, zM th b)), ((b 0), .inr (4, [.int 0, .ref e0, .int 0])), ((b 1), .inr (4, [.int 0, .ref e0, .int 0])), ((b 2), .inr (4, [.int 0, .ref e0, .int 0])), ((b 3), .inr (4, [.int 0, .ref e0, .int 0]))] s.heap.size = A at hD hE ⊢
  have hA : ∀ q : Nat, s.heap.size ≤ q → A q := fun q h => by rw [← hAe]; exact Or.inr h
  have hS : va_S A s.heap s.heap [] := va_S.rf
  have hl := lv_entry ([.ref h0, .int p0]) (n := 4) (Nat.le_of_ble_eq_true rfl)
  rw [lg_entry_eq]
  generalize (lg_sl ([.ref h0, .int p0]) ++ List.replicate (4 - (lg_sl ([.ref h0, .int p0])).length) Slot.unset).toArray = ls at hl ⊢
  have hl : lv_has ls 4 [(0, .ref h0), (1, .int p0)] := hl
  refine lv_aload_n hx hb dX10_run_0 rfl (lv_at hl 0 rfl) ?_
  refine lv_iload_n hx hb dX10_run_1 rfl (lv_at hl 1 rfl) ?_
  have hPc := hP.sub (ws' := [(h0, .inr (15, zM th b)), ((b 2), .inr (4, [.int 0, .ref e0, .int 0]))]) [0, 3] rfl
  have hDc := hD.sub (ws' := [(h0, .inr (15, zM th b)), ((b 2), .inr (4, [.int 0, .ref e0, .int 0]))]) [0, 3] (by decide) rfl
  have hKc := hK.sub (tys' := []) [] rfl
  have hFc := va_free (wc := [(h0, .inr (15, zM th b)), ((b 2), .inr (4, [.int 0, .ref e0, .int 0]))]) hD hS hA [0, 3] rfl
  have hEc := (hE.kept hS.2.1).narrow hFc
  refine va_calli (va_runV (As := [.int p0]) (rest := []) ⟨hx, hb, hml, hown, hts⟩ (c_X10_isTeam l htr dC dI e0 s.heap.size h0 th b p0) (cwV 1 hts gX10_run_X10_isTeam rfl rfl rfl (by decide +kernel) ⟨Nat.le_of_ble_eq_true rfl, Nat.le_of_ble_eq_true rfl⟩) ⟨fun a U g mk q => by obtain ⟨q0, q1, qP, qK, qD, qE⟩ := q; exact ⟨q0, q1, qP, va_K.moved (u := U) (U := U.calling g mk a) (Vm.Alike.refl U.vm) qK, qD, zE.same rfl qE⟩, va_recv hKc hPc (ci := 15) (q0 := 0) rfl rfl, fun U hU hW => ⟨rfl, by rw [hU], by rw [hU]; exact hPc, va_K.moved hW.alike hKc, hDc.weaken (fun _ _ _ _ => trivial), by rw [hU]; exact zE.warm hW hEc⟩⟩ rfl rfl hl.1 rfl (lv_room (Nat.le_of_ble_eq_true rfl)) dX10_run_2 ⟨Nat.le_of_ble_eq_true rfl, Nat.le_of_ble_eq_true rfl⟩) hS (fun q _ h => hFc q h) hFc (fun r1 u t H1 locs ht hvm hw hB hz1 hk1 hS => ?_)
  obtain ⟨hP1, hK1, hD1⟩ := hB
  rw [ht] at hP1
  obtain ⟨hP, hD⟩ := va_join (wr := [((b 0), .inr (4, [.int 0, .ref e0, .int 0])), ((b 1), .inr (4, [.int 0, .ref e0, .int 0])), ((b 3), .inr (4, [.int 0, .ref e0, .int 0]))]) (w1 := [(h0, .inr (15, zM th b)), ((b 2), .inr (4, [.int 0, .ref e0, .int 0]))]) hP hD [0, 3] [1, 2, 4] rfl rfl (by decide) (by decide) hk1 hFc hP1 hD1
  generalize H1 = H at hP hS ⊢
  have hP : va_P (dC, dI) vwCl [((b 0), .inr (4, [.int 0, .ref e0, .int 0])), ((b 1), .inr (4, [.int 0, .ref e0, .int 0])), ((b 3), .inr (4, [.int 0, .ref e0, .int 0])), (h0, .inr (15, zM th b)), ((b 2), .inr (4, [.int 0, .ref e0, .int 0]))] H := hP
  have hD : va_D A [((b 0), .inr (4, [.int 0, .ref e0, .int 0])), ((b 1), .inr (4, [.int 0, .ref e0, .int 0])), ((b 3), .inr (4, [.int 0, .ref e0, .int 0])), (h0, .inr (15, zM th b)), ((b 2), .inr (4, [.int 0, .ref e0, .int 0]))] := hD
  obtain rfl : r1 = 0 := hw
  refine lv_if_eq (tgt := 27) hx hb dX10_run_5 (by decide) (fun _ => ?_) (fun c2 => absurd (by decide) c2)
  refine lv_iconst (v := 0) hx hb dX10_run_27 (by decide) ?_
  refine lv_istore_n (lv' := [(2, .int 0), (0, .ref h0), (1, .int p0)]) hx hb dX10_run_28 rfl hl (by decide) rfl (fun ls hl => ?_)
  refine lv_aload_n hx hb dX10_run_29 rfl (lv_at hl 1 rfl) ?_
  refine lv_iload_n hx hb dX10_run_30 rfl (lv_at hl 2 rfl) ?_
  have hPc := hP.sub (ws' := [(h0, .inr (15, zM th b)), ((b 2), .inr (4, [.int 0, .ref e0, .int 0]))]) [3, 4] rfl
  have hDc := hD.sub (ws' := [(h0, .inr (15, zM th b)), ((b 2), .inr (4, [.int 0, .ref e0, .int 0]))]) [3, 4] (by decide) rfl
  have hKc := hK.sub (tys' := []) [] rfl
  have hFc := va_free (wc := [(h0, .inr (15, zM th b)), ((b 2), .inr (4, [.int 0, .ref e0, .int 0]))]) hD hS hA [3, 4] rfl
  have hEc := (hE.kept hS.2.1).narrow hFc
  refine va_calli (va_runV (As := [.int p0]) (rest := []) ⟨hx, hb, hml, hown, hts⟩ (c_X10_isTeam l htr dC dI e0 H.size h0 th b p0) (cwV 1 hts gX10_run_X10_isTeam rfl rfl rfl (by decide +kernel) ⟨Nat.le_of_ble_eq_true rfl, Nat.le_of_ble_eq_true rfl⟩) ⟨fun a U g mk q => by obtain ⟨q0, q1, qP, qK, qD, qE⟩ := q; exact ⟨q0, q1, qP, va_K.moved (u := U) (U := U.calling g mk a) (Vm.Alike.refl U.vm) qK, qD, zE.same rfl qE⟩, va_recv hKc hPc (ci := 15) (q0 := 0) rfl rfl, fun U hU hW => ⟨rfl, by rw [hU], by rw [hU]; exact hPc, va_K.moved hW.alike hKc, hDc.weaken (fun _ _ _ _ => trivial), by rw [hU]; exact zE.warm hW hEc⟩⟩ rfl rfl hl.1 rfl (lv_room (Nat.le_of_ble_eq_true rfl)) dX10_run_31 ⟨Nat.le_of_ble_eq_true rfl, Nat.le_of_ble_eq_true rfl⟩) hS (fun q _ h => hFc q h) hFc (fun r3 u t H1 locs ht hvm hw hB hz1 hk1 hS => ?_)
  obtain ⟨hP1, hK1, hD1⟩ := hB
  rw [ht] at hP1
  obtain ⟨hP, hD⟩ := va_join (wr := [((b 0), .inr (4, [.int 0, .ref e0, .int 0])), ((b 1), .inr (4, [.int 0, .ref e0, .int 0])), ((b 3), .inr (4, [.int 0, .ref e0, .int 0]))]) (w1 := [(h0, .inr (15, zM th b)), ((b 2), .inr (4, [.int 0, .ref e0, .int 0]))]) hP hD [3, 4] [0, 1, 2] rfl rfl (by decide) (by decide) hk1 hFc hP1 hD1
  generalize H1 = H at hP hS ⊢
  have hP : va_P (dC, dI) vwCl [((b 0), .inr (4, [.int 0, .ref e0, .int 0])), ((b 1), .inr (4, [.int 0, .ref e0, .int 0])), ((b 3), .inr (4, [.int 0, .ref e0, .int 0])), (h0, .inr (15, zM th b)), ((b 2), .inr (4, [.int 0, .ref e0, .int 0]))] H := hP
  have hD : va_D A [((b 0), .inr (4, [.int 0, .ref e0, .int 0])), ((b 1), .inr (4, [.int 0, .ref e0, .int 0])), ((b 3), .inr (4, [.int 0, .ref e0, .int 0])), (h0, .inr (15, zM th b)), ((b 2), .inr (4, [.int 0, .ref e0, .int 0]))] := hD
  obtain rfl : r3 = 0 := hw
  refine lv_if_eq (tgt := 48) hx hb dX10_run_34 (by decide) (fun _ => ?_) (fun c4 => absurd (by decide) c4)
  refine lv_bipush (v := 45) hx hb dX10_run_48 (by decide) ?_
  refine lv_istore_n (lv' := [(3, .int 45), (2, .int 0), (0, .ref h0), (1, .int p0)]) hx hb dX10_run_50 rfl hl (by decide) rfl (fun ls hl => ?_)
  refine lv_aload_n hx hb dX10_run_51 rfl (lv_at hl 2 rfl) ?_
  refine lv_aload_n hx hb dX10_run_52 rfl (lv_at hl 2 rfl) ?_
  refine lv_iload_n hx hb dX10_run_53 rfl (lv_at hl 3 rfl) ?_
  have hPc := hP.sub (ws' := [(h0, .inr (15, zM th b)), ((b 2), .inr (4, [.int 0, .ref e0, .int 0]))]) [3, 4] rfl
  have hDc := hD.sub (ws' := [(h0, .inr (15, zM th b)), ((b 2), .inr (4, [.int 0, .ref e0, .int 0]))]) [3, 4] (by decide) rfl
  have hKc := hK.sub (tys' := []) [] rfl
  have hFc := va_free (wc := [(h0, .inr (15, zM th b)), ((b 2), .inr (4, [.int 0, .ref e0, .int 0]))]) hD hS hA [3, 4] rfl
  have hEc := (hE.kept hS.2.1).narrow hFc
  refine va_calli (va_runV (As := [.int p0]) (rest := [.ref h0]) ⟨hx, hb, hml, hown, hts⟩ (c_X10_isTeam l htr dC dI e0 H.size h0 th b p0) (cwV 1 hts gX10_run_X10_isTeam rfl rfl rfl (by decide +kernel) ⟨Nat.le_of_ble_eq_true rfl, Nat.le_of_ble_eq_true rfl⟩) ⟨fun a U g mk q => by obtain ⟨q0, q1, qP, qK, qD, qE⟩ := q; exact ⟨q0, q1, qP, va_K.moved (u := U) (U := U.calling g mk a) (Vm.Alike.refl U.vm) qK, qD, zE.same rfl qE⟩, va_recv hKc hPc (ci := 15) (q0 := 0) rfl rfl, fun U hU hW => ⟨rfl, by rw [hU], by rw [hU]; exact hPc, va_K.moved hW.alike hKc, hDc.weaken (fun _ _ _ _ => trivial), by rw [hU]; exact zE.warm hW hEc⟩⟩ rfl rfl hl.1 rfl (lv_room (Nat.le_of_ble_eq_true rfl)) dX10_run_54 ⟨Nat.le_of_ble_eq_true rfl, Nat.le_of_ble_eq_true rfl⟩) hS (fun q _ h => hFc q h) hFc (fun r5 u t H1 locs ht hvm hw hB hz1 hk1 hS => ?_)
  obtain ⟨hP1, hK1, hD1⟩ := hB
  rw [ht] at hP1
  obtain ⟨hP, hD⟩ := va_join (wr := [((b 0), .inr (4, [.int 0, .ref e0, .int 0])), ((b 1), .inr (4, [.int 0, .ref e0, .int 0])), ((b 3), .inr (4, [.int 0, .ref e0, .int 0]))]) (w1 := [(h0, .inr (15, zM th b)), ((b 2), .inr (4, [.int 0, .ref e0, .int 0]))]) hP hD [3, 4] [0, 1, 2] rfl rfl (by decide) (by decide) hk1 hFc hP1 hD1
  generalize H1 = H at hP hS ⊢
  have hP : va_P (dC, dI) vwCl [((b 0), .inr (4, [.int 0, .ref e0, .int 0])), ((b 1), .inr (4, [.int 0, .ref e0, .int 0])), ((b 3), .inr (4, [.int 0, .ref e0, .int 0])), (h0, .inr (15, zM th b)), ((b 2), .inr (4, [.int 0, .ref e0, .int 0]))] H := hP
  have hD : va_D A [((b 0), .inr (4, [.int 0, .ref e0, .int 0])), ((b 1), .inr (4, [.int 0, .ref e0, .int 0])), ((b 3), .inr (4, [.int 0, .ref e0, .int 0])), (h0, .inr (15, zM th b)), ((b 2), .inr (4, [.int 0, .ref e0, .int 0]))] := hD
  obtain rfl : r5 = 0 := hw
  refine lv_if_ne (tgt := 64) hx hb dX10_run_57 (by decide) (fun c6 => absurd (by decide) c6) (fun _ => ?_)
  refine lv_iconst (v := 1) hx hb dX10_run_60 (by decide) ?_
  refine lv_goto (tgt := 75) hx hb dX10_run_61 (by decide) ?_
  have hPc := hP.sub (ws' := [(h0, .inr (15, zM th b))]) [3] rfl
  have hDc := hD.sub (ws' := [(h0, .inr (15, zM th b))]) [3] (by decide) rfl
  have hKc := hK.sub (tys' := []) [] rfl
  have hFc := va_free (wc := [(h0, .inr (15, zM th b))]) hD hS hA [3] rfl
  refine va_calli (va_runV (As := [.int 1]) (rest := []) ⟨hx, hb, hml, hown, hts⟩ (c_X10_goesOn l htr dC dI e0 H.size h0 th b 1) (cwV 1 hts gX10_run_X10_goesOn rfl rfl rfl (by decide +kernel) ⟨Nat.le_of_ble_eq_true rfl, Nat.le_of_ble_eq_true rfl⟩) ⟨fun a U g mk q => by obtain ⟨q0, q1, qP, qK, qD⟩ := q; exact ⟨q0, q1, qP, va_K.moved (u := U) (U := U.calling g mk a) (Vm.Alike.refl U.vm) qK, qD⟩, va_recv hKc hPc (ci := 15) (q0 := 0) rfl rfl, fun U hU hW => ⟨rfl, by rw [hU], by rw [hU]; exact hPc, va_K.moved hW.alike hKc, hDc.weaken (fun _ _ _ _ => trivial)⟩⟩ rfl rfl hl.1 rfl (lv_room (Nat.le_of_ble_eq_true rfl)) dX10_run_75 ⟨Nat.le_of_ble_eq_true rfl, Nat.le_of_ble_eq_true rfl⟩) hS (fun q _ h => hFc q h) hFc (fun r7 u t H1 locs ht hvm hw hB hz1 hk1 hS => ?_)
  obtain ⟨hP1, hK1, hD1⟩ := hB
  rw [ht] at hP1
  obtain ⟨hP, hD⟩ := va_join (wr := [((b 0), .inr (4, [.int 0, .ref e0, .int 0])), ((b 1), .inr (4, [.int 0, .ref e0, .int 0])), ((b 3), .inr (4, [.int 0, .ref e0, .int 0])), ((b 2), .inr (4, [.int 0, .ref e0, .int 0]))]) (w1 := [(h0, .inr (15, zM 1 b))]) hP hD [3] [0, 1, 2, 4] rfl rfl (by decide) (by decide) hk1 hFc hP1 hD1
  generalize H1 = H at hP hS ⊢
  have hP : va_P (dC, dI) vwCl [((b 0), .inr (4, [.int 0, .ref e0, .int 0])), ((b 1), .inr (4, [.int 0, .ref e0, .int 0])), ((b 3), .inr (4, [.int 0, .ref e0, .int 0])), ((b 2), .inr (4, [.int 0, .ref e0, .int 0])), (h0, .inr (15, zM 1 b))] H := hP
  have hD : va_D A [((b 0), .inr (4, [.int 0, .ref e0, .int 0])), ((b 1), .inr (4, [.int 0, .ref e0, .int 0])), ((b 3), .inr (4, [.int 0, .ref e0, .int 0])), ((b 2), .inr (4, [.int 0, .ref e0, .int 0])), (h0, .inr (15, zM 1 b))] := hD
  obtain rfl : r7 = 0 := hw.trans (by decide)
  refine lv_if_eq (tgt := 102) hx hb dX10_run_78 (by decide) (fun _ => ?_) (fun c8 => absurd (by decide) c8)
  refine lv_iconst (v := 0) hx hb dX10_run_102 (by decide) ?_
  have hP9 := hP.sub (ws' := [(h0, .inr (15, zM 1 b))]) [4] rfl
  have hD9 := hD.sub (ws' := [(h0, .inr (15, zM 1 b))]) [4] (by decide) rfl
  have hK9 := hK.sub (tys' := []) [] rfl
  exact W.iret (v := 0) hx hb hr (fun t ht hW => ⟨⟨0, (), rfl, rfl, ⟨by rw [ht]; exact hP9, va_K.moved hW.alike hK9, hD9⟩⟩, hS.F ht⟩) hS.2.2 dX10_run_103

set_option maxRecDepth 20000 in
theorem ggX10_camp_X10_goesOn : GoodIn wsX10_camp wsX10_goesOn := goodIn_r _ [180, 181, 182, 183, 184, 185, 186, 187, 188, 189, 190, 191, 192] (by decide +kernel) (by decide +kernel)
set_option maxRecDepth 20000 in
theorem gX10_camp_X10_goesOn : GoodIn wsX10_camp (wsV RX10 78 RX10 yX10_goesOn wsX10_goesOn) := goodIn_app (goodIn_of _ (by decide +kernel)) ggX10_camp_X10_goesOn
set_option maxRecDepth 20000 in
theorem ggX10_camp_X10_isTeam : GoodIn wsX10_camp wsX10_isTeam := goodIn_r _ [8, 2, 9, 10, 11, 12, 13, 14, 15, 16, 7, 17, 182, 183, 184, 185, 186, 187, 188, 189, 190, 191, 192, 215, 216, 217] (by decide +kernel) (by decide +kernel)
set_option maxRecDepth 20000 in
theorem gX10_camp_X10_isTeam : GoodIn wsX10_camp (wsV RX10 111 RX10 yX10_isTeam wsX10_isTeam) := goodIn_app (goodIn_of _ (by decide +kernel)) ggX10_camp_X10_isTeam
theorem dX10_camp_0 : decode cX10_camp 0 = .ok (.aload_n 0, 1) := by decide +kernel
theorem dX10_camp_1 : decode cX10_camp 1 = .ok (.iload_n 1, 1) := by decide +kernel
theorem dX10_camp_2 : decode cX10_camp 2 = .ok (.invokevirtual 111, 3) := by decide +kernel
theorem dX10_camp_5 : decode cX10_camp 5 = .ok (.istore_n 3, 1) := by decide +kernel
theorem dX10_camp_6 : decode cX10_camp 6 = .ok (.iload_n 3, 1) := by decide +kernel
theorem dX10_camp_7 : decode cX10_camp 7 = .ok (.ifCond .eq 19, 3) := by decide +kernel
theorem dX10_camp_26 : decode cX10_camp 26 = .ok (.iconst 0, 1) := by decide +kernel
theorem dX10_camp_27 : decode cX10_camp 27 = .ok (.istore 4, 2) := by decide +kernel
theorem dX10_camp_29 : decode cX10_camp 29 = .ok (.iload 4, 2) := by decide +kernel
theorem dX10_camp_31 : decode cX10_camp 31 = .ok (.ifCond .eq 14, 3) := by decide +kernel
theorem dX10_camp_45 : decode cX10_camp 45 = .ok (.bipush 45, 2) := by decide +kernel
theorem dX10_camp_47 : decode cX10_camp 47 = .ok (.istore 5, 2) := by decide +kernel
theorem dX10_camp_49 : decode cX10_camp 49 = .ok (.aload_n 0, 1) := by decide +kernel
theorem dX10_camp_50 : decode cX10_camp 50 = .ok (.iload_n 3, 1) := by decide +kernel
theorem dX10_camp_51 : decode cX10_camp 51 = .ok (.ifCond .ne 7, 3) := by decide +kernel
theorem dX10_camp_54 : decode cX10_camp 54 = .ok (.iconst 1, 1) := by decide +kernel
theorem dX10_camp_55 : decode cX10_camp 55 = .ok (.goto 24, 3) := by decide +kernel
theorem dX10_camp_79 : decode cX10_camp 79 = .ok (.invokevirtual 78, 3) := by decide +kernel
theorem dX10_camp_82 : decode cX10_camp 82 = .ok (.ifCond .eq 22, 3) := by decide +kernel
theorem dX10_camp_104 : decode cX10_camp 104 = .ok (.iconst 0, 1) := by decide +kernel
theorem dX10_camp_105 : decode cX10_camp 105 = .ok (.ireturn, 1) := by decide +kernel
set_option maxHeartbeats 4000000 in
set_option maxRecDepth 100000 in
theorem c_X10_camp (l : Launch) (htr : l.stackTraces = false) (dC : Nat → ClassId) (dI : Nat → Nat → Nat) (e0 sz : Nat) (h0 : Nat) (th : Int32) (b : Nat → Nat) (p0 : Int32) (p1 : Int32) : Met l yX10_camp wsX10_camp ({ frames := 2, cells := 0, slots := 0, locals := 46 }) (va_Pc [.ref h0, .int p0, .int p1] (fun U => U.heap.size = sz ∧ va_P (dC, dI) vwCl [(h0, .inr (15, zM th b)), ((b 0), .inr (4, [.int 0, .ref e0, .int 0])), ((b 1), .inr (4, [.int 0, .ref e0, .int 0])), ((b 2), .inr (4, [.int 0, .ref e0, .int 0])), ((b 3), .inr (4, [.int 0, .ref e0, .int 0]))] U.heap ∧ va_K (dC, dI) vwCl [] U ∧ va_D (fun _ => True) [(h0, .inr (15, zM th b)), ((b 0), .inr (4, [.int 0, .ref e0, .int 0])), ((b 1), .inr (4, [.int 0, .ref e0, .int 0])), ((b 2), .inr (4, [.int 0, .ref e0, .int 0])), ((b 3), .inr (4, [.int 0, .ref e0, .int 0]))] ∧ zE e0 (va_A [(h0, .inr (15, zM th b)), ((b 0), .inr (4, [.int 0, .ref e0, .int 0])), ((b 1), .inr (4, [.int 0, .ref e0, .int 0])), ((b 2), .inr (4, [.int 0, .ref e0, .int 0])), ((b 3), .inr (4, [.int 0, .ref e0, .int 0]))] sz) U U.heap)) (va_Qi (fun (r : Int32) (_ : Unit) => r = 0) (fun _ t => va_P (dC, dI) vwCl [(h0, .inr (15, zM 1 b))] t.heap ∧ va_K (dC, dI) vwCl [] t ∧ va_D (va_A [(h0, .inr (15, zM th b)), ((b 0), .inr (4, [.int 0, .ref e0, .int 0])), ((b 1), .inr (4, [.int 0, .ref e0, .int 0])), ((b 2), .inr (4, [.int 0, .ref e0, .int 0])), ((b 3), .inr (4, [.int 0, .ref e0, .int 0]))] sz) [(h0, .inr (15, zM 1 b))]) (va_A [(h0, .inr (15, zM th b)), ((b 0), .inr (4, [.int 0, .ref e0, .int 0])), ((b 1), .inr (4, [.int 0, .ref e0, .int 0])), ((b 2), .inr (4, [.int 0, .ref e0, .int 0])), ((b 3), .inr (4, [.int 0, .ref e0, .int 0]))] sz)) 0 0 (va_A [(h0, .inr (15, zM th b)), ((b 0), .inr (4, [.int 0, .ref e0, .int 0])), ((b 1), .inr (4, [.int 0, .ref e0, .int 0])), ((b 2), .inr (4, [.int 0, .ref e0, .int 0])), ((b 3), .inr (4, [.int 0, .ref e0, .int 0]))] sz) := by
  refine Met.ofW (cc := cX10_camp) (maxL := 6) (ret := (some .int)) (by decide) rfl ?_
  intro p e s m args below meth c s₁ B hml hv
  obtain ⟨rfl, hsz, hP, hK, hD0, hE⟩ := hv
  have hx := B.exec
  have hb := B.bytes
  have hr := B.returns
  have hts := atoms_spec (ws := wsX10_camp) B.pre
  have hown : s.vm.findClass RX10 = some m.cls := findClass_of_methodNamed B.named
  have hlocks := B.notSynchronized
  subst hsz
  have hD := hD0.self (sz := s.heap.size)
  generalize hAe : va_A [(h0, .inr (15, zM th b)), ((b 0), .inr (4, [.int 0, .ref e0, .int 0])), ((b 1), .inr (4, [.int 0, .ref e0, .int 0])), ((b 2), .inr (4, [.int 0, .ref e0, .int 0])), ((b 3), .inr (4, [.int 0, .ref e0, .int 0]))] s.heap.size = A at hD hE ⊢
  have hA : ∀ q : Nat, s.heap.size ≤ q → A q := fun q h => by rw [← hAe]; exact Or.inr h
  have hS : va_S A s.heap s.heap [] := va_S.rf
  have hl := lv_entry ([.ref h0, .int p0, .int p1]) (n := 6) (Nat.le_of_ble_eq_true rfl)
  rw [lg_entry_eq]
  generalize (lg_sl ([.ref h0, .int p0, .int p1]) ++ List.replicate (6 - (lg_sl ([.ref h0, .int p0, .int p1])).length) Slot.unset).toArray = ls at hl ⊢
  have hl : lv_has ls 6 [(0, .ref h0), (1, .int p0), (2, .int p1)] := hl
  refine lv_aload_n hx hb dX10_camp_0 rfl (lv_at hl 0 rfl) ?_
  refine lv_iload_n hx hb dX10_camp_1 rfl (lv_at hl 1 rfl) ?_
  have hPc := hP.sub (ws' := [(h0, .inr (15, zM th b)), ((b 2), .inr (4, [.int 0, .ref e0, .int 0]))]) [0, 3] rfl
  have hDc := hD.sub (ws' := [(h0, .inr (15, zM th b)), ((b 2), .inr (4, [.int 0, .ref e0, .int 0]))]) [0, 3] (by decide) rfl
  have hKc := hK.sub (tys' := []) [] rfl
  have hFc := va_free (wc := [(h0, .inr (15, zM th b)), ((b 2), .inr (4, [.int 0, .ref e0, .int 0]))]) hD hS hA [0, 3] rfl
  have hEc := (hE.kept hS.2.1).narrow hFc
  refine va_calli (va_runV (As := [.int p0]) (rest := []) ⟨hx, hb, hml, hown, hts⟩ (c_X10_isTeam l htr dC dI e0 s.heap.size h0 th b p0) (cwV 1 hts gX10_camp_X10_isTeam rfl rfl rfl (by decide +kernel) ⟨Nat.le_of_ble_eq_true rfl, Nat.le_of_ble_eq_true rfl⟩) ⟨fun a U g mk q => by obtain ⟨q0, q1, qP, qK, qD, qE⟩ := q; exact ⟨q0, q1, qP, va_K.moved (u := U) (U := U.calling g mk a) (Vm.Alike.refl U.vm) qK, qD, zE.same rfl qE⟩, va_recv hKc hPc (ci := 15) (q0 := 0) rfl rfl, fun U hU hW => ⟨rfl, by rw [hU], by rw [hU]; exact hPc, va_K.moved hW.alike hKc, hDc.weaken (fun _ _ _ _ => trivial), by rw [hU]; exact zE.warm hW hEc⟩⟩ rfl rfl hl.1 rfl (lv_room (Nat.le_of_ble_eq_true rfl)) dX10_camp_2 ⟨Nat.le_of_ble_eq_true rfl, Nat.le_of_ble_eq_true rfl⟩) hS (fun q _ h => hFc q h) hFc (fun r1 u t H1 locs ht hvm hw hB hz1 hk1 hS => ?_)
  obtain ⟨hP1, hK1, hD1⟩ := hB
  rw [ht] at hP1
  obtain ⟨hP, hD⟩ := va_join (wr := [((b 0), .inr (4, [.int 0, .ref e0, .int 0])), ((b 1), .inr (4, [.int 0, .ref e0, .int 0])), ((b 3), .inr (4, [.int 0, .ref e0, .int 0]))]) (w1 := [(h0, .inr (15, zM th b)), ((b 2), .inr (4, [.int 0, .ref e0, .int 0]))]) hP hD [0, 3] [1, 2, 4] rfl rfl (by decide) (by decide) hk1 hFc hP1 hD1
  generalize H1 = H at hP hS ⊢
  have hP : va_P (dC, dI) vwCl [((b 0), .inr (4, [.int 0, .ref e0, .int 0])), ((b 1), .inr (4, [.int 0, .ref e0, .int 0])), ((b 3), .inr (4, [.int 0, .ref e0, .int 0])), (h0, .inr (15, zM th b)), ((b 2), .inr (4, [.int 0, .ref e0, .int 0]))] H := hP
  have hD : va_D A [((b 0), .inr (4, [.int 0, .ref e0, .int 0])), ((b 1), .inr (4, [.int 0, .ref e0, .int 0])), ((b 3), .inr (4, [.int 0, .ref e0, .int 0])), (h0, .inr (15, zM th b)), ((b 2), .inr (4, [.int 0, .ref e0, .int 0]))] := hD
  obtain rfl : r1 = 0 := hw
  refine lv_istore_n (lv' := [(3, .int 0), (0, .ref h0), (1, .int p0), (2, .int p1)]) hx hb dX10_camp_5 rfl hl (by decide) rfl (fun ls hl => ?_)
  refine lv_iload_n hx hb dX10_camp_6 rfl (lv_at hl 0 rfl) ?_
  refine lv_if_eq (tgt := 26) hx hb dX10_camp_7 (by decide) (fun _ => ?_) (fun c2 => absurd (by decide) c2)
  refine lv_iconst (v := 0) hx hb dX10_camp_26 (by decide) ?_
  refine lv_istore (lv' := [(4, .int 0), (3, .int 0), (0, .ref h0), (1, .int p0), (2, .int p1)]) hx hb dX10_camp_27 hl (by decide) rfl (fun ls hl => ?_)
  refine lv_iload hx hb dX10_camp_29 (lv_at hl 0 rfl) ?_
  refine lv_if_eq (tgt := 45) hx hb dX10_camp_31 (by decide) (fun _ => ?_) (fun c3 => absurd (by decide) c3)
  refine lv_bipush (v := 45) hx hb dX10_camp_45 (by decide) ?_
  refine lv_istore (lv' := [(5, .int 45), (4, .int 0), (3, .int 0), (0, .ref h0), (1, .int p0), (2, .int p1)]) hx hb dX10_camp_47 hl (by decide) rfl (fun ls hl => ?_)
  refine lv_aload_n hx hb dX10_camp_49 rfl (lv_at hl 3 rfl) ?_
  refine lv_iload_n hx hb dX10_camp_50 rfl (lv_at hl 2 rfl) ?_
  refine lv_if_ne (tgt := 58) hx hb dX10_camp_51 (by decide) (fun c4 => absurd (by decide) c4) (fun _ => ?_)
  refine lv_iconst (v := 1) hx hb dX10_camp_54 (by decide) ?_
  refine lv_goto (tgt := 79) hx hb dX10_camp_55 (by decide) ?_
  have hPc := hP.sub (ws' := [(h0, .inr (15, zM th b))]) [3] rfl
  have hDc := hD.sub (ws' := [(h0, .inr (15, zM th b))]) [3] (by decide) rfl
  have hKc := hK.sub (tys' := []) [] rfl
  have hFc := va_free (wc := [(h0, .inr (15, zM th b))]) hD hS hA [3] rfl
  refine va_calli (va_runV (As := [.int 1]) (rest := []) ⟨hx, hb, hml, hown, hts⟩ (c_X10_goesOn l htr dC dI e0 H.size h0 th b 1) (cwV 1 hts gX10_camp_X10_goesOn rfl rfl rfl (by decide +kernel) ⟨Nat.le_of_ble_eq_true rfl, Nat.le_of_ble_eq_true rfl⟩) ⟨fun a U g mk q => by obtain ⟨q0, q1, qP, qK, qD⟩ := q; exact ⟨q0, q1, qP, va_K.moved (u := U) (U := U.calling g mk a) (Vm.Alike.refl U.vm) qK, qD⟩, va_recv hKc hPc (ci := 15) (q0 := 0) rfl rfl, fun U hU hW => ⟨rfl, by rw [hU], by rw [hU]; exact hPc, va_K.moved hW.alike hKc, hDc.weaken (fun _ _ _ _ => trivial)⟩⟩ rfl rfl hl.1 rfl (lv_room (Nat.le_of_ble_eq_true rfl)) dX10_camp_79 ⟨Nat.le_of_ble_eq_true rfl, Nat.le_of_ble_eq_true rfl⟩) hS (fun q _ h => hFc q h) hFc (fun r5 u t H1 locs ht hvm hw hB hz1 hk1 hS => ?_)
  obtain ⟨hP1, hK1, hD1⟩ := hB
  rw [ht] at hP1
  obtain ⟨hP, hD⟩ := va_join (wr := [((b 0), .inr (4, [.int 0, .ref e0, .int 0])), ((b 1), .inr (4, [.int 0, .ref e0, .int 0])), ((b 3), .inr (4, [.int 0, .ref e0, .int 0])), ((b 2), .inr (4, [.int 0, .ref e0, .int 0]))]) (w1 := [(h0, .inr (15, zM 1 b))]) hP hD [3] [0, 1, 2, 4] rfl rfl (by decide) (by decide) hk1 hFc hP1 hD1
  generalize H1 = H at hP hS ⊢
  have hP : va_P (dC, dI) vwCl [((b 0), .inr (4, [.int 0, .ref e0, .int 0])), ((b 1), .inr (4, [.int 0, .ref e0, .int 0])), ((b 3), .inr (4, [.int 0, .ref e0, .int 0])), ((b 2), .inr (4, [.int 0, .ref e0, .int 0])), (h0, .inr (15, zM 1 b))] H := hP
  have hD : va_D A [((b 0), .inr (4, [.int 0, .ref e0, .int 0])), ((b 1), .inr (4, [.int 0, .ref e0, .int 0])), ((b 3), .inr (4, [.int 0, .ref e0, .int 0])), ((b 2), .inr (4, [.int 0, .ref e0, .int 0])), (h0, .inr (15, zM 1 b))] := hD
  obtain rfl : r5 = 0 := hw.trans (by decide)
  refine lv_if_eq (tgt := 104) hx hb dX10_camp_82 (by decide) (fun _ => ?_) (fun c6 => absurd (by decide) c6)
  refine lv_iconst (v := 0) hx hb dX10_camp_104 (by decide) ?_
  have hP9 := hP.sub (ws' := [(h0, .inr (15, zM 1 b))]) [4] rfl
  have hD9 := hD.sub (ws' := [(h0, .inr (15, zM 1 b))]) [4] (by decide) rfl
  have hK9 := hK.sub (tys' := []) [] rfl
  exact W.iret (v := 0) hx hb hr (fun t ht hW => ⟨⟨0, (), rfl, rfl, ⟨by rw [ht]; exact hP9, va_K.moved hW.alike hK9, hD9⟩⟩, hS.F ht⟩) hS.2.2 dX10_camp_105

set_option maxRecDepth 20000 in
theorem ggX10_restLong_X10_goesOn : GoodIn wsX10_restLong wsX10_goesOn := goodIn_r _ [179, 180, 181, 182, 183, 184, 185, 186, 187, 188, 189, 190, 191] (by decide +kernel) (by decide +kernel)
set_option maxRecDepth 20000 in
theorem gX10_restLong_X10_goesOn : GoodIn wsX10_restLong (wsV RX10 78 RX10 yX10_goesOn wsX10_goesOn) := goodIn_app (goodIn_of _ (by decide +kernel)) ggX10_restLong_X10_goesOn
set_option maxRecDepth 20000 in
theorem ggX10_restLong_X10_isTeam : GoodIn wsX10_restLong wsX10_isTeam := goodIn_r _ [7, 1, 8, 9, 10, 11, 12, 13, 14, 15, 6, 16, 181, 182, 183, 184, 185, 186, 187, 188, 189, 190, 191, 214, 215, 216] (by decide +kernel) (by decide +kernel)
set_option maxRecDepth 20000 in
theorem gX10_restLong_X10_isTeam : GoodIn wsX10_restLong (wsV RX10 111 RX10 yX10_isTeam wsX10_isTeam) := goodIn_app (goodIn_of _ (by decide +kernel)) ggX10_restLong_X10_isTeam
theorem dX10_restLong_0 : decode cX10_restLong 0 = .ok (.aload_n 0, 1) := by decide +kernel
theorem dX10_restLong_1 : decode cX10_restLong 1 = .ok (.iload_n 1, 1) := by decide +kernel
theorem dX10_restLong_2 : decode cX10_restLong 2 = .ok (.invokevirtual 111, 3) := by decide +kernel
theorem dX10_restLong_5 : decode cX10_restLong 5 = .ok (.ifCond .eq 22, 3) := by decide +kernel
theorem dX10_restLong_27 : decode cX10_restLong 27 = .ok (.iconst 0, 1) := by decide +kernel
theorem dX10_restLong_28 : decode cX10_restLong 28 = .ok (.istore_n 2, 1) := by decide +kernel
theorem dX10_restLong_29 : decode cX10_restLong 29 = .ok (.aload_n 0, 1) := by decide +kernel
theorem dX10_restLong_30 : decode cX10_restLong 30 = .ok (.iload_n 1, 1) := by decide +kernel
theorem dX10_restLong_31 : decode cX10_restLong 31 = .ok (.invokevirtual 111, 3) := by decide +kernel
theorem dX10_restLong_34 : decode cX10_restLong 34 = .ok (.ifCond .eq 14, 3) := by decide +kernel
theorem dX10_restLong_48 : decode cX10_restLong 48 = .ok (.bipush 45, 2) := by decide +kernel
theorem dX10_restLong_50 : decode cX10_restLong 50 = .ok (.istore_n 3, 1) := by decide +kernel
theorem dX10_restLong_51 : decode cX10_restLong 51 = .ok (.aload_n 0, 1) := by decide +kernel
theorem dX10_restLong_52 : decode cX10_restLong 52 = .ok (.aload_n 0, 1) := by decide +kernel
theorem dX10_restLong_53 : decode cX10_restLong 53 = .ok (.iload_n 1, 1) := by decide +kernel
theorem dX10_restLong_54 : decode cX10_restLong 54 = .ok (.invokevirtual 111, 3) := by decide +kernel
theorem dX10_restLong_57 : decode cX10_restLong 57 = .ok (.ifCond .ne 7, 3) := by decide +kernel
theorem dX10_restLong_60 : decode cX10_restLong 60 = .ok (.iconst 1, 1) := by decide +kernel
theorem dX10_restLong_61 : decode cX10_restLong 61 = .ok (.goto 14, 3) := by decide +kernel
theorem dX10_restLong_75 : decode cX10_restLong 75 = .ok (.invokevirtual 78, 3) := by decide +kernel
theorem dX10_restLong_78 : decode cX10_restLong 78 = .ok (.ifCond .eq 24, 3) := by decide +kernel
theorem dX10_restLong_102 : decode cX10_restLong 102 = .ok (.iconst 0, 1) := by decide +kernel
theorem dX10_restLong_103 : decode cX10_restLong 103 = .ok (.ireturn, 1) := by decide +kernel
set_option maxHeartbeats 4000000 in
set_option maxRecDepth 100000 in
theorem c_X10_restLong (l : Launch) (htr : l.stackTraces = false) (dC : Nat → ClassId) (dI : Nat → Nat → Nat) (e0 sz : Nat) (h0 : Nat) (th : Int32) (b : Nat → Nat) (p0 : Int32) : Met l yX10_restLong wsX10_restLong ({ frames := 2, cells := 0, slots := 0, locals := 46 }) (va_Pc [.ref h0, .int p0] (fun U => U.heap.size = sz ∧ va_P (dC, dI) vwCl [(h0, .inr (15, zM th b)), ((b 0), .inr (4, [.int 0, .ref e0, .int 0])), ((b 1), .inr (4, [.int 0, .ref e0, .int 0])), ((b 2), .inr (4, [.int 0, .ref e0, .int 0])), ((b 3), .inr (4, [.int 0, .ref e0, .int 0]))] U.heap ∧ va_K (dC, dI) vwCl [] U ∧ va_D (fun _ => True) [(h0, .inr (15, zM th b)), ((b 0), .inr (4, [.int 0, .ref e0, .int 0])), ((b 1), .inr (4, [.int 0, .ref e0, .int 0])), ((b 2), .inr (4, [.int 0, .ref e0, .int 0])), ((b 3), .inr (4, [.int 0, .ref e0, .int 0]))] ∧ zE e0 (va_A [(h0, .inr (15, zM th b)), ((b 0), .inr (4, [.int 0, .ref e0, .int 0])), ((b 1), .inr (4, [.int 0, .ref e0, .int 0])), ((b 2), .inr (4, [.int 0, .ref e0, .int 0])), ((b 3), .inr (4, [.int 0, .ref e0, .int 0]))] sz) U U.heap)) (va_Qi (fun (r : Int32) (_ : Unit) => r = 0) (fun _ t => va_P (dC, dI) vwCl [(h0, .inr (15, zM 1 b))] t.heap ∧ va_K (dC, dI) vwCl [] t ∧ va_D (va_A [(h0, .inr (15, zM th b)), ((b 0), .inr (4, [.int 0, .ref e0, .int 0])), ((b 1), .inr (4, [.int 0, .ref e0, .int 0])), ((b 2), .inr (4, [.int 0, .ref e0, .int 0])), ((b 3), .inr (4, [.int 0, .ref e0, .int 0]))] sz) [(h0, .inr (15, zM 1 b))]) (va_A [(h0, .inr (15, zM th b)), ((b 0), .inr (4, [.int 0, .ref e0, .int 0])), ((b 1), .inr (4, [.int 0, .ref e0, .int 0])), ((b 2), .inr (4, [.int 0, .ref e0, .int 0])), ((b 3), .inr (4, [.int 0, .ref e0, .int 0]))] sz)) 0 0 (va_A [(h0, .inr (15, zM th b)), ((b 0), .inr (4, [.int 0, .ref e0, .int 0])), ((b 1), .inr (4, [.int 0, .ref e0, .int 0])), ((b 2), .inr (4, [.int 0, .ref e0, .int 0])), ((b 3), .inr (4, [.int 0, .ref e0, .int 0]))] sz) := by
  refine Met.ofW (cc := cX10_restLong) (maxL := 4) (ret := (some .int)) (by decide) rfl ?_
  intro p e s m args below meth c s₁ B hml hv
  obtain ⟨rfl, hsz, hP, hK, hD0, hE⟩ := hv
  have hx := B.exec
  have hb := B.bytes
  have hr := B.returns
  have hts := atoms_spec (ws := wsX10_restLong) B.pre
  have hown : s.vm.findClass RX10 = some m.cls := findClass_of_methodNamed B.named
  have hlocks := B.notSynchronized
  subst hsz
  have hD := hD0.self (sz := s.heap.size)
  generalize hAe : va_A [(h0, .inr (15, zM th b)), ((b 0), .inr (4, [.int 0, .ref e0, .int 0])), ((b 1), .inr (4, [.int 0, .ref e0, .int 0])), ((b 2), .inr (4, [.int 0, .ref e0, .int 0])), ((b 3), .inr (4, [.int 0, .ref e0, .int 0]))] s.heap.size = A at hD hE ⊢
  have hA : ∀ q : Nat, s.heap.size ≤ q → A q := fun q h => by rw [← hAe]; exact Or.inr h
  have hS : va_S A s.heap s.heap [] := va_S.rf
  have hl := lv_entry ([.ref h0, .int p0]) (n := 4) (Nat.le_of_ble_eq_true rfl)
  rw [lg_entry_eq]
  generalize (lg_sl ([.ref h0, .int p0]) ++ List.replicate (4 - (lg_sl ([.ref h0, .int p0])).length) Slot.unset).toArray = ls at hl ⊢
  have hl : lv_has ls 4 [(0, .ref h0), (1, .int p0)] := hl
  refine lv_aload_n hx hb dX10_restLong_0 rfl (lv_at hl 0 rfl) ?_
  refine lv_iload_n hx hb dX10_restLong_1 rfl (lv_at hl 1 rfl) ?_
  have hPc := hP.sub (ws' := [(h0, .inr (15, zM th b)), ((b 2), .inr (4, [.int 0, .ref e0, .int 0]))]) [0, 3] rfl
  have hDc := hD.sub (ws' := [(h0, .inr (15, zM th b)), ((b 2), .inr (4, [.int 0, .ref e0, .int 0]))]) [0, 3] (by decide) rfl
  have hKc := hK.sub (tys' := []) [] rfl
  have hFc := va_free (wc := [(h0, .inr (15, zM th b)), ((b 2), .inr (4, [.int 0, .ref e0, .int 0]))]) hD hS hA [0, 3] rfl
  have hEc := (hE.kept hS.2.1).narrow hFc
  refine va_calli (va_runV (As := [.int p0]) (rest := []) ⟨hx, hb, hml, hown, hts⟩ (c_X10_isTeam l htr dC dI e0 s.heap.size h0 th b p0) (cwV 1 hts gX10_restLong_X10_isTeam rfl rfl rfl (by decide +kernel) ⟨Nat.le_of_ble_eq_true rfl, Nat.le_of_ble_eq_true rfl⟩) ⟨fun a U g mk q => by obtain ⟨q0, q1, qP, qK, qD, qE⟩ := q; exact ⟨q0, q1, qP, va_K.moved (u := U) (U := U.calling g mk a) (Vm.Alike.refl U.vm) qK, qD, zE.same rfl qE⟩, va_recv hKc hPc (ci := 15) (q0 := 0) rfl rfl, fun U hU hW => ⟨rfl, by rw [hU], by rw [hU]; exact hPc, va_K.moved hW.alike hKc, hDc.weaken (fun _ _ _ _ => trivial), by rw [hU]; exact zE.warm hW hEc⟩⟩ rfl rfl hl.1 rfl (lv_room (Nat.le_of_ble_eq_true rfl)) dX10_restLong_2 ⟨Nat.le_of_ble_eq_true rfl, Nat.le_of_ble_eq_true rfl⟩) hS (fun q _ h => hFc q h) hFc (fun r1 u t H1 locs ht hvm hw hB hz1 hk1 hS => ?_)
  obtain ⟨hP1, hK1, hD1⟩ := hB
  rw [ht] at hP1
  obtain ⟨hP, hD⟩ := va_join (wr := [((b 0), .inr (4, [.int 0, .ref e0, .int 0])), ((b 1), .inr (4, [.int 0, .ref e0, .int 0])), ((b 3), .inr (4, [.int 0, .ref e0, .int 0]))]) (w1 := [(h0, .inr (15, zM th b)), ((b 2), .inr (4, [.int 0, .ref e0, .int 0]))]) hP hD [0, 3] [1, 2, 4] rfl rfl (by decide) (by decide) hk1 hFc hP1 hD1
  generalize H1 = H at hP hS ⊢
  have hP : va_P (dC, dI) vwCl [((b 0), .inr (4, [.int 0, .ref e0, .int 0])), ((b 1), .inr (4, [.int 0, .ref e0, .int 0])), ((b 3), .inr (4, [.int 0, .ref e0, .int 0])), (h0, .inr (15, zM th b)), ((b 2), .inr (4, [.int 0, .ref e0, .int 0]))] H := hP
  have hD : va_D A [((b 0), .inr (4, [.int 0, .ref e0, .int 0])), ((b 1), .inr (4, [.int 0, .ref e0, .int 0])), ((b 3), .inr (4, [.int 0, .ref e0, .int 0])), (h0, .inr (15, zM th b)), ((b 2), .inr (4, [.int 0, .ref e0, .int 0]))] := hD
  obtain rfl : r1 = 0 := hw
  refine lv_if_eq (tgt := 27) hx hb dX10_restLong_5 (by decide) (fun _ => ?_) (fun c2 => absurd (by decide) c2)
  refine lv_iconst (v := 0) hx hb dX10_restLong_27 (by decide) ?_
  refine lv_istore_n (lv' := [(2, .int 0), (0, .ref h0), (1, .int p0)]) hx hb dX10_restLong_28 rfl hl (by decide) rfl (fun ls hl => ?_)
  refine lv_aload_n hx hb dX10_restLong_29 rfl (lv_at hl 1 rfl) ?_
  refine lv_iload_n hx hb dX10_restLong_30 rfl (lv_at hl 2 rfl) ?_
  have hPc := hP.sub (ws' := [(h0, .inr (15, zM th b)), ((b 2), .inr (4, [.int 0, .ref e0, .int 0]))]) [3, 4] rfl
  have hDc := hD.sub (ws' := [(h0, .inr (15, zM th b)), ((b 2), .inr (4, [.int 0, .ref e0, .int 0]))]) [3, 4] (by decide) rfl
  have hKc := hK.sub (tys' := []) [] rfl
  have hFc := va_free (wc := [(h0, .inr (15, zM th b)), ((b 2), .inr (4, [.int 0, .ref e0, .int 0]))]) hD hS hA [3, 4] rfl
  have hEc := (hE.kept hS.2.1).narrow hFc
  refine va_calli (va_runV (As := [.int p0]) (rest := []) ⟨hx, hb, hml, hown, hts⟩ (c_X10_isTeam l htr dC dI e0 H.size h0 th b p0) (cwV 1 hts gX10_restLong_X10_isTeam rfl rfl rfl (by decide +kernel) ⟨Nat.le_of_ble_eq_true rfl, Nat.le_of_ble_eq_true rfl⟩) ⟨fun a U g mk q => by obtain ⟨q0, q1, qP, qK, qD, qE⟩ := q; exact ⟨q0, q1, qP, va_K.moved (u := U) (U := U.calling g mk a) (Vm.Alike.refl U.vm) qK, qD, zE.same rfl qE⟩, va_recv hKc hPc (ci := 15) (q0 := 0) rfl rfl, fun U hU hW => ⟨rfl, by rw [hU], by rw [hU]; exact hPc, va_K.moved hW.alike hKc, hDc.weaken (fun _ _ _ _ => trivial), by rw [hU]; exact zE.warm hW hEc⟩⟩ rfl rfl hl.1 rfl (lv_room (Nat.le_of_ble_eq_true rfl)) dX10_restLong_31 ⟨Nat.le_of_ble_eq_true rfl, Nat.le_of_ble_eq_true rfl⟩) hS (fun q _ h => hFc q h) hFc (fun r3 u t H1 locs ht hvm hw hB hz1 hk1 hS => ?_)
  obtain ⟨hP1, hK1, hD1⟩ := hB
  rw [ht] at hP1
  obtain ⟨hP, hD⟩ := va_join (wr := [((b 0), .inr (4, [.int 0, .ref e0, .int 0])), ((b 1), .inr (4, [.int 0, .ref e0, .int 0])), ((b 3), .inr (4, [.int 0, .ref e0, .int 0]))]) (w1 := [(h0, .inr (15, zM th b)), ((b 2), .inr (4, [.int 0, .ref e0, .int 0]))]) hP hD [3, 4] [0, 1, 2] rfl rfl (by decide) (by decide) hk1 hFc hP1 hD1
  generalize H1 = H at hP hS ⊢
  have hP : va_P (dC, dI) vwCl [((b 0), .inr (4, [.int 0, .ref e0, .int 0])), ((b 1), .inr (4, [.int 0, .ref e0, .int 0])), ((b 3), .inr (4, [.int 0, .ref e0, .int 0])), (h0, .inr (15, zM th b)), ((b 2), .inr (4, [.int 0, .ref e0, .int 0]))] H := hP
  have hD : va_D A [((b 0), .inr (4, [.int 0, .ref e0, .int 0])), ((b 1), .inr (4, [.int 0, .ref e0, .int 0])), ((b 3), .inr (4, [.int 0, .ref e0, .int 0])), (h0, .inr (15, zM th b)), ((b 2), .inr (4, [.int 0, .ref e0, .int 0]))] := hD
  obtain rfl : r3 = 0 := hw
  refine lv_if_eq (tgt := 48) hx hb dX10_restLong_34 (by decide) (fun _ => ?_) (fun c4 => absurd (by decide) c4)
  refine lv_bipush (v := 45) hx hb dX10_restLong_48 (by decide) ?_
  refine lv_istore_n (lv' := [(3, .int 45), (2, .int 0), (0, .ref h0), (1, .int p0)]) hx hb dX10_restLong_50 rfl hl (by decide) rfl (fun ls hl => ?_)
  refine lv_aload_n hx hb dX10_restLong_51 rfl (lv_at hl 2 rfl) ?_
  refine lv_aload_n hx hb dX10_restLong_52 rfl (lv_at hl 2 rfl) ?_
  refine lv_iload_n hx hb dX10_restLong_53 rfl (lv_at hl 3 rfl) ?_
  have hPc := hP.sub (ws' := [(h0, .inr (15, zM th b)), ((b 2), .inr (4, [.int 0, .ref e0, .int 0]))]) [3, 4] rfl
  have hDc := hD.sub (ws' := [(h0, .inr (15, zM th b)), ((b 2), .inr (4, [.int 0, .ref e0, .int 0]))]) [3, 4] (by decide) rfl
  have hKc := hK.sub (tys' := []) [] rfl
  have hFc := va_free (wc := [(h0, .inr (15, zM th b)), ((b 2), .inr (4, [.int 0, .ref e0, .int 0]))]) hD hS hA [3, 4] rfl
  have hEc := (hE.kept hS.2.1).narrow hFc
  refine va_calli (va_runV (As := [.int p0]) (rest := [.ref h0]) ⟨hx, hb, hml, hown, hts⟩ (c_X10_isTeam l htr dC dI e0 H.size h0 th b p0) (cwV 1 hts gX10_restLong_X10_isTeam rfl rfl rfl (by decide +kernel) ⟨Nat.le_of_ble_eq_true rfl, Nat.le_of_ble_eq_true rfl⟩) ⟨fun a U g mk q => by obtain ⟨q0, q1, qP, qK, qD, qE⟩ := q; exact ⟨q0, q1, qP, va_K.moved (u := U) (U := U.calling g mk a) (Vm.Alike.refl U.vm) qK, qD, zE.same rfl qE⟩, va_recv hKc hPc (ci := 15) (q0 := 0) rfl rfl, fun U hU hW => ⟨rfl, by rw [hU], by rw [hU]; exact hPc, va_K.moved hW.alike hKc, hDc.weaken (fun _ _ _ _ => trivial), by rw [hU]; exact zE.warm hW hEc⟩⟩ rfl rfl hl.1 rfl (lv_room (Nat.le_of_ble_eq_true rfl)) dX10_restLong_54 ⟨Nat.le_of_ble_eq_true rfl, Nat.le_of_ble_eq_true rfl⟩) hS (fun q _ h => hFc q h) hFc (fun r5 u t H1 locs ht hvm hw hB hz1 hk1 hS => ?_)
  obtain ⟨hP1, hK1, hD1⟩ := hB
  rw [ht] at hP1
  obtain ⟨hP, hD⟩ := va_join (wr := [((b 0), .inr (4, [.int 0, .ref e0, .int 0])), ((b 1), .inr (4, [.int 0, .ref e0, .int 0])), ((b 3), .inr (4, [.int 0, .ref e0, .int 0]))]) (w1 := [(h0, .inr (15, zM th b)), ((b 2), .inr (4, [.int 0, .ref e0, .int 0]))]) hP hD [3, 4] [0, 1, 2] rfl rfl (by decide) (by decide) hk1 hFc hP1 hD1
  generalize H1 = H at hP hS ⊢
  have hP : va_P (dC, dI) vwCl [((b 0), .inr (4, [.int 0, .ref e0, .int 0])), ((b 1), .inr (4, [.int 0, .ref e0, .int 0])), ((b 3), .inr (4, [.int 0, .ref e0, .int 0])), (h0, .inr (15, zM th b)), ((b 2), .inr (4, [.int 0, .ref e0, .int 0]))] H := hP
  have hD : va_D A [((b 0), .inr (4, [.int 0, .ref e0, .int 0])), ((b 1), .inr (4, [.int 0, .ref e0, .int 0])), ((b 3), .inr (4, [.int 0, .ref e0, .int 0])), (h0, .inr (15, zM th b)), ((b 2), .inr (4, [.int 0, .ref e0, .int 0]))] := hD
  obtain rfl : r5 = 0 := hw
  refine lv_if_ne (tgt := 64) hx hb dX10_restLong_57 (by decide) (fun c6 => absurd (by decide) c6) (fun _ => ?_)
  refine lv_iconst (v := 1) hx hb dX10_restLong_60 (by decide) ?_
  refine lv_goto (tgt := 75) hx hb dX10_restLong_61 (by decide) ?_
  have hPc := hP.sub (ws' := [(h0, .inr (15, zM th b))]) [3] rfl
  have hDc := hD.sub (ws' := [(h0, .inr (15, zM th b))]) [3] (by decide) rfl
  have hKc := hK.sub (tys' := []) [] rfl
  have hFc := va_free (wc := [(h0, .inr (15, zM th b))]) hD hS hA [3] rfl
  refine va_calli (va_runV (As := [.int 1]) (rest := []) ⟨hx, hb, hml, hown, hts⟩ (c_X10_goesOn l htr dC dI e0 H.size h0 th b 1) (cwV 1 hts gX10_restLong_X10_goesOn rfl rfl rfl (by decide +kernel) ⟨Nat.le_of_ble_eq_true rfl, Nat.le_of_ble_eq_true rfl⟩) ⟨fun a U g mk q => by obtain ⟨q0, q1, qP, qK, qD⟩ := q; exact ⟨q0, q1, qP, va_K.moved (u := U) (U := U.calling g mk a) (Vm.Alike.refl U.vm) qK, qD⟩, va_recv hKc hPc (ci := 15) (q0 := 0) rfl rfl, fun U hU hW => ⟨rfl, by rw [hU], by rw [hU]; exact hPc, va_K.moved hW.alike hKc, hDc.weaken (fun _ _ _ _ => trivial)⟩⟩ rfl rfl hl.1 rfl (lv_room (Nat.le_of_ble_eq_true rfl)) dX10_restLong_75 ⟨Nat.le_of_ble_eq_true rfl, Nat.le_of_ble_eq_true rfl⟩) hS (fun q _ h => hFc q h) hFc (fun r7 u t H1 locs ht hvm hw hB hz1 hk1 hS => ?_)
  obtain ⟨hP1, hK1, hD1⟩ := hB
  rw [ht] at hP1
  obtain ⟨hP, hD⟩ := va_join (wr := [((b 0), .inr (4, [.int 0, .ref e0, .int 0])), ((b 1), .inr (4, [.int 0, .ref e0, .int 0])), ((b 3), .inr (4, [.int 0, .ref e0, .int 0])), ((b 2), .inr (4, [.int 0, .ref e0, .int 0]))]) (w1 := [(h0, .inr (15, zM 1 b))]) hP hD [3] [0, 1, 2, 4] rfl rfl (by decide) (by decide) hk1 hFc hP1 hD1
  generalize H1 = H at hP hS ⊢
  have hP : va_P (dC, dI) vwCl [((b 0), .inr (4, [.int 0, .ref e0, .int 0])), ((b 1), .inr (4, [.int 0, .ref e0, .int 0])), ((b 3), .inr (4, [.int 0, .ref e0, .int 0])), ((b 2), .inr (4, [.int 0, .ref e0, .int 0])), (h0, .inr (15, zM 1 b))] H := hP
  have hD : va_D A [((b 0), .inr (4, [.int 0, .ref e0, .int 0])), ((b 1), .inr (4, [.int 0, .ref e0, .int 0])), ((b 3), .inr (4, [.int 0, .ref e0, .int 0])), ((b 2), .inr (4, [.int 0, .ref e0, .int 0])), (h0, .inr (15, zM 1 b))] := hD
  obtain rfl : r7 = 0 := hw.trans (by decide)
  refine lv_if_eq (tgt := 102) hx hb dX10_restLong_78 (by decide) (fun _ => ?_) (fun c8 => absurd (by decide) c8)
  refine lv_iconst (v := 0) hx hb dX10_restLong_102 (by decide) ?_
  have hP9 := hP.sub (ws' := [(h0, .inr (15, zM 1 b))]) [4] rfl
  have hD9 := hD.sub (ws' := [(h0, .inr (15, zM 1 b))]) [4] (by decide) rfl
  have hK9 := hK.sub (tys' := []) [] rfl
  exact W.iret (v := 0) hx hb hr (fun t ht hW => ⟨⟨0, (), rfl, rfl, ⟨by rw [ht]; exact hP9, va_K.moved hW.alike hK9, hD9⟩⟩, hS.F ht⟩) hS.2.2 dX10_restLong_103

set_option maxRecDepth 20000 in
theorem ggX10_restMust_X10_goesOn : GoodIn wsX10_restMust wsX10_goesOn := goodIn_r _ [179, 180, 181, 182, 183, 184, 185, 186, 187, 188, 189, 190, 191] (by decide +kernel) (by decide +kernel)
set_option maxRecDepth 20000 in
theorem gX10_restMust_X10_goesOn : GoodIn wsX10_restMust (wsV RX10 78 RX10 yX10_goesOn wsX10_goesOn) := goodIn_app (goodIn_of _ (by decide +kernel)) ggX10_restMust_X10_goesOn
set_option maxRecDepth 20000 in
theorem ggX10_restMust_X10_isTeam : GoodIn wsX10_restMust wsX10_isTeam := goodIn_r _ [7, 1, 8, 9, 10, 11, 12, 13, 14, 15, 6, 16, 181, 182, 183, 184, 185, 186, 187, 188, 189, 190, 191, 214, 215, 216] (by decide +kernel) (by decide +kernel)
set_option maxRecDepth 20000 in
theorem gX10_restMust_X10_isTeam : GoodIn wsX10_restMust (wsV RX10 111 RX10 yX10_isTeam wsX10_isTeam) := goodIn_app (goodIn_of _ (by decide +kernel)) ggX10_restMust_X10_isTeam
theorem dX10_restMust_0 : decode cX10_restMust 0 = .ok (.aload_n 0, 1) := by decide +kernel
theorem dX10_restMust_1 : decode cX10_restMust 1 = .ok (.iload_n 1, 1) := by decide +kernel
theorem dX10_restMust_2 : decode cX10_restMust 2 = .ok (.invokevirtual 111, 3) := by decide +kernel
theorem dX10_restMust_5 : decode cX10_restMust 5 = .ok (.ifCond .eq 14, 3) := by decide +kernel
theorem dX10_restMust_19 : decode cX10_restMust 19 = .ok (.bipush 45, 2) := by decide +kernel
theorem dX10_restMust_21 : decode cX10_restMust 21 = .ok (.istore_n 2, 1) := by decide +kernel
theorem dX10_restMust_22 : decode cX10_restMust 22 = .ok (.aload_n 0, 1) := by decide +kernel
theorem dX10_restMust_23 : decode cX10_restMust 23 = .ok (.aload_n 0, 1) := by decide +kernel
theorem dX10_restMust_24 : decode cX10_restMust 24 = .ok (.iload_n 1, 1) := by decide +kernel
theorem dX10_restMust_25 : decode cX10_restMust 25 = .ok (.invokevirtual 111, 3) := by decide +kernel
theorem dX10_restMust_28 : decode cX10_restMust 28 = .ok (.ifCond .ne 7, 3) := by decide +kernel
theorem dX10_restMust_31 : decode cX10_restMust 31 = .ok (.iconst 1, 1) := by decide +kernel
theorem dX10_restMust_32 : decode cX10_restMust 32 = .ok (.goto 14, 3) := by decide +kernel
theorem dX10_restMust_46 : decode cX10_restMust 46 = .ok (.invokevirtual 78, 3) := by decide +kernel
theorem dX10_restMust_49 : decode cX10_restMust 49 = .ok (.ifCond .eq 22, 3) := by decide +kernel
theorem dX10_restMust_71 : decode cX10_restMust 71 = .ok (.iconst 0, 1) := by decide +kernel
theorem dX10_restMust_72 : decode cX10_restMust 72 = .ok (.ireturn, 1) := by decide +kernel
set_option maxHeartbeats 4000000 in
set_option maxRecDepth 100000 in
theorem c_X10_restMust (l : Launch) (htr : l.stackTraces = false) (dC : Nat → ClassId) (dI : Nat → Nat → Nat) (e0 sz : Nat) (h0 : Nat) (th : Int32) (b : Nat → Nat) (p0 : Int32) : Met l yX10_restMust wsX10_restMust ({ frames := 2, cells := 0, slots := 0, locals := 46 }) (va_Pc [.ref h0, .int p0] (fun U => U.heap.size = sz ∧ va_P (dC, dI) vwCl [(h0, .inr (15, zM th b)), ((b 0), .inr (4, [.int 0, .ref e0, .int 0])), ((b 1), .inr (4, [.int 0, .ref e0, .int 0])), ((b 2), .inr (4, [.int 0, .ref e0, .int 0])), ((b 3), .inr (4, [.int 0, .ref e0, .int 0]))] U.heap ∧ va_K (dC, dI) vwCl [] U ∧ va_D (fun _ => True) [(h0, .inr (15, zM th b)), ((b 0), .inr (4, [.int 0, .ref e0, .int 0])), ((b 1), .inr (4, [.int 0, .ref e0, .int 0])), ((b 2), .inr (4, [.int 0, .ref e0, .int 0])), ((b 3), .inr (4, [.int 0, .ref e0, .int 0]))] ∧ zE e0 (va_A [(h0, .inr (15, zM th b)), ((b 0), .inr (4, [.int 0, .ref e0, .int 0])), ((b 1), .inr (4, [.int 0, .ref e0, .int 0])), ((b 2), .inr (4, [.int 0, .ref e0, .int 0])), ((b 3), .inr (4, [.int 0, .ref e0, .int 0]))] sz) U U.heap)) (va_Qi (fun (r : Int32) (_ : Unit) => r = 0) (fun _ t => va_P (dC, dI) vwCl [(h0, .inr (15, zM 1 b))] t.heap ∧ va_K (dC, dI) vwCl [] t ∧ va_D (va_A [(h0, .inr (15, zM th b)), ((b 0), .inr (4, [.int 0, .ref e0, .int 0])), ((b 1), .inr (4, [.int 0, .ref e0, .int 0])), ((b 2), .inr (4, [.int 0, .ref e0, .int 0])), ((b 3), .inr (4, [.int 0, .ref e0, .int 0]))] sz) [(h0, .inr (15, zM 1 b))]) (va_A [(h0, .inr (15, zM th b)), ((b 0), .inr (4, [.int 0, .ref e0, .int 0])), ((b 1), .inr (4, [.int 0, .ref e0, .int 0])), ((b 2), .inr (4, [.int 0, .ref e0, .int 0])), ((b 3), .inr (4, [.int 0, .ref e0, .int 0]))] sz)) 0 0 (va_A [(h0, .inr (15, zM th b)), ((b 0), .inr (4, [.int 0, .ref e0, .int 0])), ((b 1), .inr (4, [.int 0, .ref e0, .int 0])), ((b 2), .inr (4, [.int 0, .ref e0, .int 0])), ((b 3), .inr (4, [.int 0, .ref e0, .int 0]))] sz) := by
  refine Met.ofW (cc := cX10_restMust) (maxL := 3) (ret := (some .int)) (by decide) rfl ?_
  intro p e s m args below meth c s₁ B hml hv
  obtain ⟨rfl, hsz, hP, hK, hD0, hE⟩ := hv
  have hx := B.exec
  have hb := B.bytes
  have hr := B.returns
  have hts := atoms_spec (ws := wsX10_restMust) B.pre
  have hown : s.vm.findClass RX10 = some m.cls := findClass_of_methodNamed B.named
  have hlocks := B.notSynchronized
  subst hsz
  have hD := hD0.self (sz := s.heap.size)
  generalize hAe : va_A [(h0, .inr (15, zM th b)), ((b 0), .inr (4, [.int 0, .ref e0, .int 0])), ((b 1), .inr (4, [.int 0, .ref e0, .int 0])), ((b 2), .inr (4, [.int 0, .ref e0, .int 0])), ((b 3), .inr (4, [.int 0, .ref e0, .int 0]))] s.heap.size = A at hD hE ⊢
  have hA : ∀ q : Nat, s.heap.size ≤ q → A q := fun q h => by rw [← hAe]; exact Or.inr h
  have hS : va_S A s.heap s.heap [] := va_S.rf
  have hl := lv_entry ([.ref h0, .int p0]) (n := 3) (Nat.le_of_ble_eq_true rfl)
  rw [lg_entry_eq]
  generalize (lg_sl ([.ref h0, .int p0]) ++ List.replicate (3 - (lg_sl ([.ref h0, .int p0])).length) Slot.unset).toArray = ls at hl ⊢
  have hl : lv_has ls 3 [(0, .ref h0), (1, .int p0)] := hl
  refine lv_aload_n hx hb dX10_restMust_0 rfl (lv_at hl 0 rfl) ?_
  refine lv_iload_n hx hb dX10_restMust_1 rfl (lv_at hl 1 rfl) ?_
  have hPc := hP.sub (ws' := [(h0, .inr (15, zM th b)), ((b 2), .inr (4, [.int 0, .ref e0, .int 0]))]) [0, 3] rfl
  have hDc := hD.sub (ws' := [(h0, .inr (15, zM th b)), ((b 2), .inr (4, [.int 0, .ref e0, .int 0]))]) [0, 3] (by decide) rfl
  have hKc := hK.sub (tys' := []) [] rfl
  have hFc := va_free (wc := [(h0, .inr (15, zM th b)), ((b 2), .inr (4, [.int 0, .ref e0, .int 0]))]) hD hS hA [0, 3] rfl
  have hEc := (hE.kept hS.2.1).narrow hFc
  refine va_calli (va_runV (As := [.int p0]) (rest := []) ⟨hx, hb, hml, hown, hts⟩ (c_X10_isTeam l htr dC dI e0 s.heap.size h0 th b p0) (cwV 1 hts gX10_restMust_X10_isTeam rfl rfl rfl (by decide +kernel) ⟨Nat.le_of_ble_eq_true rfl, Nat.le_of_ble_eq_true rfl⟩) ⟨fun a U g mk q => by obtain ⟨q0, q1, qP, qK, qD, qE⟩ := q; exact ⟨q0, q1, qP, va_K.moved (u := U) (U := U.calling g mk a) (Vm.Alike.refl U.vm) qK, qD, zE.same rfl qE⟩, va_recv hKc hPc (ci := 15) (q0 := 0) rfl rfl, fun U hU hW => ⟨rfl, by rw [hU], by rw [hU]; exact hPc, va_K.moved hW.alike hKc, hDc.weaken (fun _ _ _ _ => trivial), by rw [hU]; exact zE.warm hW hEc⟩⟩ rfl rfl hl.1 rfl (lv_room (Nat.le_of_ble_eq_true rfl)) dX10_restMust_2 ⟨Nat.le_of_ble_eq_true rfl, Nat.le_of_ble_eq_true rfl⟩) hS (fun q _ h => hFc q h) hFc (fun r1 u t H1 locs ht hvm hw hB hz1 hk1 hS => ?_)
  obtain ⟨hP1, hK1, hD1⟩ := hB
  rw [ht] at hP1
  obtain ⟨hP, hD⟩ := va_join (wr := [((b 0), .inr (4, [.int 0, .ref e0, .int 0])), ((b 1), .inr (4, [.int 0, .ref e0, .int 0])), ((b 3), .inr (4, [.int 0, .ref e0, .int 0]))]) (w1 := [(h0, .inr (15, zM th b)), ((b 2), .inr (4, [.int 0, .ref e0, .int 0]))]) hP hD [0, 3] [1, 2, 4] rfl rfl (by decide) (by decide) hk1 hFc hP1 hD1
  generalize H1 = H at hP hS ⊢
  have hP : va_P (dC, dI) vwCl [((b 0), .inr (4, [.int 0, .ref e0, .int 0])), ((b 1), .inr (4, [.int 0, .ref e0, .int 0])), ((b 3), .inr (4, [.int 0, .ref e0, .int 0])), (h0, .inr (15, zM th b)), ((b 2), .inr (4, [.int 0, .ref e0, .int 0]))] H := hP
  have hD : va_D A [((b 0), .inr (4, [.int 0, .ref e0, .int 0])), ((b 1), .inr (4, [.int 0, .ref e0, .int 0])), ((b 3), .inr (4, [.int 0, .ref e0, .int 0])), (h0, .inr (15, zM th b)), ((b 2), .inr (4, [.int 0, .ref e0, .int 0]))] := hD
  obtain rfl : r1 = 0 := hw
  refine lv_if_eq (tgt := 19) hx hb dX10_restMust_5 (by decide) (fun _ => ?_) (fun c2 => absurd (by decide) c2)
  refine lv_bipush (v := 45) hx hb dX10_restMust_19 (by decide) ?_
  refine lv_istore_n (lv' := [(2, .int 45), (0, .ref h0), (1, .int p0)]) hx hb dX10_restMust_21 rfl hl (by decide) rfl (fun ls hl => ?_)
  refine lv_aload_n hx hb dX10_restMust_22 rfl (lv_at hl 1 rfl) ?_
  refine lv_aload_n hx hb dX10_restMust_23 rfl (lv_at hl 1 rfl) ?_
  refine lv_iload_n hx hb dX10_restMust_24 rfl (lv_at hl 2 rfl) ?_
  have hPc := hP.sub (ws' := [(h0, .inr (15, zM th b)), ((b 2), .inr (4, [.int 0, .ref e0, .int 0]))]) [3, 4] rfl
  have hDc := hD.sub (ws' := [(h0, .inr (15, zM th b)), ((b 2), .inr (4, [.int 0, .ref e0, .int 0]))]) [3, 4] (by decide) rfl
  have hKc := hK.sub (tys' := []) [] rfl
  have hFc := va_free (wc := [(h0, .inr (15, zM th b)), ((b 2), .inr (4, [.int 0, .ref e0, .int 0]))]) hD hS hA [3, 4] rfl
  have hEc := (hE.kept hS.2.1).narrow hFc
  refine va_calli (va_runV (As := [.int p0]) (rest := [.ref h0]) ⟨hx, hb, hml, hown, hts⟩ (c_X10_isTeam l htr dC dI e0 H.size h0 th b p0) (cwV 1 hts gX10_restMust_X10_isTeam rfl rfl rfl (by decide +kernel) ⟨Nat.le_of_ble_eq_true rfl, Nat.le_of_ble_eq_true rfl⟩) ⟨fun a U g mk q => by obtain ⟨q0, q1, qP, qK, qD, qE⟩ := q; exact ⟨q0, q1, qP, va_K.moved (u := U) (U := U.calling g mk a) (Vm.Alike.refl U.vm) qK, qD, zE.same rfl qE⟩, va_recv hKc hPc (ci := 15) (q0 := 0) rfl rfl, fun U hU hW => ⟨rfl, by rw [hU], by rw [hU]; exact hPc, va_K.moved hW.alike hKc, hDc.weaken (fun _ _ _ _ => trivial), by rw [hU]; exact zE.warm hW hEc⟩⟩ rfl rfl hl.1 rfl (lv_room (Nat.le_of_ble_eq_true rfl)) dX10_restMust_25 ⟨Nat.le_of_ble_eq_true rfl, Nat.le_of_ble_eq_true rfl⟩) hS (fun q _ h => hFc q h) hFc (fun r3 u t H1 locs ht hvm hw hB hz1 hk1 hS => ?_)
  obtain ⟨hP1, hK1, hD1⟩ := hB
  rw [ht] at hP1
  obtain ⟨hP, hD⟩ := va_join (wr := [((b 0), .inr (4, [.int 0, .ref e0, .int 0])), ((b 1), .inr (4, [.int 0, .ref e0, .int 0])), ((b 3), .inr (4, [.int 0, .ref e0, .int 0]))]) (w1 := [(h0, .inr (15, zM th b)), ((b 2), .inr (4, [.int 0, .ref e0, .int 0]))]) hP hD [3, 4] [0, 1, 2] rfl rfl (by decide) (by decide) hk1 hFc hP1 hD1
  generalize H1 = H at hP hS ⊢
  have hP : va_P (dC, dI) vwCl [((b 0), .inr (4, [.int 0, .ref e0, .int 0])), ((b 1), .inr (4, [.int 0, .ref e0, .int 0])), ((b 3), .inr (4, [.int 0, .ref e0, .int 0])), (h0, .inr (15, zM th b)), ((b 2), .inr (4, [.int 0, .ref e0, .int 0]))] H := hP
  have hD : va_D A [((b 0), .inr (4, [.int 0, .ref e0, .int 0])), ((b 1), .inr (4, [.int 0, .ref e0, .int 0])), ((b 3), .inr (4, [.int 0, .ref e0, .int 0])), (h0, .inr (15, zM th b)), ((b 2), .inr (4, [.int 0, .ref e0, .int 0]))] := hD
  obtain rfl : r3 = 0 := hw
  refine lv_if_ne (tgt := 35) hx hb dX10_restMust_28 (by decide) (fun c4 => absurd (by decide) c4) (fun _ => ?_)
  refine lv_iconst (v := 1) hx hb dX10_restMust_31 (by decide) ?_
  refine lv_goto (tgt := 46) hx hb dX10_restMust_32 (by decide) ?_
  have hPc := hP.sub (ws' := [(h0, .inr (15, zM th b))]) [3] rfl
  have hDc := hD.sub (ws' := [(h0, .inr (15, zM th b))]) [3] (by decide) rfl
  have hKc := hK.sub (tys' := []) [] rfl
  have hFc := va_free (wc := [(h0, .inr (15, zM th b))]) hD hS hA [3] rfl
  refine va_calli (va_runV (As := [.int 1]) (rest := []) ⟨hx, hb, hml, hown, hts⟩ (c_X10_goesOn l htr dC dI e0 H.size h0 th b 1) (cwV 1 hts gX10_restMust_X10_goesOn rfl rfl rfl (by decide +kernel) ⟨Nat.le_of_ble_eq_true rfl, Nat.le_of_ble_eq_true rfl⟩) ⟨fun a U g mk q => by obtain ⟨q0, q1, qP, qK, qD⟩ := q; exact ⟨q0, q1, qP, va_K.moved (u := U) (U := U.calling g mk a) (Vm.Alike.refl U.vm) qK, qD⟩, va_recv hKc hPc (ci := 15) (q0 := 0) rfl rfl, fun U hU hW => ⟨rfl, by rw [hU], by rw [hU]; exact hPc, va_K.moved hW.alike hKc, hDc.weaken (fun _ _ _ _ => trivial)⟩⟩ rfl rfl hl.1 rfl (lv_room (Nat.le_of_ble_eq_true rfl)) dX10_restMust_46 ⟨Nat.le_of_ble_eq_true rfl, Nat.le_of_ble_eq_true rfl⟩) hS (fun q _ h => hFc q h) hFc (fun r5 u t H1 locs ht hvm hw hB hz1 hk1 hS => ?_)
  obtain ⟨hP1, hK1, hD1⟩ := hB
  rw [ht] at hP1
  obtain ⟨hP, hD⟩ := va_join (wr := [((b 0), .inr (4, [.int 0, .ref e0, .int 0])), ((b 1), .inr (4, [.int 0, .ref e0, .int 0])), ((b 3), .inr (4, [.int 0, .ref e0, .int 0])), ((b 2), .inr (4, [.int 0, .ref e0, .int 0]))]) (w1 := [(h0, .inr (15, zM 1 b))]) hP hD [3] [0, 1, 2, 4] rfl rfl (by decide) (by decide) hk1 hFc hP1 hD1
  generalize H1 = H at hP hS ⊢
  have hP : va_P (dC, dI) vwCl [((b 0), .inr (4, [.int 0, .ref e0, .int 0])), ((b 1), .inr (4, [.int 0, .ref e0, .int 0])), ((b 3), .inr (4, [.int 0, .ref e0, .int 0])), ((b 2), .inr (4, [.int 0, .ref e0, .int 0])), (h0, .inr (15, zM 1 b))] H := hP
  have hD : va_D A [((b 0), .inr (4, [.int 0, .ref e0, .int 0])), ((b 1), .inr (4, [.int 0, .ref e0, .int 0])), ((b 3), .inr (4, [.int 0, .ref e0, .int 0])), ((b 2), .inr (4, [.int 0, .ref e0, .int 0])), (h0, .inr (15, zM 1 b))] := hD
  obtain rfl : r5 = 0 := hw.trans (by decide)
  refine lv_if_eq (tgt := 71) hx hb dX10_restMust_49 (by decide) (fun _ => ?_) (fun c6 => absurd (by decide) c6)
  refine lv_iconst (v := 0) hx hb dX10_restMust_71 (by decide) ?_
  have hP9 := hP.sub (ws' := [(h0, .inr (15, zM 1 b))]) [4] rfl
  have hD9 := hD.sub (ws' := [(h0, .inr (15, zM 1 b))]) [4] (by decide) rfl
  have hK9 := hK.sub (tys' := []) [] rfl
  exact W.iret (v := 0) hx hb hr (fun t ht hW => ⟨⟨0, (), rfl, rfl, ⟨by rw [ht]; exact hP9, va_K.moved hW.alike hK9, hD9⟩⟩, hS.F ht⟩) hS.2.2 dX10_restMust_72

set_option maxRecDepth 20000 in
theorem ggX10_take_X10_goesOn : GoodIn wsX10_take wsX10_goesOn := goodIn_r _ [180, 181, 182, 183, 184, 185, 186, 187, 188, 189, 190, 191, 192] (by decide +kernel) (by decide +kernel)
set_option maxRecDepth 20000 in
theorem gX10_take_X10_goesOn : GoodIn wsX10_take (wsV RX10 78 RX10 yX10_goesOn wsX10_goesOn) := goodIn_app (goodIn_of _ (by decide +kernel)) ggX10_take_X10_goesOn
set_option maxRecDepth 20000 in
theorem ggX10_take_X10_isTeam : GoodIn wsX10_take wsX10_isTeam := goodIn_r _ [8, 2, 9, 10, 11, 12, 13, 14, 15, 16, 7, 17, 182, 183, 184, 185, 186, 187, 188, 189, 190, 191, 192, 215, 216, 217] (by decide +kernel) (by decide +kernel)
set_option maxRecDepth 20000 in
theorem gX10_take_X10_isTeam : GoodIn wsX10_take (wsV RX10 111 RX10 yX10_isTeam wsX10_isTeam) := goodIn_app (goodIn_of _ (by decide +kernel)) ggX10_take_X10_isTeam
theorem dX10_take_0 : decode cX10_take 0 = .ok (.aload_n 0, 1) := by decide +kernel
theorem dX10_take_1 : decode cX10_take 1 = .ok (.iload_n 1, 1) := by decide +kernel
theorem dX10_take_2 : decode cX10_take 2 = .ok (.invokevirtual 111, 3) := by decide +kernel
theorem dX10_take_5 : decode cX10_take 5 = .ok (.istore_n 3, 1) := by decide +kernel
theorem dX10_take_6 : decode cX10_take 6 = .ok (.iload_n 3, 1) := by decide +kernel
theorem dX10_take_7 : decode cX10_take 7 = .ok (.ifCond .eq 19, 3) := by decide +kernel
theorem dX10_take_26 : decode cX10_take 26 = .ok (.iconst 0, 1) := by decide +kernel
theorem dX10_take_27 : decode cX10_take 27 = .ok (.istore 4, 2) := by decide +kernel
theorem dX10_take_29 : decode cX10_take 29 = .ok (.iload 4, 2) := by decide +kernel
theorem dX10_take_31 : decode cX10_take 31 = .ok (.ifCond .eq 14, 3) := by decide +kernel
theorem dX10_take_45 : decode cX10_take 45 = .ok (.bipush 45, 2) := by decide +kernel
theorem dX10_take_47 : decode cX10_take 47 = .ok (.istore 5, 2) := by decide +kernel
theorem dX10_take_49 : decode cX10_take 49 = .ok (.aload_n 0, 1) := by decide +kernel
theorem dX10_take_50 : decode cX10_take 50 = .ok (.iload_n 3, 1) := by decide +kernel
theorem dX10_take_51 : decode cX10_take 51 = .ok (.ifCond .ne 7, 3) := by decide +kernel
theorem dX10_take_54 : decode cX10_take 54 = .ok (.iconst 1, 1) := by decide +kernel
theorem dX10_take_55 : decode cX10_take 55 = .ok (.goto 35, 3) := by decide +kernel
theorem dX10_take_90 : decode cX10_take 90 = .ok (.invokevirtual 78, 3) := by decide +kernel
theorem dX10_take_93 : decode cX10_take 93 = .ok (.ifCond .eq 22, 3) := by decide +kernel
theorem dX10_take_115 : decode cX10_take 115 = .ok (.iconst 0, 1) := by decide +kernel
theorem dX10_take_116 : decode cX10_take 116 = .ok (.ireturn, 1) := by decide +kernel
set_option maxHeartbeats 4000000 in
set_option maxRecDepth 100000 in
theorem c_X10_take (l : Launch) (htr : l.stackTraces = false) (dC : Nat → ClassId) (dI : Nat → Nat → Nat) (e0 sz : Nat) (h0 : Nat) (th : Int32) (b : Nat → Nat) (p0 : Int32) (p1 : Int32) : Met l yX10_take wsX10_take ({ frames := 2, cells := 0, slots := 0, locals := 46 }) (va_Pc [.ref h0, .int p0, .int p1] (fun U => U.heap.size = sz ∧ va_P (dC, dI) vwCl [(h0, .inr (15, zM th b)), ((b 0), .inr (4, [.int 0, .ref e0, .int 0])), ((b 1), .inr (4, [.int 0, .ref e0, .int 0])), ((b 2), .inr (4, [.int 0, .ref e0, .int 0])), ((b 3), .inr (4, [.int 0, .ref e0, .int 0]))] U.heap ∧ va_K (dC, dI) vwCl [] U ∧ va_D (fun _ => True) [(h0, .inr (15, zM th b)), ((b 0), .inr (4, [.int 0, .ref e0, .int 0])), ((b 1), .inr (4, [.int 0, .ref e0, .int 0])), ((b 2), .inr (4, [.int 0, .ref e0, .int 0])), ((b 3), .inr (4, [.int 0, .ref e0, .int 0]))] ∧ zE e0 (va_A [(h0, .inr (15, zM th b)), ((b 0), .inr (4, [.int 0, .ref e0, .int 0])), ((b 1), .inr (4, [.int 0, .ref e0, .int 0])), ((b 2), .inr (4, [.int 0, .ref e0, .int 0])), ((b 3), .inr (4, [.int 0, .ref e0, .int 0]))] sz) U U.heap)) (va_Qi (fun (r : Int32) (_ : Unit) => r = 0) (fun _ t => va_P (dC, dI) vwCl [(h0, .inr (15, zM 1 b))] t.heap ∧ va_K (dC, dI) vwCl [] t ∧ va_D (va_A [(h0, .inr (15, zM th b)), ((b 0), .inr (4, [.int 0, .ref e0, .int 0])), ((b 1), .inr (4, [.int 0, .ref e0, .int 0])), ((b 2), .inr (4, [.int 0, .ref e0, .int 0])), ((b 3), .inr (4, [.int 0, .ref e0, .int 0]))] sz) [(h0, .inr (15, zM 1 b))]) (va_A [(h0, .inr (15, zM th b)), ((b 0), .inr (4, [.int 0, .ref e0, .int 0])), ((b 1), .inr (4, [.int 0, .ref e0, .int 0])), ((b 2), .inr (4, [.int 0, .ref e0, .int 0])), ((b 3), .inr (4, [.int 0, .ref e0, .int 0]))] sz)) 0 0 (va_A [(h0, .inr (15, zM th b)), ((b 0), .inr (4, [.int 0, .ref e0, .int 0])), ((b 1), .inr (4, [.int 0, .ref e0, .int 0])), ((b 2), .inr (4, [.int 0, .ref e0, .int 0])), ((b 3), .inr (4, [.int 0, .ref e0, .int 0]))] sz) := by
  refine Met.ofW (cc := cX10_take) (maxL := 6) (ret := (some .int)) (by decide) rfl ?_
  intro p e s m args below meth c s₁ B hml hv
  obtain ⟨rfl, hsz, hP, hK, hD0, hE⟩ := hv
  have hx := B.exec
  have hb := B.bytes
  have hr := B.returns
  have hts := atoms_spec (ws := wsX10_take) B.pre
  have hown : s.vm.findClass RX10 = some m.cls := findClass_of_methodNamed B.named
  have hlocks := B.notSynchronized
  subst hsz
  have hD := hD0.self (sz := s.heap.size)
  generalize hAe : va_A [(h0, .inr (15, zM th b)), ((b 0), .inr (4, [.int 0, .ref e0, .int 0])), ((b 1), .inr (4, [.int 0, .ref e0, .int 0])), ((b 2), .inr (4, [.int 0, .ref e0, .int 0])), ((b 3), .inr (4, [.int 0, .ref e0, .int 0]))] s.heap.size = A at hD hE ⊢
  have hA : ∀ q : Nat, s.heap.size ≤ q → A q := fun q h => by rw [← hAe]; exact Or.inr h
  have hS : va_S A s.heap s.heap [] := va_S.rf
  have hl := lv_entry ([.ref h0, .int p0, .int p1]) (n := 6) (Nat.le_of_ble_eq_true rfl)
  rw [lg_entry_eq]
  generalize (lg_sl ([.ref h0, .int p0, .int p1]) ++ List.replicate (6 - (lg_sl ([.ref h0, .int p0, .int p1])).length) Slot.unset).toArray = ls at hl ⊢
  have hl : lv_has ls 6 [(0, .ref h0), (1, .int p0), (2, .int p1)] := hl
  refine lv_aload_n hx hb dX10_take_0 rfl (lv_at hl 0 rfl) ?_
  refine lv_iload_n hx hb dX10_take_1 rfl (lv_at hl 1 rfl) ?_
  have hPc := hP.sub (ws' := [(h0, .inr (15, zM th b)), ((b 2), .inr (4, [.int 0, .ref e0, .int 0]))]) [0, 3] rfl
  have hDc := hD.sub (ws' := [(h0, .inr (15, zM th b)), ((b 2), .inr (4, [.int 0, .ref e0, .int 0]))]) [0, 3] (by decide) rfl
  have hKc := hK.sub (tys' := []) [] rfl
  have hFc := va_free (wc := [(h0, .inr (15, zM th b)), ((b 2), .inr (4, [.int 0, .ref e0, .int 0]))]) hD hS hA [0, 3] rfl
  have hEc := (hE.kept hS.2.1).narrow hFc
  refine va_calli (va_runV (As := [.int p0]) (rest := []) ⟨hx, hb, hml, hown, hts⟩ (c_X10_isTeam l htr dC dI e0 s.heap.size h0 th b p0) (cwV 1 hts gX10_take_X10_isTeam rfl rfl rfl (by decide +kernel) ⟨Nat.le_of_ble_eq_true rfl, Nat.le_of_ble_eq_true rfl⟩) ⟨fun a U g mk q => by obtain ⟨q0, q1, qP, qK, qD, qE⟩ := q; exact ⟨q0, q1, qP, va_K.moved (u := U) (U := U.calling g mk a) (Vm.Alike.refl U.vm) qK, qD, zE.same rfl qE⟩, va_recv hKc hPc (ci := 15) (q0 := 0) rfl rfl, fun U hU hW => ⟨rfl, by rw [hU], by rw [hU]; exact hPc, va_K.moved hW.alike hKc, hDc.weaken (fun _ _ _ _ => trivial), by rw [hU]; exact zE.warm hW hEc⟩⟩ rfl rfl hl.1 rfl (lv_room (Nat.le_of_ble_eq_true rfl)) dX10_take_2 ⟨Nat.le_of_ble_eq_true rfl, Nat.le_of_ble_eq_true rfl⟩) hS (fun q _ h => hFc q h) hFc (fun r1 u t H1 locs ht hvm hw hB hz1 hk1 hS => ?_)
  obtain ⟨hP1, hK1, hD1⟩ := hB
  rw [ht] at hP1
  obtain ⟨hP, hD⟩ := va_join (wr := [((b 0), .inr (4, [.int 0, .ref e0, .int 0])), ((b 1), .inr (4, [.int 0, .ref e0, .int 0])), ((b 3), .inr (4, [.int 0, .ref e0, .int 0]))]) (w1 := [(h0, .inr (15, zM th b)), ((b 2), .inr (4, [.int 0, .ref e0, .int 0]))]) hP hD [0, 3] [1, 2, 4] rfl rfl (by decide) (by decide) hk1 hFc hP1 hD1
  generalize H1 = H at hP hS ⊢
  have hP : va_P (dC, dI) vwCl [((b 0), .inr (4, [.int 0, .ref e0, .int 0])), ((b 1), .inr (4, [.int 0, .ref e0, .int 0])), ((b 3), .inr (4, [.int 0, .ref e0, .int 0])), (h0, .inr (15, zM th b)), ((b 2), .inr (4, [.int 0, .ref e0, .int 0]))] H := hP
  have hD : va_D A [((b 0), .inr (4, [.int 0, .ref e0, .int 0])), ((b 1), .inr (4, [.int 0, .ref e0, .int 0])), ((b 3), .inr (4, [.int 0, .ref e0, .int 0])), (h0, .inr (15, zM th b)), ((b 2), .inr (4, [.int 0, .ref e0, .int 0]))] := hD
  obtain rfl : r1 = 0 := hw
  refine lv_istore_n (lv' := [(3, .int 0), (0, .ref h0), (1, .int p0), (2, .int p1)]) hx hb dX10_take_5 rfl hl (by decide) rfl (fun ls hl => ?_)
  refine lv_iload_n hx hb dX10_take_6 rfl (lv_at hl 0 rfl) ?_
  refine lv_if_eq (tgt := 26) hx hb dX10_take_7 (by decide) (fun _ => ?_) (fun c2 => absurd (by decide) c2)
  refine lv_iconst (v := 0) hx hb dX10_take_26 (by decide) ?_
  refine lv_istore (lv' := [(4, .int 0), (3, .int 0), (0, .ref h0), (1, .int p0), (2, .int p1)]) hx hb dX10_take_27 hl (by decide) rfl (fun ls hl => ?_)
  refine lv_iload hx hb dX10_take_29 (lv_at hl 0 rfl) ?_
  refine lv_if_eq (tgt := 45) hx hb dX10_take_31 (by decide) (fun _ => ?_) (fun c3 => absurd (by decide) c3)
  refine lv_bipush (v := 45) hx hb dX10_take_45 (by decide) ?_
  refine lv_istore (lv' := [(5, .int 45), (4, .int 0), (3, .int 0), (0, .ref h0), (1, .int p0), (2, .int p1)]) hx hb dX10_take_47 hl (by decide) rfl (fun ls hl => ?_)
  refine lv_aload_n hx hb dX10_take_49 rfl (lv_at hl 3 rfl) ?_
  refine lv_iload_n hx hb dX10_take_50 rfl (lv_at hl 2 rfl) ?_
  refine lv_if_ne (tgt := 58) hx hb dX10_take_51 (by decide) (fun c4 => absurd (by decide) c4) (fun _ => ?_)
  refine lv_iconst (v := 1) hx hb dX10_take_54 (by decide) ?_
  refine lv_goto (tgt := 90) hx hb dX10_take_55 (by decide) ?_
  have hPc := hP.sub (ws' := [(h0, .inr (15, zM th b))]) [3] rfl
  have hDc := hD.sub (ws' := [(h0, .inr (15, zM th b))]) [3] (by decide) rfl
  have hKc := hK.sub (tys' := []) [] rfl
  have hFc := va_free (wc := [(h0, .inr (15, zM th b))]) hD hS hA [3] rfl
  refine va_calli (va_runV (As := [.int 1]) (rest := []) ⟨hx, hb, hml, hown, hts⟩ (c_X10_goesOn l htr dC dI e0 H.size h0 th b 1) (cwV 1 hts gX10_take_X10_goesOn rfl rfl rfl (by decide +kernel) ⟨Nat.le_of_ble_eq_true rfl, Nat.le_of_ble_eq_true rfl⟩) ⟨fun a U g mk q => by obtain ⟨q0, q1, qP, qK, qD⟩ := q; exact ⟨q0, q1, qP, va_K.moved (u := U) (U := U.calling g mk a) (Vm.Alike.refl U.vm) qK, qD⟩, va_recv hKc hPc (ci := 15) (q0 := 0) rfl rfl, fun U hU hW => ⟨rfl, by rw [hU], by rw [hU]; exact hPc, va_K.moved hW.alike hKc, hDc.weaken (fun _ _ _ _ => trivial)⟩⟩ rfl rfl hl.1 rfl (lv_room (Nat.le_of_ble_eq_true rfl)) dX10_take_90 ⟨Nat.le_of_ble_eq_true rfl, Nat.le_of_ble_eq_true rfl⟩) hS (fun q _ h => hFc q h) hFc (fun r5 u t H1 locs ht hvm hw hB hz1 hk1 hS => ?_)
  obtain ⟨hP1, hK1, hD1⟩ := hB
  rw [ht] at hP1
  obtain ⟨hP, hD⟩ := va_join (wr := [((b 0), .inr (4, [.int 0, .ref e0, .int 0])), ((b 1), .inr (4, [.int 0, .ref e0, .int 0])), ((b 3), .inr (4, [.int 0, .ref e0, .int 0])), ((b 2), .inr (4, [.int 0, .ref e0, .int 0]))]) (w1 := [(h0, .inr (15, zM 1 b))]) hP hD [3] [0, 1, 2, 4] rfl rfl (by decide) (by decide) hk1 hFc hP1 hD1
  generalize H1 = H at hP hS ⊢
  have hP : va_P (dC, dI) vwCl [((b 0), .inr (4, [.int 0, .ref e0, .int 0])), ((b 1), .inr (4, [.int 0, .ref e0, .int 0])), ((b 3), .inr (4, [.int 0, .ref e0, .int 0])), ((b 2), .inr (4, [.int 0, .ref e0, .int 0])), (h0, .inr (15, zM 1 b))] H := hP
  have hD : va_D A [((b 0), .inr (4, [.int 0, .ref e0, .int 0])), ((b 1), .inr (4, [.int 0, .ref e0, .int 0])), ((b 3), .inr (4, [.int 0, .ref e0, .int 0])), ((b 2), .inr (4, [.int 0, .ref e0, .int 0])), (h0, .inr (15, zM 1 b))] := hD
  obtain rfl : r5 = 0 := hw.trans (by decide)
  refine lv_if_eq (tgt := 115) hx hb dX10_take_93 (by decide) (fun _ => ?_) (fun c6 => absurd (by decide) c6)
  refine lv_iconst (v := 0) hx hb dX10_take_115 (by decide) ?_
  have hP9 := hP.sub (ws' := [(h0, .inr (15, zM 1 b))]) [4] rfl
  have hD9 := hD.sub (ws' := [(h0, .inr (15, zM 1 b))]) [4] (by decide) rfl
  have hK9 := hK.sub (tys' := []) [] rfl
  exact W.iret (v := 0) hx hb hr (fun t ht hW => ⟨⟨0, (), rfl, rfl, ⟨by rw [ht]; exact hP9, va_K.moved hW.alike hK9, hD9⟩⟩, hS.F ht⟩) hS.2.2 dX10_take_116

set_option maxRecDepth 20000 in
theorem ggX10_feed_X10_goesOn : GoodIn wsX10_feed wsX10_goesOn := goodIn_r _ [180, 181, 182, 183, 184, 185, 186, 187, 188, 189, 190, 191, 192] (by decide +kernel) (by decide +kernel)
set_option maxRecDepth 20000 in
theorem gX10_feed_X10_goesOn : GoodIn wsX10_feed (wsV RX10 78 RX10 yX10_goesOn wsX10_goesOn) := goodIn_app (goodIn_of _ (by decide +kernel)) ggX10_feed_X10_goesOn
set_option maxRecDepth 20000 in
theorem ggX10_feed_X10_isTeam : GoodIn wsX10_feed wsX10_isTeam := goodIn_r _ [8, 2, 9, 10, 11, 12, 13, 14, 15, 16, 7, 17, 182, 183, 184, 185, 186, 187, 188, 189, 190, 191, 192, 215, 216, 217] (by decide +kernel) (by decide +kernel)
set_option maxRecDepth 20000 in
theorem gX10_feed_X10_isTeam : GoodIn wsX10_feed (wsV RX10 111 RX10 yX10_isTeam wsX10_isTeam) := goodIn_app (goodIn_of _ (by decide +kernel)) ggX10_feed_X10_isTeam
theorem dX10_feed_0 : decode cX10_feed 0 = .ok (.aload_n 0, 1) := by decide +kernel
theorem dX10_feed_1 : decode cX10_feed 1 = .ok (.iload_n 1, 1) := by decide +kernel
theorem dX10_feed_2 : decode cX10_feed 2 = .ok (.invokevirtual 111, 3) := by decide +kernel
theorem dX10_feed_5 : decode cX10_feed 5 = .ok (.istore_n 3, 1) := by decide +kernel
theorem dX10_feed_6 : decode cX10_feed 6 = .ok (.iload_n 3, 1) := by decide +kernel
theorem dX10_feed_7 : decode cX10_feed 7 = .ok (.ifCond .eq 19, 3) := by decide +kernel
theorem dX10_feed_26 : decode cX10_feed 26 = .ok (.iconst 0, 1) := by decide +kernel
theorem dX10_feed_27 : decode cX10_feed 27 = .ok (.istore 4, 2) := by decide +kernel
theorem dX10_feed_29 : decode cX10_feed 29 = .ok (.iload 4, 2) := by decide +kernel
theorem dX10_feed_31 : decode cX10_feed 31 = .ok (.ifCond .eq 14, 3) := by decide +kernel
theorem dX10_feed_45 : decode cX10_feed 45 = .ok (.bipush 45, 2) := by decide +kernel
theorem dX10_feed_47 : decode cX10_feed 47 = .ok (.istore 5, 2) := by decide +kernel
theorem dX10_feed_49 : decode cX10_feed 49 = .ok (.aload_n 0, 1) := by decide +kernel
theorem dX10_feed_50 : decode cX10_feed 50 = .ok (.iload_n 3, 1) := by decide +kernel
theorem dX10_feed_51 : decode cX10_feed 51 = .ok (.ifCond .ne 7, 3) := by decide +kernel
theorem dX10_feed_54 : decode cX10_feed 54 = .ok (.iconst 1, 1) := by decide +kernel
theorem dX10_feed_55 : decode cX10_feed 55 = .ok (.goto 35, 3) := by decide +kernel
theorem dX10_feed_90 : decode cX10_feed 90 = .ok (.invokevirtual 78, 3) := by decide +kernel
theorem dX10_feed_93 : decode cX10_feed 93 = .ok (.ifCond .eq 22, 3) := by decide +kernel
theorem dX10_feed_115 : decode cX10_feed 115 = .ok (.iconst 0, 1) := by decide +kernel
theorem dX10_feed_116 : decode cX10_feed 116 = .ok (.ireturn, 1) := by decide +kernel
set_option maxHeartbeats 4000000 in
set_option maxRecDepth 100000 in
theorem c_X10_feed (l : Launch) (htr : l.stackTraces = false) (dC : Nat → ClassId) (dI : Nat → Nat → Nat) (e0 sz : Nat) (h0 : Nat) (th : Int32) (b : Nat → Nat) (p0 : Int32) (p1 : Int32) : Met l yX10_feed wsX10_feed ({ frames := 2, cells := 0, slots := 0, locals := 46 }) (va_Pc [.ref h0, .int p0, .int p1] (fun U => U.heap.size = sz ∧ va_P (dC, dI) vwCl [(h0, .inr (15, zM th b)), ((b 0), .inr (4, [.int 0, .ref e0, .int 0])), ((b 1), .inr (4, [.int 0, .ref e0, .int 0])), ((b 2), .inr (4, [.int 0, .ref e0, .int 0])), ((b 3), .inr (4, [.int 0, .ref e0, .int 0]))] U.heap ∧ va_K (dC, dI) vwCl [] U ∧ va_D (fun _ => True) [(h0, .inr (15, zM th b)), ((b 0), .inr (4, [.int 0, .ref e0, .int 0])), ((b 1), .inr (4, [.int 0, .ref e0, .int 0])), ((b 2), .inr (4, [.int 0, .ref e0, .int 0])), ((b 3), .inr (4, [.int 0, .ref e0, .int 0]))] ∧ zE e0 (va_A [(h0, .inr (15, zM th b)), ((b 0), .inr (4, [.int 0, .ref e0, .int 0])), ((b 1), .inr (4, [.int 0, .ref e0, .int 0])), ((b 2), .inr (4, [.int 0, .ref e0, .int 0])), ((b 3), .inr (4, [.int 0, .ref e0, .int 0]))] sz) U U.heap)) (va_Qi (fun (r : Int32) (_ : Unit) => r = 0) (fun _ t => va_P (dC, dI) vwCl [(h0, .inr (15, zM 1 b))] t.heap ∧ va_K (dC, dI) vwCl [] t ∧ va_D (va_A [(h0, .inr (15, zM th b)), ((b 0), .inr (4, [.int 0, .ref e0, .int 0])), ((b 1), .inr (4, [.int 0, .ref e0, .int 0])), ((b 2), .inr (4, [.int 0, .ref e0, .int 0])), ((b 3), .inr (4, [.int 0, .ref e0, .int 0]))] sz) [(h0, .inr (15, zM 1 b))]) (va_A [(h0, .inr (15, zM th b)), ((b 0), .inr (4, [.int 0, .ref e0, .int 0])), ((b 1), .inr (4, [.int 0, .ref e0, .int 0])), ((b 2), .inr (4, [.int 0, .ref e0, .int 0])), ((b 3), .inr (4, [.int 0, .ref e0, .int 0]))] sz)) 0 0 (va_A [(h0, .inr (15, zM th b)), ((b 0), .inr (4, [.int 0, .ref e0, .int 0])), ((b 1), .inr (4, [.int 0, .ref e0, .int 0])), ((b 2), .inr (4, [.int 0, .ref e0, .int 0])), ((b 3), .inr (4, [.int 0, .ref e0, .int 0]))] sz) := by
  refine Met.ofW (cc := cX10_feed) (maxL := 6) (ret := (some .int)) (by decide) rfl ?_
  intro p e s m args below meth c s₁ B hml hv
  obtain ⟨rfl, hsz, hP, hK, hD0, hE⟩ := hv
  have hx := B.exec
  have hb := B.bytes
  have hr := B.returns
  have hts := atoms_spec (ws := wsX10_feed) B.pre
  have hown : s.vm.findClass RX10 = some m.cls := findClass_of_methodNamed B.named
  have hlocks := B.notSynchronized
  subst hsz
  have hD := hD0.self (sz := s.heap.size)
  generalize hAe : va_A [(h0, .inr (15, zM th b)), ((b 0), .inr (4, [.int 0, .ref e0, .int 0])), ((b 1), .inr (4, [.int 0, .ref e0, .int 0])), ((b 2), .inr (4, [.int 0, .ref e0, .int 0])), ((b 3), .inr (4, [.int 0, .ref e0, .int 0]))] s.heap.size = A at hD hE ⊢
  have hA : ∀ q : Nat, s.heap.size ≤ q → A q := fun q h => by rw [← hAe]; exact Or.inr h
  have hS : va_S A s.heap s.heap [] := va_S.rf
  have hl := lv_entry ([.ref h0, .int p0, .int p1]) (n := 6) (Nat.le_of_ble_eq_true rfl)
  rw [lg_entry_eq]
  generalize (lg_sl ([.ref h0, .int p0, .int p1]) ++ List.replicate (6 - (lg_sl ([.ref h0, .int p0, .int p1])).length) Slot.unset).toArray = ls at hl ⊢
  have hl : lv_has ls 6 [(0, .ref h0), (1, .int p0), (2, .int p1)] := hl
  refine lv_aload_n hx hb dX10_feed_0 rfl (lv_at hl 0 rfl) ?_
  refine lv_iload_n hx hb dX10_feed_1 rfl (lv_at hl 1 rfl) ?_
  have hPc := hP.sub (ws' := [(h0, .inr (15, zM th b)), ((b 2), .inr (4, [.int 0, .ref e0, .int 0]))]) [0, 3] rfl
  have hDc := hD.sub (ws' := [(h0, .inr (15, zM th b)), ((b 2), .inr (4, [.int 0, .ref e0, .int 0]))]) [0, 3] (by decide) rfl
  have hKc := hK.sub (tys' := []) [] rfl
  have hFc := va_free (wc := [(h0, .inr (15, zM th b)), ((b 2), .inr (4, [.int 0, .ref e0, .int 0]))]) hD hS hA [0, 3] rfl
  have hEc := (hE.kept hS.2.1).narrow hFc
  refine va_calli (va_runV (As := [.int p0]) (rest := []) ⟨hx, hb, hml, hown, hts⟩ (c_X10_isTeam l htr dC dI e0 s.heap.size h0 th b p0) (cwV 1 hts gX10_feed_X10_isTeam rfl rfl rfl (by decide +kernel) ⟨Nat.le_of_ble_eq_true rfl, Nat.le_of_ble_eq_true rfl⟩) ⟨fun a U g mk q => by obtain ⟨q0, q1, qP, qK, qD, qE⟩ := q; exact ⟨q0, q1, qP, va_K.moved (u := U) (U := U.calling g mk a) (Vm.Alike.refl U.vm) qK, qD, zE.same rfl qE⟩, va_recv hKc hPc (ci := 15) (q0 := 0) rfl rfl, fun U hU hW => ⟨rfl, by rw [hU], by rw [hU]; exact hPc, va_K.moved hW.alike hKc, hDc.weaken (fun _ _ _ _ => trivial), by rw [hU]; exact zE.warm hW hEc⟩⟩ rfl rfl hl.1 rfl (lv_room (Nat.le_of_ble_eq_true rfl)) dX10_feed_2 ⟨Nat.le_of_ble_eq_true rfl, Nat.le_of_ble_eq_true rfl⟩) hS (fun q _ h => hFc q h) hFc (fun r1 u t H1 locs ht hvm hw hB hz1 hk1 hS => ?_)
  obtain ⟨hP1, hK1, hD1⟩ := hB
  rw [ht] at hP1
  obtain ⟨hP, hD⟩ := va_join (wr := [((b 0), .inr (4, [.int 0, .ref e0, .int 0])), ((b 1), .inr (4, [.int 0, .ref e0, .int 0])), ((b 3), .inr (4, [.int 0, .ref e0, .int 0]))]) (w1 := [(h0, .inr (15, zM th b)), ((b 2), .inr (4, [.int 0, .ref e0, .int 0]))]) hP hD [0, 3] [1, 2, 4] rfl rfl (by decide) (by decide) hk1 hFc hP1 hD1
  generalize H1 = H at hP hS ⊢
  have hP : va_P (dC, dI) vwCl [((b 0), .inr (4, [.int 0, .ref e0, .int 0])), ((b 1), .inr (4, [.int 0, .ref e0, .int 0])), ((b 3), .inr (4, [.int 0, .ref e0, .int 0])), (h0, .inr (15, zM th b)), ((b 2), .inr (4, [.int 0, .ref e0, .int 0]))] H := hP
  have hD : va_D A [((b 0), .inr (4, [.int 0, .ref e0, .int 0])), ((b 1), .inr (4, [.int 0, .ref e0, .int 0])), ((b 3), .inr (4, [.int 0, .ref e0, .int 0])), (h0, .inr (15, zM th b)), ((b 2), .inr (4, [.int 0, .ref e0, .int 0]))] := hD
  obtain rfl : r1 = 0 := hw
  refine lv_istore_n (lv' := [(3, .int 0), (0, .ref h0), (1, .int p0), (2, .int p1)]) hx hb dX10_feed_5 rfl hl (by decide) rfl (fun ls hl => ?_)
  refine lv_iload_n hx hb dX10_feed_6 rfl (lv_at hl 0 rfl) ?_
  refine lv_if_eq (tgt := 26) hx hb dX10_feed_7 (by decide) (fun _ => ?_) (fun c2 => absurd (by decide) c2)
  refine lv_iconst (v := 0) hx hb dX10_feed_26 (by decide) ?_
  refine lv_istore (lv' := [(4, .int 0), (3, .int 0), (0, .ref h0), (1, .int p0), (2, .int p1)]) hx hb dX10_feed_27 hl (by decide) rfl (fun ls hl => ?_)
  refine lv_iload hx hb dX10_feed_29 (lv_at hl 0 rfl) ?_
  refine lv_if_eq (tgt := 45) hx hb dX10_feed_31 (by decide) (fun _ => ?_) (fun c3 => absurd (by decide) c3)
  refine lv_bipush (v := 45) hx hb dX10_feed_45 (by decide) ?_
  refine lv_istore (lv' := [(5, .int 45), (4, .int 0), (3, .int 0), (0, .ref h0), (1, .int p0), (2, .int p1)]) hx hb dX10_feed_47 hl (by decide) rfl (fun ls hl => ?_)
  refine lv_aload_n hx hb dX10_feed_49 rfl (lv_at hl 3 rfl) ?_
  refine lv_iload_n hx hb dX10_feed_50 rfl (lv_at hl 2 rfl) ?_
  refine lv_if_ne (tgt := 58) hx hb dX10_feed_51 (by decide) (fun c4 => absurd (by decide) c4) (fun _ => ?_)
  refine lv_iconst (v := 1) hx hb dX10_feed_54 (by decide) ?_
  refine lv_goto (tgt := 90) hx hb dX10_feed_55 (by decide) ?_
  have hPc := hP.sub (ws' := [(h0, .inr (15, zM th b))]) [3] rfl
  have hDc := hD.sub (ws' := [(h0, .inr (15, zM th b))]) [3] (by decide) rfl
  have hKc := hK.sub (tys' := []) [] rfl
  have hFc := va_free (wc := [(h0, .inr (15, zM th b))]) hD hS hA [3] rfl
  refine va_calli (va_runV (As := [.int 1]) (rest := []) ⟨hx, hb, hml, hown, hts⟩ (c_X10_goesOn l htr dC dI e0 H.size h0 th b 1) (cwV 1 hts gX10_feed_X10_goesOn rfl rfl rfl (by decide +kernel) ⟨Nat.le_of_ble_eq_true rfl, Nat.le_of_ble_eq_true rfl⟩) ⟨fun a U g mk q => by obtain ⟨q0, q1, qP, qK, qD⟩ := q; exact ⟨q0, q1, qP, va_K.moved (u := U) (U := U.calling g mk a) (Vm.Alike.refl U.vm) qK, qD⟩, va_recv hKc hPc (ci := 15) (q0 := 0) rfl rfl, fun U hU hW => ⟨rfl, by rw [hU], by rw [hU]; exact hPc, va_K.moved hW.alike hKc, hDc.weaken (fun _ _ _ _ => trivial)⟩⟩ rfl rfl hl.1 rfl (lv_room (Nat.le_of_ble_eq_true rfl)) dX10_feed_90 ⟨Nat.le_of_ble_eq_true rfl, Nat.le_of_ble_eq_true rfl⟩) hS (fun q _ h => hFc q h) hFc (fun r5 u t H1 locs ht hvm hw hB hz1 hk1 hS => ?_)
  obtain ⟨hP1, hK1, hD1⟩ := hB
  rw [ht] at hP1
  obtain ⟨hP, hD⟩ := va_join (wr := [((b 0), .inr (4, [.int 0, .ref e0, .int 0])), ((b 1), .inr (4, [.int 0, .ref e0, .int 0])), ((b 3), .inr (4, [.int 0, .ref e0, .int 0])), ((b 2), .inr (4, [.int 0, .ref e0, .int 0]))]) (w1 := [(h0, .inr (15, zM 1 b))]) hP hD [3] [0, 1, 2, 4] rfl rfl (by decide) (by decide) hk1 hFc hP1 hD1
  generalize H1 = H at hP hS ⊢
  have hP : va_P (dC, dI) vwCl [((b 0), .inr (4, [.int 0, .ref e0, .int 0])), ((b 1), .inr (4, [.int 0, .ref e0, .int 0])), ((b 3), .inr (4, [.int 0, .ref e0, .int 0])), ((b 2), .inr (4, [.int 0, .ref e0, .int 0])), (h0, .inr (15, zM 1 b))] H := hP
  have hD : va_D A [((b 0), .inr (4, [.int 0, .ref e0, .int 0])), ((b 1), .inr (4, [.int 0, .ref e0, .int 0])), ((b 3), .inr (4, [.int 0, .ref e0, .int 0])), ((b 2), .inr (4, [.int 0, .ref e0, .int 0])), (h0, .inr (15, zM 1 b))] := hD
  obtain rfl : r5 = 0 := hw.trans (by decide)
  refine lv_if_eq (tgt := 115) hx hb dX10_feed_93 (by decide) (fun _ => ?_) (fun c6 => absurd (by decide) c6)
  refine lv_iconst (v := 0) hx hb dX10_feed_115 (by decide) ?_
  have hP9 := hP.sub (ws' := [(h0, .inr (15, zM 1 b))]) [4] rfl
  have hD9 := hD.sub (ws' := [(h0, .inr (15, zM 1 b))]) [4] (by decide) rfl
  have hK9 := hK.sub (tys' := []) [] rfl
  exact W.iret (v := 0) hx hb hr (fun t ht hW => ⟨⟨0, (), rfl, rfl, ⟨by rw [ht]; exact hP9, va_K.moved hW.alike hK9, hD9⟩⟩, hS.F ht⟩) hS.2.2 dX10_feed_116

set_option maxRecDepth 20000 in
theorem ggX10_melt_X10_goesOn : GoodIn wsX10_melt wsX10_goesOn := goodIn_r _ [179, 180, 181, 182, 183, 184, 185, 186, 187, 188, 189, 190, 191] (by decide +kernel) (by decide +kernel)
set_option maxRecDepth 20000 in
theorem gX10_melt_X10_goesOn : GoodIn wsX10_melt (wsV RX10 78 RX10 yX10_goesOn wsX10_goesOn) := goodIn_app (goodIn_of _ (by decide +kernel)) ggX10_melt_X10_goesOn
set_option maxRecDepth 20000 in
theorem ggX10_melt_X10_isTeam : GoodIn wsX10_melt wsX10_isTeam := goodIn_r _ [7, 1, 8, 9, 10, 11, 12, 13, 14, 15, 6, 16, 181, 182, 183, 184, 185, 186, 187, 188, 189, 190, 191, 214, 215, 216] (by decide +kernel) (by decide +kernel)
set_option maxRecDepth 20000 in
theorem gX10_melt_X10_isTeam : GoodIn wsX10_melt (wsV RX10 111 RX10 yX10_isTeam wsX10_isTeam) := goodIn_app (goodIn_of _ (by decide +kernel)) ggX10_melt_X10_isTeam
theorem dX10_melt_0 : decode cX10_melt 0 = .ok (.aload_n 0, 1) := by decide +kernel
theorem dX10_melt_1 : decode cX10_melt 1 = .ok (.iload_n 1, 1) := by decide +kernel
theorem dX10_melt_2 : decode cX10_melt 2 = .ok (.invokevirtual 111, 3) := by decide +kernel
theorem dX10_melt_5 : decode cX10_melt 5 = .ok (.ifCond .eq 14, 3) := by decide +kernel
theorem dX10_melt_19 : decode cX10_melt 19 = .ok (.bipush 45, 2) := by decide +kernel
theorem dX10_melt_21 : decode cX10_melt 21 = .ok (.istore_n 2, 1) := by decide +kernel
theorem dX10_melt_22 : decode cX10_melt 22 = .ok (.aload_n 0, 1) := by decide +kernel
theorem dX10_melt_23 : decode cX10_melt 23 = .ok (.aload_n 0, 1) := by decide +kernel
theorem dX10_melt_24 : decode cX10_melt 24 = .ok (.iload_n 1, 1) := by decide +kernel
theorem dX10_melt_25 : decode cX10_melt 25 = .ok (.invokevirtual 111, 3) := by decide +kernel
theorem dX10_melt_28 : decode cX10_melt 28 = .ok (.ifCond .ne 7, 3) := by decide +kernel
theorem dX10_melt_31 : decode cX10_melt 31 = .ok (.iconst 1, 1) := by decide +kernel
theorem dX10_melt_32 : decode cX10_melt 32 = .ok (.goto 14, 3) := by decide +kernel
theorem dX10_melt_46 : decode cX10_melt 46 = .ok (.invokevirtual 78, 3) := by decide +kernel
theorem dX10_melt_49 : decode cX10_melt 49 = .ok (.ifCond .eq 22, 3) := by decide +kernel
theorem dX10_melt_71 : decode cX10_melt 71 = .ok (.iconst 0, 1) := by decide +kernel
theorem dX10_melt_72 : decode cX10_melt 72 = .ok (.ireturn, 1) := by decide +kernel
set_option maxHeartbeats 4000000 in
set_option maxRecDepth 100000 in
theorem c_X10_melt (l : Launch) (htr : l.stackTraces = false) (dC : Nat → ClassId) (dI : Nat → Nat → Nat) (e0 sz : Nat) (h0 : Nat) (th : Int32) (b : Nat → Nat) (p0 : Int32) : Met l yX10_melt wsX10_melt ({ frames := 2, cells := 0, slots := 0, locals := 46 }) (va_Pc [.ref h0, .int p0] (fun U => U.heap.size = sz ∧ va_P (dC, dI) vwCl [(h0, .inr (15, zM th b)), ((b 0), .inr (4, [.int 0, .ref e0, .int 0])), ((b 1), .inr (4, [.int 0, .ref e0, .int 0])), ((b 2), .inr (4, [.int 0, .ref e0, .int 0])), ((b 3), .inr (4, [.int 0, .ref e0, .int 0]))] U.heap ∧ va_K (dC, dI) vwCl [] U ∧ va_D (fun _ => True) [(h0, .inr (15, zM th b)), ((b 0), .inr (4, [.int 0, .ref e0, .int 0])), ((b 1), .inr (4, [.int 0, .ref e0, .int 0])), ((b 2), .inr (4, [.int 0, .ref e0, .int 0])), ((b 3), .inr (4, [.int 0, .ref e0, .int 0]))] ∧ zE e0 (va_A [(h0, .inr (15, zM th b)), ((b 0), .inr (4, [.int 0, .ref e0, .int 0])), ((b 1), .inr (4, [.int 0, .ref e0, .int 0])), ((b 2), .inr (4, [.int 0, .ref e0, .int 0])), ((b 3), .inr (4, [.int 0, .ref e0, .int 0]))] sz) U U.heap)) (va_Qi (fun (r : Int32) (_ : Unit) => r = 0) (fun _ t => va_P (dC, dI) vwCl [(h0, .inr (15, zM 1 b))] t.heap ∧ va_K (dC, dI) vwCl [] t ∧ va_D (va_A [(h0, .inr (15, zM th b)), ((b 0), .inr (4, [.int 0, .ref e0, .int 0])), ((b 1), .inr (4, [.int 0, .ref e0, .int 0])), ((b 2), .inr (4, [.int 0, .ref e0, .int 0])), ((b 3), .inr (4, [.int 0, .ref e0, .int 0]))] sz) [(h0, .inr (15, zM 1 b))]) (va_A [(h0, .inr (15, zM th b)), ((b 0), .inr (4, [.int 0, .ref e0, .int 0])), ((b 1), .inr (4, [.int 0, .ref e0, .int 0])), ((b 2), .inr (4, [.int 0, .ref e0, .int 0])), ((b 3), .inr (4, [.int 0, .ref e0, .int 0]))] sz)) 0 0 (va_A [(h0, .inr (15, zM th b)), ((b 0), .inr (4, [.int 0, .ref e0, .int 0])), ((b 1), .inr (4, [.int 0, .ref e0, .int 0])), ((b 2), .inr (4, [.int 0, .ref e0, .int 0])), ((b 3), .inr (4, [.int 0, .ref e0, .int 0]))] sz) := by
  refine Met.ofW (cc := cX10_melt) (maxL := 3) (ret := (some .int)) (by decide) rfl ?_
  intro p e s m args below meth c s₁ B hml hv
  obtain ⟨rfl, hsz, hP, hK, hD0, hE⟩ := hv
  have hx := B.exec
  have hb := B.bytes
  have hr := B.returns
  have hts := atoms_spec (ws := wsX10_melt) B.pre
  have hown : s.vm.findClass RX10 = some m.cls := findClass_of_methodNamed B.named
  have hlocks := B.notSynchronized
  subst hsz
  have hD := hD0.self (sz := s.heap.size)
  generalize hAe : va_A [(h0, .inr (15, zM th b)), ((b 0), .inr (4, [.int 0, .ref e0, .int 0])), ((b 1), .inr (4, [.int 0, .ref e0, .int 0])), ((b 2), .inr (4, [.int 0, .ref e0, .int 0])), ((b 3), .inr (4, [.int 0, .ref e0, .int 0]))] s.heap.size = A at hD hE ⊢
  have hA : ∀ q : Nat, s.heap.size ≤ q → A q := fun q h => by rw [← hAe]; exact Or.inr h
  have hS : va_S A s.heap s.heap [] := va_S.rf
  have hl := lv_entry ([.ref h0, .int p0]) (n := 3) (Nat.le_of_ble_eq_true rfl)
  rw [lg_entry_eq]
  generalize (lg_sl ([.ref h0, .int p0]) ++ List.replicate (3 - (lg_sl ([.ref h0, .int p0])).length) Slot.unset).toArray = ls at hl ⊢
  have hl : lv_has ls 3 [(0, .ref h0), (1, .int p0)] := hl
  refine lv_aload_n hx hb dX10_melt_0 rfl (lv_at hl 0 rfl) ?_
  refine lv_iload_n hx hb dX10_melt_1 rfl (lv_at hl 1 rfl) ?_
  have hPc := hP.sub (ws' := [(h0, .inr (15, zM th b)), ((b 2), .inr (4, [.int 0, .ref e0, .int 0]))]) [0, 3] rfl
  have hDc := hD.sub (ws' := [(h0, .inr (15, zM th b)), ((b 2), .inr (4, [.int 0, .ref e0, .int 0]))]) [0, 3] (by decide) rfl
  have hKc := hK.sub (tys' := []) [] rfl
  have hFc := va_free (wc := [(h0, .inr (15, zM th b)), ((b 2), .inr (4, [.int 0, .ref e0, .int 0]))]) hD hS hA [0, 3] rfl
  have hEc := (hE.kept hS.2.1).narrow hFc
  refine va_calli (va_runV (As := [.int p0]) (rest := []) ⟨hx, hb, hml, hown, hts⟩ (c_X10_isTeam l htr dC dI e0 s.heap.size h0 th b p0) (cwV 1 hts gX10_melt_X10_isTeam rfl rfl rfl (by decide +kernel) ⟨Nat.le_of_ble_eq_true rfl, Nat.le_of_ble_eq_true rfl⟩) ⟨fun a U g mk q => by obtain ⟨q0, q1, qP, qK, qD, qE⟩ := q; exact ⟨q0, q1, qP, va_K.moved (u := U) (U := U.calling g mk a) (Vm.Alike.refl U.vm) qK, qD, zE.same rfl qE⟩, va_recv hKc hPc (ci := 15) (q0 := 0) rfl rfl, fun U hU hW => ⟨rfl, by rw [hU], by rw [hU]; exact hPc, va_K.moved hW.alike hKc, hDc.weaken (fun _ _ _ _ => trivial), by rw [hU]; exact zE.warm hW hEc⟩⟩ rfl rfl hl.1 rfl (lv_room (Nat.le_of_ble_eq_true rfl)) dX10_melt_2 ⟨Nat.le_of_ble_eq_true rfl, Nat.le_of_ble_eq_true rfl⟩) hS (fun q _ h => hFc q h) hFc (fun r1 u t H1 locs ht hvm hw hB hz1 hk1 hS => ?_)
  obtain ⟨hP1, hK1, hD1⟩ := hB
  rw [ht] at hP1
  obtain ⟨hP, hD⟩ := va_join (wr := [((b 0), .inr (4, [.int 0, .ref e0, .int 0])), ((b 1), .inr (4, [.int 0, .ref e0, .int 0])), ((b 3), .inr (4, [.int 0, .ref e0, .int 0]))]) (w1 := [(h0, .inr (15, zM th b)), ((b 2), .inr (4, [.int 0, .ref e0, .int 0]))]) hP hD [0, 3] [1, 2, 4] rfl rfl (by decide) (by decide) hk1 hFc hP1 hD1
  generalize H1 = H at hP hS ⊢
  have hP : va_P (dC, dI) vwCl [((b 0), .inr (4, [.int 0, .ref e0, .int 0])), ((b 1), .inr (4, [.int 0, .ref e0, .int 0])), ((b 3), .inr (4, [.int 0, .ref e0, .int 0])), (h0, .inr (15, zM th b)), ((b 2), .inr (4, [.int 0, .ref e0, .int 0]))] H := hP
  have hD : va_D A [((b 0), .inr (4, [.int 0, .ref e0, .int 0])), ((b 1), .inr (4, [.int 0, .ref e0, .int 0])), ((b 3), .inr (4, [.int 0, .ref e0, .int 0])), (h0, .inr (15, zM th b)), ((b 2), .inr (4, [.int 0, .ref e0, .int 0]))] := hD
  obtain rfl : r1 = 0 := hw
  refine lv_if_eq (tgt := 19) hx hb dX10_melt_5 (by decide) (fun _ => ?_) (fun c2 => absurd (by decide) c2)
  refine lv_bipush (v := 45) hx hb dX10_melt_19 (by decide) ?_
  refine lv_istore_n (lv' := [(2, .int 45), (0, .ref h0), (1, .int p0)]) hx hb dX10_melt_21 rfl hl (by decide) rfl (fun ls hl => ?_)
  refine lv_aload_n hx hb dX10_melt_22 rfl (lv_at hl 1 rfl) ?_
  refine lv_aload_n hx hb dX10_melt_23 rfl (lv_at hl 1 rfl) ?_
  refine lv_iload_n hx hb dX10_melt_24 rfl (lv_at hl 2 rfl) ?_
  have hPc := hP.sub (ws' := [(h0, .inr (15, zM th b)), ((b 2), .inr (4, [.int 0, .ref e0, .int 0]))]) [3, 4] rfl
  have hDc := hD.sub (ws' := [(h0, .inr (15, zM th b)), ((b 2), .inr (4, [.int 0, .ref e0, .int 0]))]) [3, 4] (by decide) rfl
  have hKc := hK.sub (tys' := []) [] rfl
  have hFc := va_free (wc := [(h0, .inr (15, zM th b)), ((b 2), .inr (4, [.int 0, .ref e0, .int 0]))]) hD hS hA [3, 4] rfl
  have hEc := (hE.kept hS.2.1).narrow hFc
  refine va_calli (va_runV (As := [.int p0]) (rest := [.ref h0]) ⟨hx, hb, hml, hown, hts⟩ (c_X10_isTeam l htr dC dI e0 H.size h0 th b p0) (cwV 1 hts gX10_melt_X10_isTeam rfl rfl rfl (by decide +kernel) ⟨Nat.le_of_ble_eq_true rfl, Nat.le_of_ble_eq_true rfl⟩) ⟨fun a U g mk q => by obtain ⟨q0, q1, qP, qK, qD, qE⟩ := q; exact ⟨q0, q1, qP, va_K.moved (u := U) (U := U.calling g mk a) (Vm.Alike.refl U.vm) qK, qD, zE.same rfl qE⟩, va_recv hKc hPc (ci := 15) (q0 := 0) rfl rfl, fun U hU hW => ⟨rfl, by rw [hU], by rw [hU]; exact hPc, va_K.moved hW.alike hKc, hDc.weaken (fun _ _ _ _ => trivial), by rw [hU]; exact zE.warm hW hEc⟩⟩ rfl rfl hl.1 rfl (lv_room (Nat.le_of_ble_eq_true rfl)) dX10_melt_25 ⟨Nat.le_of_ble_eq_true rfl, Nat.le_of_ble_eq_true rfl⟩) hS (fun q _ h => hFc q h) hFc (fun r3 u t H1 locs ht hvm hw hB hz1 hk1 hS => ?_)
  obtain ⟨hP1, hK1, hD1⟩ := hB
  rw [ht] at hP1
  obtain ⟨hP, hD⟩ := va_join (wr := [((b 0), .inr (4, [.int 0, .ref e0, .int 0])), ((b 1), .inr (4, [.int 0, .ref e0, .int 0])), ((b 3), .inr (4, [.int 0, .ref e0, .int 0]))]) (w1 := [(h0, .inr (15, zM th b)), ((b 2), .inr (4, [.int 0, .ref e0, .int 0]))]) hP hD [3, 4] [0, 1, 2] rfl rfl (by decide) (by decide) hk1 hFc hP1 hD1
  generalize H1 = H at hP hS ⊢
  have hP : va_P (dC, dI) vwCl [((b 0), .inr (4, [.int 0, .ref e0, .int 0])), ((b 1), .inr (4, [.int 0, .ref e0, .int 0])), ((b 3), .inr (4, [.int 0, .ref e0, .int 0])), (h0, .inr (15, zM th b)), ((b 2), .inr (4, [.int 0, .ref e0, .int 0]))] H := hP
  have hD : va_D A [((b 0), .inr (4, [.int 0, .ref e0, .int 0])), ((b 1), .inr (4, [.int 0, .ref e0, .int 0])), ((b 3), .inr (4, [.int 0, .ref e0, .int 0])), (h0, .inr (15, zM th b)), ((b 2), .inr (4, [.int 0, .ref e0, .int 0]))] := hD
  obtain rfl : r3 = 0 := hw
  refine lv_if_ne (tgt := 35) hx hb dX10_melt_28 (by decide) (fun c4 => absurd (by decide) c4) (fun _ => ?_)
  refine lv_iconst (v := 1) hx hb dX10_melt_31 (by decide) ?_
  refine lv_goto (tgt := 46) hx hb dX10_melt_32 (by decide) ?_
  have hPc := hP.sub (ws' := [(h0, .inr (15, zM th b))]) [3] rfl
  have hDc := hD.sub (ws' := [(h0, .inr (15, zM th b))]) [3] (by decide) rfl
  have hKc := hK.sub (tys' := []) [] rfl
  have hFc := va_free (wc := [(h0, .inr (15, zM th b))]) hD hS hA [3] rfl
  refine va_calli (va_runV (As := [.int 1]) (rest := []) ⟨hx, hb, hml, hown, hts⟩ (c_X10_goesOn l htr dC dI e0 H.size h0 th b 1) (cwV 1 hts gX10_melt_X10_goesOn rfl rfl rfl (by decide +kernel) ⟨Nat.le_of_ble_eq_true rfl, Nat.le_of_ble_eq_true rfl⟩) ⟨fun a U g mk q => by obtain ⟨q0, q1, qP, qK, qD⟩ := q; exact ⟨q0, q1, qP, va_K.moved (u := U) (U := U.calling g mk a) (Vm.Alike.refl U.vm) qK, qD⟩, va_recv hKc hPc (ci := 15) (q0 := 0) rfl rfl, fun U hU hW => ⟨rfl, by rw [hU], by rw [hU]; exact hPc, va_K.moved hW.alike hKc, hDc.weaken (fun _ _ _ _ => trivial)⟩⟩ rfl rfl hl.1 rfl (lv_room (Nat.le_of_ble_eq_true rfl)) dX10_melt_46 ⟨Nat.le_of_ble_eq_true rfl, Nat.le_of_ble_eq_true rfl⟩) hS (fun q _ h => hFc q h) hFc (fun r5 u t H1 locs ht hvm hw hB hz1 hk1 hS => ?_)
  obtain ⟨hP1, hK1, hD1⟩ := hB
  rw [ht] at hP1
  obtain ⟨hP, hD⟩ := va_join (wr := [((b 0), .inr (4, [.int 0, .ref e0, .int 0])), ((b 1), .inr (4, [.int 0, .ref e0, .int 0])), ((b 3), .inr (4, [.int 0, .ref e0, .int 0])), ((b 2), .inr (4, [.int 0, .ref e0, .int 0]))]) (w1 := [(h0, .inr (15, zM 1 b))]) hP hD [3] [0, 1, 2, 4] rfl rfl (by decide) (by decide) hk1 hFc hP1 hD1
  generalize H1 = H at hP hS ⊢
  have hP : va_P (dC, dI) vwCl [((b 0), .inr (4, [.int 0, .ref e0, .int 0])), ((b 1), .inr (4, [.int 0, .ref e0, .int 0])), ((b 3), .inr (4, [.int 0, .ref e0, .int 0])), ((b 2), .inr (4, [.int 0, .ref e0, .int 0])), (h0, .inr (15, zM 1 b))] H := hP
  have hD : va_D A [((b 0), .inr (4, [.int 0, .ref e0, .int 0])), ((b 1), .inr (4, [.int 0, .ref e0, .int 0])), ((b 3), .inr (4, [.int 0, .ref e0, .int 0])), ((b 2), .inr (4, [.int 0, .ref e0, .int 0])), (h0, .inr (15, zM 1 b))] := hD
  obtain rfl : r5 = 0 := hw.trans (by decide)
  refine lv_if_eq (tgt := 71) hx hb dX10_melt_49 (by decide) (fun _ => ?_) (fun c6 => absurd (by decide) c6)
  refine lv_iconst (v := 0) hx hb dX10_melt_71 (by decide) ?_
  have hP9 := hP.sub (ws' := [(h0, .inr (15, zM 1 b))]) [4] rfl
  have hD9 := hD.sub (ws' := [(h0, .inr (15, zM 1 b))]) [4] (by decide) rfl
  have hK9 := hK.sub (tys' := []) [] rfl
  exact W.iret (v := 0) hx hb hr (fun t ht hW => ⟨⟨0, (), rfl, rfl, ⟨by rw [ht]; exact hP9, va_K.moved hW.alike hK9, hD9⟩⟩, hS.F ht⟩) hS.2.2 dX10_melt_72

set_option maxRecDepth 20000 in
theorem ggX10_boots_X10_goesOn : GoodIn wsX10_boots wsX10_goesOn := goodIn_r _ [179, 180, 181, 182, 183, 184, 185, 186, 187, 188, 189, 190, 191] (by decide +kernel) (by decide +kernel)
set_option maxRecDepth 20000 in
theorem gX10_boots_X10_goesOn : GoodIn wsX10_boots (wsV RX10 78 RX10 yX10_goesOn wsX10_goesOn) := goodIn_app (goodIn_of _ (by decide +kernel)) ggX10_boots_X10_goesOn
set_option maxRecDepth 20000 in
theorem ggX10_boots_X10_isTeam : GoodIn wsX10_boots wsX10_isTeam := goodIn_r _ [7, 1, 8, 9, 10, 11, 12, 13, 14, 15, 6, 16, 181, 182, 183, 184, 185, 186, 187, 188, 189, 190, 191, 214, 215, 216] (by decide +kernel) (by decide +kernel)
set_option maxRecDepth 20000 in
theorem gX10_boots_X10_isTeam : GoodIn wsX10_boots (wsV RX10 111 RX10 yX10_isTeam wsX10_isTeam) := goodIn_app (goodIn_of _ (by decide +kernel)) ggX10_boots_X10_isTeam
theorem dX10_boots_0 : decode cX10_boots 0 = .ok (.aload_n 0, 1) := by decide +kernel
theorem dX10_boots_1 : decode cX10_boots 1 = .ok (.iload_n 1, 1) := by decide +kernel
theorem dX10_boots_2 : decode cX10_boots 2 = .ok (.invokevirtual 111, 3) := by decide +kernel
theorem dX10_boots_5 : decode cX10_boots 5 = .ok (.ifCond .eq 22, 3) := by decide +kernel
theorem dX10_boots_27 : decode cX10_boots 27 = .ok (.bipush 45, 2) := by decide +kernel
theorem dX10_boots_29 : decode cX10_boots 29 = .ok (.istore_n 3, 1) := by decide +kernel
theorem dX10_boots_30 : decode cX10_boots 30 = .ok (.aload_n 0, 1) := by decide +kernel
theorem dX10_boots_31 : decode cX10_boots 31 = .ok (.aload_n 0, 1) := by decide +kernel
theorem dX10_boots_32 : decode cX10_boots 32 = .ok (.iload_n 1, 1) := by decide +kernel
theorem dX10_boots_33 : decode cX10_boots 33 = .ok (.invokevirtual 111, 3) := by decide +kernel
theorem dX10_boots_36 : decode cX10_boots 36 = .ok (.ifCond .ne 7, 3) := by decide +kernel
theorem dX10_boots_39 : decode cX10_boots 39 = .ok (.iconst 1, 1) := by decide +kernel
theorem dX10_boots_40 : decode cX10_boots 40 = .ok (.goto 14, 3) := by decide +kernel
theorem dX10_boots_54 : decode cX10_boots 54 = .ok (.invokevirtual 78, 3) := by decide +kernel
theorem dX10_boots_57 : decode cX10_boots 57 = .ok (.ifCond .eq 26, 3) := by decide +kernel
theorem dX10_boots_83 : decode cX10_boots 83 = .ok (.iconst 0, 1) := by decide +kernel
theorem dX10_boots_84 : decode cX10_boots 84 = .ok (.ireturn, 1) := by decide +kernel
set_option maxHeartbeats 4000000 in
set_option maxRecDepth 100000 in
theorem c_X10_boots (l : Launch) (htr : l.stackTraces = false) (dC : Nat → ClassId) (dI : Nat → Nat → Nat) (e0 sz : Nat) (h0 : Nat) (th : Int32) (b : Nat → Nat) (p0 : Int32) (p1 : Int32) : Met l yX10_boots wsX10_boots ({ frames := 2, cells := 0, slots := 0, locals := 46 }) (va_Pc [.ref h0, .int p0, .int p1] (fun U => U.heap.size = sz ∧ va_P (dC, dI) vwCl [(h0, .inr (15, zM th b)), ((b 0), .inr (4, [.int 0, .ref e0, .int 0])), ((b 1), .inr (4, [.int 0, .ref e0, .int 0])), ((b 2), .inr (4, [.int 0, .ref e0, .int 0])), ((b 3), .inr (4, [.int 0, .ref e0, .int 0]))] U.heap ∧ va_K (dC, dI) vwCl [] U ∧ va_D (fun _ => True) [(h0, .inr (15, zM th b)), ((b 0), .inr (4, [.int 0, .ref e0, .int 0])), ((b 1), .inr (4, [.int 0, .ref e0, .int 0])), ((b 2), .inr (4, [.int 0, .ref e0, .int 0])), ((b 3), .inr (4, [.int 0, .ref e0, .int 0]))] ∧ zE e0 (va_A [(h0, .inr (15, zM th b)), ((b 0), .inr (4, [.int 0, .ref e0, .int 0])), ((b 1), .inr (4, [.int 0, .ref e0, .int 0])), ((b 2), .inr (4, [.int 0, .ref e0, .int 0])), ((b 3), .inr (4, [.int 0, .ref e0, .int 0]))] sz) U U.heap)) (va_Qi (fun (r : Int32) (_ : Unit) => r = 0) (fun _ t => va_P (dC, dI) vwCl [(h0, .inr (15, zM 1 b))] t.heap ∧ va_K (dC, dI) vwCl [] t ∧ va_D (va_A [(h0, .inr (15, zM th b)), ((b 0), .inr (4, [.int 0, .ref e0, .int 0])), ((b 1), .inr (4, [.int 0, .ref e0, .int 0])), ((b 2), .inr (4, [.int 0, .ref e0, .int 0])), ((b 3), .inr (4, [.int 0, .ref e0, .int 0]))] sz) [(h0, .inr (15, zM 1 b))]) (va_A [(h0, .inr (15, zM th b)), ((b 0), .inr (4, [.int 0, .ref e0, .int 0])), ((b 1), .inr (4, [.int 0, .ref e0, .int 0])), ((b 2), .inr (4, [.int 0, .ref e0, .int 0])), ((b 3), .inr (4, [.int 0, .ref e0, .int 0]))] sz)) 0 0 (va_A [(h0, .inr (15, zM th b)), ((b 0), .inr (4, [.int 0, .ref e0, .int 0])), ((b 1), .inr (4, [.int 0, .ref e0, .int 0])), ((b 2), .inr (4, [.int 0, .ref e0, .int 0])), ((b 3), .inr (4, [.int 0, .ref e0, .int 0]))] sz) := by
  refine Met.ofW (cc := cX10_boots) (maxL := 4) (ret := (some .boolean)) (by decide) rfl ?_
  intro p e s m args below meth c s₁ B hml hv
  obtain ⟨rfl, hsz, hP, hK, hD0, hE⟩ := hv
  have hx := B.exec
  have hb := B.bytes
  have hr := B.returns
  have hts := atoms_spec (ws := wsX10_boots) B.pre
  have hown : s.vm.findClass RX10 = some m.cls := findClass_of_methodNamed B.named
  have hlocks := B.notSynchronized
  subst hsz
  have hD := hD0.self (sz := s.heap.size)
  generalize hAe : va_A [(h0, .inr (15, zM th b)), ((b 0), .inr (4, [.int 0, .ref e0, .int 0])), ((b 1), .inr (4, [.int 0, .ref e0, .int 0])), ((b 2), .inr (4, [.int 0, .ref e0, .int 0])), ((b 3), .inr (4, [.int 0, .ref e0, .int 0]))] s.heap.size = A at hD hE ⊢
  have hA : ∀ q : Nat, s.heap.size ≤ q → A q := fun q h => by rw [← hAe]; exact Or.inr h
  have hS : va_S A s.heap s.heap [] := va_S.rf
  have hl := lv_entry ([.ref h0, .int p0, .int p1]) (n := 4) (Nat.le_of_ble_eq_true rfl)
  rw [lg_entry_eq]
  generalize (lg_sl ([.ref h0, .int p0, .int p1]) ++ List.replicate (4 - (lg_sl ([.ref h0, .int p0, .int p1])).length) Slot.unset).toArray = ls at hl ⊢
  have hl : lv_has ls 4 [(0, .ref h0), (1, .int p0), (2, .int p1)] := hl
  refine lv_aload_n hx hb dX10_boots_0 rfl (lv_at hl 0 rfl) ?_
  refine lv_iload_n hx hb dX10_boots_1 rfl (lv_at hl 1 rfl) ?_
  have hPc := hP.sub (ws' := [(h0, .inr (15, zM th b)), ((b 2), .inr (4, [.int 0, .ref e0, .int 0]))]) [0, 3] rfl
  have hDc := hD.sub (ws' := [(h0, .inr (15, zM th b)), ((b 2), .inr (4, [.int 0, .ref e0, .int 0]))]) [0, 3] (by decide) rfl
  have hKc := hK.sub (tys' := []) [] rfl
  have hFc := va_free (wc := [(h0, .inr (15, zM th b)), ((b 2), .inr (4, [.int 0, .ref e0, .int 0]))]) hD hS hA [0, 3] rfl
  have hEc := (hE.kept hS.2.1).narrow hFc
  refine va_calli (va_runV (As := [.int p0]) (rest := []) ⟨hx, hb, hml, hown, hts⟩ (c_X10_isTeam l htr dC dI e0 s.heap.size h0 th b p0) (cwV 1 hts gX10_boots_X10_isTeam rfl rfl rfl (by decide +kernel) ⟨Nat.le_of_ble_eq_true rfl, Nat.le_of_ble_eq_true rfl⟩) ⟨fun a U g mk q => by obtain ⟨q0, q1, qP, qK, qD, qE⟩ := q; exact ⟨q0, q1, qP, va_K.moved (u := U) (U := U.calling g mk a) (Vm.Alike.refl U.vm) qK, qD, zE.same rfl qE⟩, va_recv hKc hPc (ci := 15) (q0 := 0) rfl rfl, fun U hU hW => ⟨rfl, by rw [hU], by rw [hU]; exact hPc, va_K.moved hW.alike hKc, hDc.weaken (fun _ _ _ _ => trivial), by rw [hU]; exact zE.warm hW hEc⟩⟩ rfl rfl hl.1 rfl (lv_room (Nat.le_of_ble_eq_true rfl)) dX10_boots_2 ⟨Nat.le_of_ble_eq_true rfl, Nat.le_of_ble_eq_true rfl⟩) hS (fun q _ h => hFc q h) hFc (fun r1 u t H1 locs ht hvm hw hB hz1 hk1 hS => ?_)
  obtain ⟨hP1, hK1, hD1⟩ := hB
  rw [ht] at hP1
  obtain ⟨hP, hD⟩ := va_join (wr := [((b 0), .inr (4, [.int 0, .ref e0, .int 0])), ((b 1), .inr (4, [.int 0, .ref e0, .int 0])), ((b 3), .inr (4, [.int 0, .ref e0, .int 0]))]) (w1 := [(h0, .inr (15, zM th b)), ((b 2), .inr (4, [.int 0, .ref e0, .int 0]))]) hP hD [0, 3] [1, 2, 4] rfl rfl (by decide) (by decide) hk1 hFc hP1 hD1
  generalize H1 = H at hP hS ⊢
  have hP : va_P (dC, dI) vwCl [((b 0), .inr (4, [.int 0, .ref e0, .int 0])), ((b 1), .inr (4, [.int 0, .ref e0, .int 0])), ((b 3), .inr (4, [.int 0, .ref e0, .int 0])), (h0, .inr (15, zM th b)), ((b 2), .inr (4, [.int 0, .ref e0, .int 0]))] H := hP
  have hD : va_D A [((b 0), .inr (4, [.int 0, .ref e0, .int 0])), ((b 1), .inr (4, [.int 0, .ref e0, .int 0])), ((b 3), .inr (4, [.int 0, .ref e0, .int 0])), (h0, .inr (15, zM th b)), ((b 2), .inr (4, [.int 0, .ref e0, .int 0]))] := hD
  obtain rfl : r1 = 0 := hw
  refine lv_if_eq (tgt := 27) hx hb dX10_boots_5 (by decide) (fun _ => ?_) (fun c2 => absurd (by decide) c2)
  refine lv_bipush (v := 45) hx hb dX10_boots_27 (by decide) ?_
  refine lv_istore_n (lv' := [(3, .int 45), (0, .ref h0), (1, .int p0), (2, .int p1)]) hx hb dX10_boots_29 rfl hl (by decide) rfl (fun ls hl => ?_)
  refine lv_aload_n hx hb dX10_boots_30 rfl (lv_at hl 1 rfl) ?_
  refine lv_aload_n hx hb dX10_boots_31 rfl (lv_at hl 1 rfl) ?_
  refine lv_iload_n hx hb dX10_boots_32 rfl (lv_at hl 2 rfl) ?_
  have hPc := hP.sub (ws' := [(h0, .inr (15, zM th b)), ((b 2), .inr (4, [.int 0, .ref e0, .int 0]))]) [3, 4] rfl
  have hDc := hD.sub (ws' := [(h0, .inr (15, zM th b)), ((b 2), .inr (4, [.int 0, .ref e0, .int 0]))]) [3, 4] (by decide) rfl
  have hKc := hK.sub (tys' := []) [] rfl
  have hFc := va_free (wc := [(h0, .inr (15, zM th b)), ((b 2), .inr (4, [.int 0, .ref e0, .int 0]))]) hD hS hA [3, 4] rfl
  have hEc := (hE.kept hS.2.1).narrow hFc
  refine va_calli (va_runV (As := [.int p0]) (rest := [.ref h0]) ⟨hx, hb, hml, hown, hts⟩ (c_X10_isTeam l htr dC dI e0 H.size h0 th b p0) (cwV 1 hts gX10_boots_X10_isTeam rfl rfl rfl (by decide +kernel) ⟨Nat.le_of_ble_eq_true rfl, Nat.le_of_ble_eq_true rfl⟩) ⟨fun a U g mk q => by obtain ⟨q0, q1, qP, qK, qD, qE⟩ := q; exact ⟨q0, q1, qP, va_K.moved (u := U) (U := U.calling g mk a) (Vm.Alike.refl U.vm) qK, qD, zE.same rfl qE⟩, va_recv hKc hPc (ci := 15) (q0 := 0) rfl rfl, fun U hU hW => ⟨rfl, by rw [hU], by rw [hU]; exact hPc, va_K.moved hW.alike hKc, hDc.weaken (fun _ _ _ _ => trivial), by rw [hU]; exact zE.warm hW hEc⟩⟩ rfl rfl hl.1 rfl (lv_room (Nat.le_of_ble_eq_true rfl)) dX10_boots_33 ⟨Nat.le_of_ble_eq_true rfl, Nat.le_of_ble_eq_true rfl⟩) hS (fun q _ h => hFc q h) hFc (fun r3 u t H1 locs ht hvm hw hB hz1 hk1 hS => ?_)
  obtain ⟨hP1, hK1, hD1⟩ := hB
  rw [ht] at hP1
  obtain ⟨hP, hD⟩ := va_join (wr := [((b 0), .inr (4, [.int 0, .ref e0, .int 0])), ((b 1), .inr (4, [.int 0, .ref e0, .int 0])), ((b 3), .inr (4, [.int 0, .ref e0, .int 0]))]) (w1 := [(h0, .inr (15, zM th b)), ((b 2), .inr (4, [.int 0, .ref e0, .int 0]))]) hP hD [3, 4] [0, 1, 2] rfl rfl (by decide) (by decide) hk1 hFc hP1 hD1
  generalize H1 = H at hP hS ⊢
  have hP : va_P (dC, dI) vwCl [((b 0), .inr (4, [.int 0, .ref e0, .int 0])), ((b 1), .inr (4, [.int 0, .ref e0, .int 0])), ((b 3), .inr (4, [.int 0, .ref e0, .int 0])), (h0, .inr (15, zM th b)), ((b 2), .inr (4, [.int 0, .ref e0, .int 0]))] H := hP
  have hD : va_D A [((b 0), .inr (4, [.int 0, .ref e0, .int 0])), ((b 1), .inr (4, [.int 0, .ref e0, .int 0])), ((b 3), .inr (4, [.int 0, .ref e0, .int 0])), (h0, .inr (15, zM th b)), ((b 2), .inr (4, [.int 0, .ref e0, .int 0]))] := hD
  obtain rfl : r3 = 0 := hw
  refine lv_if_ne (tgt := 43) hx hb dX10_boots_36 (by decide) (fun c4 => absurd (by decide) c4) (fun _ => ?_)
  refine lv_iconst (v := 1) hx hb dX10_boots_39 (by decide) ?_
  refine lv_goto (tgt := 54) hx hb dX10_boots_40 (by decide) ?_
  have hPc := hP.sub (ws' := [(h0, .inr (15, zM th b))]) [3] rfl
  have hDc := hD.sub (ws' := [(h0, .inr (15, zM th b))]) [3] (by decide) rfl
  have hKc := hK.sub (tys' := []) [] rfl
  have hFc := va_free (wc := [(h0, .inr (15, zM th b))]) hD hS hA [3] rfl
  refine va_calli (va_runV (As := [.int 1]) (rest := []) ⟨hx, hb, hml, hown, hts⟩ (c_X10_goesOn l htr dC dI e0 H.size h0 th b 1) (cwV 1 hts gX10_boots_X10_goesOn rfl rfl rfl (by decide +kernel) ⟨Nat.le_of_ble_eq_true rfl, Nat.le_of_ble_eq_true rfl⟩) ⟨fun a U g mk q => by obtain ⟨q0, q1, qP, qK, qD⟩ := q; exact ⟨q0, q1, qP, va_K.moved (u := U) (U := U.calling g mk a) (Vm.Alike.refl U.vm) qK, qD⟩, va_recv hKc hPc (ci := 15) (q0 := 0) rfl rfl, fun U hU hW => ⟨rfl, by rw [hU], by rw [hU]; exact hPc, va_K.moved hW.alike hKc, hDc.weaken (fun _ _ _ _ => trivial)⟩⟩ rfl rfl hl.1 rfl (lv_room (Nat.le_of_ble_eq_true rfl)) dX10_boots_54 ⟨Nat.le_of_ble_eq_true rfl, Nat.le_of_ble_eq_true rfl⟩) hS (fun q _ h => hFc q h) hFc (fun r5 u t H1 locs ht hvm hw hB hz1 hk1 hS => ?_)
  obtain ⟨hP1, hK1, hD1⟩ := hB
  rw [ht] at hP1
  obtain ⟨hP, hD⟩ := va_join (wr := [((b 0), .inr (4, [.int 0, .ref e0, .int 0])), ((b 1), .inr (4, [.int 0, .ref e0, .int 0])), ((b 3), .inr (4, [.int 0, .ref e0, .int 0])), ((b 2), .inr (4, [.int 0, .ref e0, .int 0]))]) (w1 := [(h0, .inr (15, zM 1 b))]) hP hD [3] [0, 1, 2, 4] rfl rfl (by decide) (by decide) hk1 hFc hP1 hD1
  generalize H1 = H at hP hS ⊢
  have hP : va_P (dC, dI) vwCl [((b 0), .inr (4, [.int 0, .ref e0, .int 0])), ((b 1), .inr (4, [.int 0, .ref e0, .int 0])), ((b 3), .inr (4, [.int 0, .ref e0, .int 0])), ((b 2), .inr (4, [.int 0, .ref e0, .int 0])), (h0, .inr (15, zM 1 b))] H := hP
  have hD : va_D A [((b 0), .inr (4, [.int 0, .ref e0, .int 0])), ((b 1), .inr (4, [.int 0, .ref e0, .int 0])), ((b 3), .inr (4, [.int 0, .ref e0, .int 0])), ((b 2), .inr (4, [.int 0, .ref e0, .int 0])), (h0, .inr (15, zM 1 b))] := hD
  obtain rfl : r5 = 0 := hw.trans (by decide)
  refine lv_if_eq (tgt := 83) hx hb dX10_boots_57 (by decide) (fun _ => ?_) (fun c6 => absurd (by decide) c6)
  refine lv_iconst (v := 0) hx hb dX10_boots_83 (by decide) ?_
  have hP9 := hP.sub (ws' := [(h0, .inr (15, zM 1 b))]) [4] rfl
  have hD9 := hD.sub (ws' := [(h0, .inr (15, zM 1 b))]) [4] (by decide) rfl
  have hK9 := hK.sub (tys' := []) [] rfl
  exact W.zret (v := 0) hx hb hr (by decide) (fun t ht hW => ⟨⟨0, (), rfl, rfl, ⟨by rw [ht]; exact hP9, va_K.moved hW.alike hK9, hD9⟩⟩, hS.F ht⟩) hS.2.2 dX10_boots_84

set_option maxRecDepth 20000 in
theorem ggX10_give_X10_goesOn : GoodIn wsX10_give wsX10_goesOn := goodIn_r _ [44, 45, 46, 47, 48, 49, 50, 51, 52, 53, 54, 55, 56] (by decide +kernel) (by decide +kernel)
set_option maxRecDepth 20000 in
theorem gX10_give_X10_goesOn : GoodIn wsX10_give (wsV RX10 78 RX10 yX10_goesOn wsX10_goesOn) := goodIn_app (goodIn_of _ (by decide +kernel)) ggX10_give_X10_goesOn
set_option maxRecDepth 20000 in
theorem ggX10_give_X10_isTeam : GoodIn wsX10_give wsX10_isTeam := goodIn_r _ [8, 1, 9, 10, 11, 12, 13, 14, 15, 16, 7, 17, 46, 47, 48, 49, 50, 51, 52, 53, 54, 55, 56, 79, 80, 81] (by decide +kernel) (by decide +kernel)
set_option maxRecDepth 20000 in
theorem gX10_give_X10_isTeam : GoodIn wsX10_give (wsV RX10 111 RX10 yX10_isTeam wsX10_isTeam) := goodIn_app (goodIn_of _ (by decide +kernel)) ggX10_give_X10_isTeam
theorem dX10_give_0 : decode cX10_give 0 = .ok (.aload_n 0, 1) := by decide +kernel
theorem dX10_give_1 : decode cX10_give 1 = .ok (.iload_n 1, 1) := by decide +kernel
theorem dX10_give_2 : decode cX10_give 2 = .ok (.invokevirtual 111, 3) := by decide +kernel
theorem dX10_give_5 : decode cX10_give 5 = .ok (.ifCond .eq 15, 3) := by decide +kernel
theorem dX10_give_20 : decode cX10_give 20 = .ok (.iconst 0, 1) := by decide +kernel
theorem dX10_give_21 : decode cX10_give 21 = .ok (.istore 4, 2) := by decide +kernel
theorem dX10_give_23 : decode cX10_give 23 = .ok (.iload 4, 2) := by decide +kernel
theorem dX10_give_25 : decode cX10_give 25 = .ok (.ifCond .eq 19, 3) := by decide +kernel
theorem dX10_give_44 : decode cX10_give 44 = .ok (.aconst_null, 1) := by decide +kernel
theorem dX10_give_45 : decode cX10_give 45 = .ok (.astore 5, 2) := by decide +kernel
theorem dX10_give_47 : decode cX10_give 47 = .ok (.iload 4, 2) := by decide +kernel
theorem dX10_give_49 : decode cX10_give 49 = .ok (.ifCond .eq 19, 3) := by decide +kernel
theorem dX10_give_68 : decode cX10_give 68 = .ok (.aconst_null, 1) := by decide +kernel
theorem dX10_give_69 : decode cX10_give 69 = .ok (.astore 6, 2) := by decide +kernel
theorem dX10_give_71 : decode cX10_give 71 = .ok (.iload 4, 2) := by decide +kernel
theorem dX10_give_73 : decode cX10_give 73 = .ok (.ifCond .eq 41, 3) := by decide +kernel
theorem dX10_give_114 : decode cX10_give 114 = .ok (.iconst 0, 1) := by decide +kernel
theorem dX10_give_115 : decode cX10_give 115 = .ok (.istore 7, 2) := by decide +kernel
theorem dX10_give_117 : decode cX10_give 117 = .ok (.iload 7, 2) := by decide +kernel
theorem dX10_give_119 : decode cX10_give 119 = .ok (.ifCond .eq 16, 3) := by decide +kernel
theorem dX10_give_135 : decode cX10_give 135 = .ok (.iconst 0, 1) := by decide +kernel
theorem dX10_give_136 : decode cX10_give 136 = .ok (.istore 8, 2) := by decide +kernel
theorem dX10_give_138 : decode cX10_give 138 = .ok (.aload_n 0, 1) := by decide +kernel
theorem dX10_give_139 : decode cX10_give 139 = .ok (.iload 4, 2) := by decide +kernel
theorem dX10_give_141 : decode cX10_give 141 = .ok (.ifCond .ne 7, 3) := by decide +kernel
theorem dX10_give_144 : decode cX10_give 144 = .ok (.iconst 1, 1) := by decide +kernel
theorem dX10_give_145 : decode cX10_give 145 = .ok (.goto 38, 3) := by decide +kernel
theorem dX10_give_183 : decode cX10_give 183 = .ok (.invokevirtual 78, 3) := by decide +kernel
theorem dX10_give_186 : decode cX10_give 186 = .ok (.ifCond .ne 5, 3) := by decide +kernel
theorem dX10_give_189 : decode cX10_give 189 = .ok (.iconst 0, 1) := by decide +kernel
theorem dX10_give_190 : decode cX10_give 190 = .ok (.ireturn, 1) := by decide +kernel
set_option maxHeartbeats 4000000 in
set_option maxRecDepth 100000 in
theorem c_X10_give (l : Launch) (htr : l.stackTraces = false) (dC : Nat → ClassId) (dI : Nat → Nat → Nat) (e0 sz : Nat) (h0 : Nat) (th : Int32) (b : Nat → Nat) (p0 : Int32) (p1 : Int32) (p2 : Int32) : Met l yX10_give wsX10_give ({ frames := 2, cells := 0, slots := 0, locals := 46 }) (va_Pc [.ref h0, .int p0, .int p1, .int p2] (fun U => U.heap.size = sz ∧ va_P (dC, dI) vwCl [(h0, .inr (15, zM th b)), ((b 0), .inr (4, [.int 0, .ref e0, .int 0])), ((b 1), .inr (4, [.int 0, .ref e0, .int 0])), ((b 2), .inr (4, [.int 0, .ref e0, .int 0])), ((b 3), .inr (4, [.int 0, .ref e0, .int 0]))] U.heap ∧ va_K (dC, dI) vwCl [] U ∧ va_D (fun _ => True) [(h0, .inr (15, zM th b)), ((b 0), .inr (4, [.int 0, .ref e0, .int 0])), ((b 1), .inr (4, [.int 0, .ref e0, .int 0])), ((b 2), .inr (4, [.int 0, .ref e0, .int 0])), ((b 3), .inr (4, [.int 0, .ref e0, .int 0]))] ∧ zE e0 (va_A [(h0, .inr (15, zM th b)), ((b 0), .inr (4, [.int 0, .ref e0, .int 0])), ((b 1), .inr (4, [.int 0, .ref e0, .int 0])), ((b 2), .inr (4, [.int 0, .ref e0, .int 0])), ((b 3), .inr (4, [.int 0, .ref e0, .int 0]))] sz) U U.heap)) (va_Qi (fun (r : Int32) (_ : Unit) => r = 0) (fun _ t => va_P (dC, dI) vwCl [(h0, .inr (15, zM 1 b))] t.heap ∧ va_K (dC, dI) vwCl [] t ∧ va_D (va_A [(h0, .inr (15, zM th b)), ((b 0), .inr (4, [.int 0, .ref e0, .int 0])), ((b 1), .inr (4, [.int 0, .ref e0, .int 0])), ((b 2), .inr (4, [.int 0, .ref e0, .int 0])), ((b 3), .inr (4, [.int 0, .ref e0, .int 0]))] sz) [(h0, .inr (15, zM 1 b))]) (va_A [(h0, .inr (15, zM th b)), ((b 0), .inr (4, [.int 0, .ref e0, .int 0])), ((b 1), .inr (4, [.int 0, .ref e0, .int 0])), ((b 2), .inr (4, [.int 0, .ref e0, .int 0])), ((b 3), .inr (4, [.int 0, .ref e0, .int 0]))] sz)) 0 0 (va_A [(h0, .inr (15, zM th b)), ((b 0), .inr (4, [.int 0, .ref e0, .int 0])), ((b 1), .inr (4, [.int 0, .ref e0, .int 0])), ((b 2), .inr (4, [.int 0, .ref e0, .int 0])), ((b 3), .inr (4, [.int 0, .ref e0, .int 0]))] sz) := by
  refine Met.ofW (cc := cX10_give) (maxL := 9) (ret := (some .int)) (by decide) rfl ?_
  intro p e s m args below meth c s₁ B hml hv
  obtain ⟨rfl, hsz, hP, hK, hD0, hE⟩ := hv
  have hx := B.exec
  have hb := B.bytes
  have hr := B.returns
  have hts := atoms_spec (ws := wsX10_give) B.pre
  have hown : s.vm.findClass RX10 = some m.cls := findClass_of_methodNamed B.named
  have hlocks := B.notSynchronized
  subst hsz
  have hD := hD0.self (sz := s.heap.size)
  generalize hAe : va_A [(h0, .inr (15, zM th b)), ((b 0), .inr (4, [.int 0, .ref e0, .int 0])), ((b 1), .inr (4, [.int 0, .ref e0, .int 0])), ((b 2), .inr (4, [.int 0, .ref e0, .int 0])), ((b 3), .inr (4, [.int 0, .ref e0, .int 0]))] s.heap.size = A at hD hE ⊢
  have hA : ∀ q : Nat, s.heap.size ≤ q → A q := fun q h => by rw [← hAe]; exact Or.inr h
  have hS : va_S A s.heap s.heap [] := va_S.rf
  have hl := lv_entry ([.ref h0, .int p0, .int p1, .int p2]) (n := 9) (Nat.le_of_ble_eq_true rfl)
  rw [lg_entry_eq]
  generalize (lg_sl ([.ref h0, .int p0, .int p1, .int p2]) ++ List.replicate (9 - (lg_sl ([.ref h0, .int p0, .int p1, .int p2])).length) Slot.unset).toArray = ls at hl ⊢
  have hl : lv_has ls 9 [(0, .ref h0), (1, .int p0), (2, .int p1), (3, .int p2)] := hl
  refine lv_aload_n hx hb dX10_give_0 rfl (lv_at hl 0 rfl) ?_
  refine lv_iload_n hx hb dX10_give_1 rfl (lv_at hl 1 rfl) ?_
  have hPc := hP.sub (ws' := [(h0, .inr (15, zM th b)), ((b 2), .inr (4, [.int 0, .ref e0, .int 0]))]) [0, 3] rfl
  have hDc := hD.sub (ws' := [(h0, .inr (15, zM th b)), ((b 2), .inr (4, [.int 0, .ref e0, .int 0]))]) [0, 3] (by decide) rfl
  have hKc := hK.sub (tys' := []) [] rfl
  have hFc := va_free (wc := [(h0, .inr (15, zM th b)), ((b 2), .inr (4, [.int 0, .ref e0, .int 0]))]) hD hS hA [0, 3] rfl
  have hEc := (hE.kept hS.2.1).narrow hFc
  refine va_calli (va_runV (As := [.int p0]) (rest := []) ⟨hx, hb, hml, hown, hts⟩ (c_X10_isTeam l htr dC dI e0 s.heap.size h0 th b p0) (cwV 1 hts gX10_give_X10_isTeam rfl rfl rfl (by decide +kernel) ⟨Nat.le_of_ble_eq_true rfl, Nat.le_of_ble_eq_true rfl⟩) ⟨fun a U g mk q => by obtain ⟨q0, q1, qP, qK, qD, qE⟩ := q; exact ⟨q0, q1, qP, va_K.moved (u := U) (U := U.calling g mk a) (Vm.Alike.refl U.vm) qK, qD, zE.same rfl qE⟩, va_recv hKc hPc (ci := 15) (q0 := 0) rfl rfl, fun U hU hW => ⟨rfl, by rw [hU], by rw [hU]; exact hPc, va_K.moved hW.alike hKc, hDc.weaken (fun _ _ _ _ => trivial), by rw [hU]; exact zE.warm hW hEc⟩⟩ rfl rfl hl.1 rfl (lv_room (Nat.le_of_ble_eq_true rfl)) dX10_give_2 ⟨Nat.le_of_ble_eq_true rfl, Nat.le_of_ble_eq_true rfl⟩) hS (fun q _ h => hFc q h) hFc (fun r1 u t H1 locs ht hvm hw hB hz1 hk1 hS => ?_)
  obtain ⟨hP1, hK1, hD1⟩ := hB
  rw [ht] at hP1
  obtain ⟨hP, hD⟩ := va_join (wr := [((b 0), .inr (4, [.int 0, .ref e0, .int 0])), ((b 1), .inr (4, [.int 0, .ref e0, .int 0])), ((b 3), .inr (4, [.int 0, .ref e0, .int 0]))]) (w1 := [(h0, .inr (15, zM th b)), ((b 2), .inr (4, [.int 0, .ref e0, .int 0]))]) hP hD [0, 3] [1, 2, 4] rfl rfl (by decide) (by decide) hk1 hFc hP1 hD1
  generalize H1 = H at hP hS ⊢
  have hP : va_P (dC, dI) vwCl [((b 0), .inr (4, [.int 0, .ref e0, .int 0])), ((b 1), .inr (4, [.int 0, .ref e0, .int 0])), ((b 3), .inr (4, [.int 0, .ref e0, .int 0])), (h0, .inr (15, zM th b)), ((b 2), .inr (4, [.int 0, .ref e0, .int 0]))] H := hP
  have hD : va_D A [((b 0), .inr (4, [.int 0, .ref e0, .int 0])), ((b 1), .inr (4, [.int 0, .ref e0, .int 0])), ((b 3), .inr (4, [.int 0, .ref e0, .int 0])), (h0, .inr (15, zM th b)), ((b 2), .inr (4, [.int 0, .ref e0, .int 0]))] := hD
  obtain rfl : r1 = 0 := hw
  refine lv_if_eq (tgt := 20) hx hb dX10_give_5 (by decide) (fun _ => ?_) (fun c2 => absurd (by decide) c2)
  refine lv_iconst (v := 0) hx hb dX10_give_20 (by decide) ?_
  refine lv_istore (lv' := [(4, .int 0), (0, .ref h0), (1, .int p0), (2, .int p1), (3, .int p2)]) hx hb dX10_give_21 hl (by decide) rfl (fun ls hl => ?_)
  refine lv_iload hx hb dX10_give_23 (lv_at hl 0 rfl) ?_
  refine lv_if_eq (tgt := 44) hx hb dX10_give_25 (by decide) (fun _ => ?_) (fun c3 => absurd (by decide) c3)
  refine lv_null hx hb dX10_give_44 ?_
  refine lv_astoreN (lv' := [(5, .null), (4, .int 0), (0, .ref h0), (1, .int p0), (2, .int p1), (3, .int p2)]) hx hb dX10_give_45 hl (by decide) rfl (fun ls hl => ?_)
  refine lv_iload hx hb dX10_give_47 (lv_at hl 1 rfl) ?_
  refine lv_if_eq (tgt := 68) hx hb dX10_give_49 (by decide) (fun _ => ?_) (fun c4 => absurd (by decide) c4)
  refine lv_null hx hb dX10_give_68 ?_
  refine lv_astoreN (lv' := [(6, .null), (5, .null), (4, .int 0), (0, .ref h0), (1, .int p0), (2, .int p1), (3, .int p2)]) hx hb dX10_give_69 hl (by decide) rfl (fun ls hl => ?_)
  refine lv_iload hx hb dX10_give_71 (lv_at hl 2 rfl) ?_
  refine lv_if_eq (tgt := 114) hx hb dX10_give_73 (by decide) (fun _ => ?_) (fun c5 => absurd (by decide) c5)
  refine lv_iconst (v := 0) hx hb dX10_give_114 (by decide) ?_
  refine lv_istore (lv' := [(7, .int 0), (6, .null), (5, .null), (4, .int 0), (0, .ref h0), (1, .int p0), (2, .int p1), (3, .int p2)]) hx hb dX10_give_115 hl (by decide) rfl (fun ls hl => ?_)
  refine lv_iload hx hb dX10_give_117 (lv_at hl 0 rfl) ?_
  refine lv_if_eq (tgt := 135) hx hb dX10_give_119 (by decide) (fun _ => ?_) (fun c6 => absurd (by decide) c6)
  refine lv_iconst (v := 0) hx hb dX10_give_135 (by decide) ?_
  refine lv_istore (lv' := [(8, .int 0), (7, .int 0), (6, .null), (5, .null), (4, .int 0), (0, .ref h0), (1, .int p0), (2, .int p1), (3, .int p2)]) hx hb dX10_give_136 hl (by decide) rfl (fun ls hl => ?_)
  refine lv_aload_n hx hb dX10_give_138 rfl (lv_at hl 5 rfl) ?_
  refine lv_iload hx hb dX10_give_139 (lv_at hl 4 rfl) ?_
  refine lv_if_ne (tgt := 148) hx hb dX10_give_141 (by decide) (fun c7 => absurd (by decide) c7) (fun _ => ?_)
  refine lv_iconst (v := 1) hx hb dX10_give_144 (by decide) ?_
  refine lv_goto (tgt := 183) hx hb dX10_give_145 (by decide) ?_
  have hPc := hP.sub (ws' := [(h0, .inr (15, zM th b))]) [3] rfl
  have hDc := hD.sub (ws' := [(h0, .inr (15, zM th b))]) [3] (by decide) rfl
  have hKc := hK.sub (tys' := []) [] rfl
  have hFc := va_free (wc := [(h0, .inr (15, zM th b))]) hD hS hA [3] rfl
  refine va_calli (va_runV (As := [.int 1]) (rest := []) ⟨hx, hb, hml, hown, hts⟩ (c_X10_goesOn l htr dC dI e0 H.size h0 th b 1) (cwV 1 hts gX10_give_X10_goesOn rfl rfl rfl (by decide +kernel) ⟨Nat.le_of_ble_eq_true rfl, Nat.le_of_ble_eq_true rfl⟩) ⟨fun a U g mk q => by obtain ⟨q0, q1, qP, qK, qD⟩ := q; exact ⟨q0, q1, qP, va_K.moved (u := U) (U := U.calling g mk a) (Vm.Alike.refl U.vm) qK, qD⟩, va_recv hKc hPc (ci := 15) (q0 := 0) rfl rfl, fun U hU hW => ⟨rfl, by rw [hU], by rw [hU]; exact hPc, va_K.moved hW.alike hKc, hDc.weaken (fun _ _ _ _ => trivial)⟩⟩ rfl rfl hl.1 rfl (lv_room (Nat.le_of_ble_eq_true rfl)) dX10_give_183 ⟨Nat.le_of_ble_eq_true rfl, Nat.le_of_ble_eq_true rfl⟩) hS (fun q _ h => hFc q h) hFc (fun r8 u t H1 locs ht hvm hw hB hz1 hk1 hS => ?_)
  obtain ⟨hP1, hK1, hD1⟩ := hB
  rw [ht] at hP1
  obtain ⟨hP, hD⟩ := va_join (wr := [((b 0), .inr (4, [.int 0, .ref e0, .int 0])), ((b 1), .inr (4, [.int 0, .ref e0, .int 0])), ((b 3), .inr (4, [.int 0, .ref e0, .int 0])), ((b 2), .inr (4, [.int 0, .ref e0, .int 0]))]) (w1 := [(h0, .inr (15, zM 1 b))]) hP hD [3] [0, 1, 2, 4] rfl rfl (by decide) (by decide) hk1 hFc hP1 hD1
  generalize H1 = H at hP hS ⊢
  have hP : va_P (dC, dI) vwCl [((b 0), .inr (4, [.int 0, .ref e0, .int 0])), ((b 1), .inr (4, [.int 0, .ref e0, .int 0])), ((b 3), .inr (4, [.int 0, .ref e0, .int 0])), ((b 2), .inr (4, [.int 0, .ref e0, .int 0])), (h0, .inr (15, zM 1 b))] H := hP
  have hD : va_D A [((b 0), .inr (4, [.int 0, .ref e0, .int 0])), ((b 1), .inr (4, [.int 0, .ref e0, .int 0])), ((b 3), .inr (4, [.int 0, .ref e0, .int 0])), ((b 2), .inr (4, [.int 0, .ref e0, .int 0])), (h0, .inr (15, zM 1 b))] := hD
  obtain rfl : r8 = 0 := hw.trans (by decide)
  refine lv_if_ne (tgt := 191) hx hb dX10_give_186 (by decide) (fun c9 => absurd (by decide) c9) (fun _ => ?_)
  refine lv_iconst (v := 0) hx hb dX10_give_189 (by decide) ?_
  have hP9 := hP.sub (ws' := [(h0, .inr (15, zM 1 b))]) [4] rfl
  have hD9 := hD.sub (ws' := [(h0, .inr (15, zM 1 b))]) [4] (by decide) rfl
  have hK9 := hK.sub (tys' := []) [] rfl
  exact W.iret (v := 0) hx hb hr (fun t ht hW => ⟨⟨0, (), rfl, rfl, ⟨by rw [ht]; exact hP9, va_K.moved hW.alike hK9, hD9⟩⟩, hS.F ht⟩) hS.2.2 dX10_give_190

set_option maxRecDepth 20000 in
theorem ggX10_drop_X10_goesOn : GoodIn wsX10_drop wsX10_goesOn := goodIn_r _ [75, 76, 91, 92, 93, 94, 95, 96, 97, 98, 99, 100, 101] (by decide +kernel) (by decide +kernel)
set_option maxRecDepth 20000 in
theorem gX10_drop_X10_goesOn : GoodIn wsX10_drop (wsV RX10 78 RX10 yX10_goesOn wsX10_goesOn) := goodIn_app (goodIn_of _ (by decide +kernel)) ggX10_drop_X10_goesOn
set_option maxRecDepth 20000 in
theorem ggX10_drop_X10_isTeam : GoodIn wsX10_drop wsX10_isTeam := goodIn_r _ [9, 1, 10, 11, 12, 13, 14, 15, 16, 17, 8, 18, 91, 92, 93, 94, 95, 96, 97, 98, 99, 100, 101, 141, 142, 143] (by decide +kernel) (by decide +kernel)
set_option maxRecDepth 20000 in
theorem gX10_drop_X10_isTeam : GoodIn wsX10_drop (wsV RX10 111 RX10 yX10_isTeam wsX10_isTeam) := goodIn_app (goodIn_of _ (by decide +kernel)) ggX10_drop_X10_isTeam
theorem dX10_drop_0 : decode cX10_drop 0 = .ok (.aload_n 0, 1) := by decide +kernel
theorem dX10_drop_1 : decode cX10_drop 1 = .ok (.iload_n 1, 1) := by decide +kernel
theorem dX10_drop_2 : decode cX10_drop 2 = .ok (.invokevirtual 111, 3) := by decide +kernel
theorem dX10_drop_5 : decode cX10_drop 5 = .ok (.ifCond .eq 15, 3) := by decide +kernel
theorem dX10_drop_20 : decode cX10_drop 20 = .ok (.iconst 0, 1) := by decide +kernel
theorem dX10_drop_21 : decode cX10_drop 21 = .ok (.istore_n 3, 1) := by decide +kernel
theorem dX10_drop_22 : decode cX10_drop 22 = .ok (.iload_n 3, 1) := by decide +kernel
theorem dX10_drop_23 : decode cX10_drop 23 = .ok (.ifCond .eq 60, 3) := by decide +kernel
theorem dX10_drop_83 : decode cX10_drop 83 = .ok (.iconst 0, 1) := by decide +kernel
theorem dX10_drop_84 : decode cX10_drop 84 = .ok (.istore 4, 2) := by decide +kernel
theorem dX10_drop_86 : decode cX10_drop 86 = .ok (.aload_n 0, 1) := by decide +kernel
theorem dX10_drop_87 : decode cX10_drop 87 = .ok (.iload_n 3, 1) := by decide +kernel
theorem dX10_drop_88 : decode cX10_drop 88 = .ok (.ifCond .ne 7, 3) := by decide +kernel
theorem dX10_drop_91 : decode cX10_drop 91 = .ok (.iconst 1, 1) := by decide +kernel
theorem dX10_drop_92 : decode cX10_drop 92 = .ok (.goto 13, 3) := by decide +kernel
theorem dX10_drop_105 : decode cX10_drop 105 = .ok (.invokevirtual 78, 3) := by decide +kernel
theorem dX10_drop_108 : decode cX10_drop 108 = .ok (.ifCond .ne 5, 3) := by decide +kernel
theorem dX10_drop_111 : decode cX10_drop 111 = .ok (.iconst 0, 1) := by decide +kernel
theorem dX10_drop_112 : decode cX10_drop 112 = .ok (.ireturn, 1) := by decide +kernel
set_option maxHeartbeats 4000000 in
set_option maxRecDepth 100000 in
theorem c_X10_drop (l : Launch) (htr : l.stackTraces = false) (dC : Nat → ClassId) (dI : Nat → Nat → Nat) (e0 sz : Nat) (h0 : Nat) (th : Int32) (b : Nat → Nat) (p0 : Int32) (p1 : Int32) : Met l yX10_drop wsX10_drop ({ frames := 2, cells := 0, slots := 0, locals := 46 }) (va_Pc [.ref h0, .int p0, .int p1] (fun U => U.heap.size = sz ∧ va_P (dC, dI) vwCl [(h0, .inr (15, zM th b)), ((b 0), .inr (4, [.int 0, .ref e0, .int 0])), ((b 1), .inr (4, [.int 0, .ref e0, .int 0])), ((b 2), .inr (4, [.int 0, .ref e0, .int 0])), ((b 3), .inr (4, [.int 0, .ref e0, .int 0]))] U.heap ∧ va_K (dC, dI) vwCl [] U ∧ va_D (fun _ => True) [(h0, .inr (15, zM th b)), ((b 0), .inr (4, [.int 0, .ref e0, .int 0])), ((b 1), .inr (4, [.int 0, .ref e0, .int 0])), ((b 2), .inr (4, [.int 0, .ref e0, .int 0])), ((b 3), .inr (4, [.int 0, .ref e0, .int 0]))] ∧ zE e0 (va_A [(h0, .inr (15, zM th b)), ((b 0), .inr (4, [.int 0, .ref e0, .int 0])), ((b 1), .inr (4, [.int 0, .ref e0, .int 0])), ((b 2), .inr (4, [.int 0, .ref e0, .int 0])), ((b 3), .inr (4, [.int 0, .ref e0, .int 0]))] sz) U U.heap)) (va_Qi (fun (r : Int32) (_ : Unit) => r = 0) (fun _ t => va_P (dC, dI) vwCl [(h0, .inr (15, zM 1 b))] t.heap ∧ va_K (dC, dI) vwCl [] t ∧ va_D (va_A [(h0, .inr (15, zM th b)), ((b 0), .inr (4, [.int 0, .ref e0, .int 0])), ((b 1), .inr (4, [.int 0, .ref e0, .int 0])), ((b 2), .inr (4, [.int 0, .ref e0, .int 0])), ((b 3), .inr (4, [.int 0, .ref e0, .int 0]))] sz) [(h0, .inr (15, zM 1 b))]) (va_A [(h0, .inr (15, zM th b)), ((b 0), .inr (4, [.int 0, .ref e0, .int 0])), ((b 1), .inr (4, [.int 0, .ref e0, .int 0])), ((b 2), .inr (4, [.int 0, .ref e0, .int 0])), ((b 3), .inr (4, [.int 0, .ref e0, .int 0]))] sz)) 0 0 (va_A [(h0, .inr (15, zM th b)), ((b 0), .inr (4, [.int 0, .ref e0, .int 0])), ((b 1), .inr (4, [.int 0, .ref e0, .int 0])), ((b 2), .inr (4, [.int 0, .ref e0, .int 0])), ((b 3), .inr (4, [.int 0, .ref e0, .int 0]))] sz) := by
  refine Met.ofW (cc := cX10_drop) (maxL := 6) (ret := (some .int)) (by decide) rfl ?_
  intro p e s m args below meth c s₁ B hml hv
  obtain ⟨rfl, hsz, hP, hK, hD0, hE⟩ := hv
  have hx := B.exec
  have hb := B.bytes
  have hr := B.returns
  have hts := atoms_spec (ws := wsX10_drop) B.pre
  have hown : s.vm.findClass RX10 = some m.cls := findClass_of_methodNamed B.named
  have hlocks := B.notSynchronized
  subst hsz
  have hD := hD0.self (sz := s.heap.size)
  generalize hAe : va_A [(h0, .inr (15, zM th b)), ((b 0), .inr (4, [.int 0, .ref e0, .int 0])), ((b 1), .inr (4, [.int 0, .ref e0, .int 0])), ((b 2), .inr (4, [.int 0, .ref e0, .int 0])), ((b 3), .inr (4, [.int 0, .ref e0, .int 0]))] s.heap.size = A at hD hE ⊢
  have hA : ∀ q : Nat, s.heap.size ≤ q → A q := fun q h => by rw [← hAe]; exact Or.inr h
  have hS : va_S A s.heap s.heap [] := va_S.rf
  have hl := lv_entry ([.ref h0, .int p0, .int p1]) (n := 6) (Nat.le_of_ble_eq_true rfl)
  rw [lg_entry_eq]
  generalize (lg_sl ([.ref h0, .int p0, .int p1]) ++ List.replicate (6 - (lg_sl ([.ref h0, .int p0, .int p1])).length) Slot.unset).toArray = ls at hl ⊢
  have hl : lv_has ls 6 [(0, .ref h0), (1, .int p0), (2, .int p1)] := hl
  refine lv_aload_n hx hb dX10_drop_0 rfl (lv_at hl 0 rfl) ?_
  refine lv_iload_n hx hb dX10_drop_1 rfl (lv_at hl 1 rfl) ?_
  have hPc := hP.sub (ws' := [(h0, .inr (15, zM th b)), ((b 2), .inr (4, [.int 0, .ref e0, .int 0]))]) [0, 3] rfl
  have hDc := hD.sub (ws' := [(h0, .inr (15, zM th b)), ((b 2), .inr (4, [.int 0, .ref e0, .int 0]))]) [0, 3] (by decide) rfl
  have hKc := hK.sub (tys' := []) [] rfl
  have hFc := va_free (wc := [(h0, .inr (15, zM th b)), ((b 2), .inr (4, [.int 0, .ref e0, .int 0]))]) hD hS hA [0, 3] rfl
  have hEc := (hE.kept hS.2.1).narrow hFc
  refine va_calli (va_runV (As := [.int p0]) (rest := []) ⟨hx, hb, hml, hown, hts⟩ (c_X10_isTeam l htr dC dI e0 s.heap.size h0 th b p0) (cwV 1 hts gX10_drop_X10_isTeam rfl rfl rfl (by decide +kernel) ⟨Nat.le_of_ble_eq_true rfl, Nat.le_of_ble_eq_true rfl⟩) ⟨fun a U g mk q => by obtain ⟨q0, q1, qP, qK, qD, qE⟩ := q; exact ⟨q0, q1, qP, va_K.moved (u := U) (U := U.calling g mk a) (Vm.Alike.refl U.vm) qK, qD, zE.same rfl qE⟩, va_recv hKc hPc (ci := 15) (q0 := 0) rfl rfl, fun U hU hW => ⟨rfl, by rw [hU], by rw [hU]; exact hPc, va_K.moved hW.alike hKc, hDc.weaken (fun _ _ _ _ => trivial), by rw [hU]; exact zE.warm hW hEc⟩⟩ rfl rfl hl.1 rfl (lv_room (Nat.le_of_ble_eq_true rfl)) dX10_drop_2 ⟨Nat.le_of_ble_eq_true rfl, Nat.le_of_ble_eq_true rfl⟩) hS (fun q _ h => hFc q h) hFc (fun r1 u t H1 locs ht hvm hw hB hz1 hk1 hS => ?_)
  obtain ⟨hP1, hK1, hD1⟩ := hB
  rw [ht] at hP1
  obtain ⟨hP, hD⟩ := va_join (wr := [((b 0), .inr (4, [.int 0, .ref e0, .int 0])), ((b 1), .inr (4, [.int 0, .ref e0, .int 0])), ((b 3), .inr (4, [.int 0, .ref e0, .int 0]))]) (w1 := [(h0, .inr (15, zM th b)), ((b 2), .inr (4, [.int 0, .ref e0, .int 0]))]) hP hD [0, 3] [1, 2, 4] rfl rfl (by decide) (by decide) hk1 hFc hP1 hD1
  generalize H1 = H at hP hS ⊢
  have hP : va_P (dC, dI) vwCl [((b 0), .inr (4, [.int 0, .ref e0, .int 0])), ((b 1), .inr (4, [.int 0, .ref e0, .int 0])), ((b 3), .inr (4, [.int 0, .ref e0, .int 0])), (h0, .inr (15, zM th b)), ((b 2), .inr (4, [.int 0, .ref e0, .int 0]))] H := hP
  have hD : va_D A [((b 0), .inr (4, [.int 0, .ref e0, .int 0])), ((b 1), .inr (4, [.int 0, .ref e0, .int 0])), ((b 3), .inr (4, [.int 0, .ref e0, .int 0])), (h0, .inr (15, zM th b)), ((b 2), .inr (4, [.int 0, .ref e0, .int 0]))] := hD
  obtain rfl : r1 = 0 := hw
  refine lv_if_eq (tgt := 20) hx hb dX10_drop_5 (by decide) (fun _ => ?_) (fun c2 => absurd (by decide) c2)
  refine lv_iconst (v := 0) hx hb dX10_drop_20 (by decide) ?_
  refine lv_istore_n (lv' := [(3, .int 0), (0, .ref h0), (1, .int p0), (2, .int p1)]) hx hb dX10_drop_21 rfl hl (by decide) rfl (fun ls hl => ?_)
  refine lv_iload_n hx hb dX10_drop_22 rfl (lv_at hl 0 rfl) ?_
  refine lv_if_eq (tgt := 83) hx hb dX10_drop_23 (by decide) (fun _ => ?_) (fun c3 => absurd (by decide) c3)
  refine lv_iconst (v := 0) hx hb dX10_drop_83 (by decide) ?_
  refine lv_istore (lv' := [(4, .int 0), (3, .int 0), (0, .ref h0), (1, .int p0), (2, .int p1)]) hx hb dX10_drop_84 hl (by decide) rfl (fun ls hl => ?_)
  refine lv_aload_n hx hb dX10_drop_86 rfl (lv_at hl 2 rfl) ?_
  refine lv_iload_n hx hb dX10_drop_87 rfl (lv_at hl 1 rfl) ?_
  refine lv_if_ne (tgt := 95) hx hb dX10_drop_88 (by decide) (fun c4 => absurd (by decide) c4) (fun _ => ?_)
  refine lv_iconst (v := 1) hx hb dX10_drop_91 (by decide) ?_
  refine lv_goto (tgt := 105) hx hb dX10_drop_92 (by decide) ?_
  have hPc := hP.sub (ws' := [(h0, .inr (15, zM th b))]) [3] rfl
  have hDc := hD.sub (ws' := [(h0, .inr (15, zM th b))]) [3] (by decide) rfl
  have hKc := hK.sub (tys' := []) [] rfl
  have hFc := va_free (wc := [(h0, .inr (15, zM th b))]) hD hS hA [3] rfl
  refine va_calli (va_runV (As := [.int 1]) (rest := []) ⟨hx, hb, hml, hown, hts⟩ (c_X10_goesOn l htr dC dI e0 H.size h0 th b 1) (cwV 1 hts gX10_drop_X10_goesOn rfl rfl rfl (by decide +kernel) ⟨Nat.le_of_ble_eq_true rfl, Nat.le_of_ble_eq_true rfl⟩) ⟨fun a U g mk q => by obtain ⟨q0, q1, qP, qK, qD⟩ := q; exact ⟨q0, q1, qP, va_K.moved (u := U) (U := U.calling g mk a) (Vm.Alike.refl U.vm) qK, qD⟩, va_recv hKc hPc (ci := 15) (q0 := 0) rfl rfl, fun U hU hW => ⟨rfl, by rw [hU], by rw [hU]; exact hPc, va_K.moved hW.alike hKc, hDc.weaken (fun _ _ _ _ => trivial)⟩⟩ rfl rfl hl.1 rfl (lv_room (Nat.le_of_ble_eq_true rfl)) dX10_drop_105 ⟨Nat.le_of_ble_eq_true rfl, Nat.le_of_ble_eq_true rfl⟩) hS (fun q _ h => hFc q h) hFc (fun r5 u t H1 locs ht hvm hw hB hz1 hk1 hS => ?_)
  obtain ⟨hP1, hK1, hD1⟩ := hB
  rw [ht] at hP1
  obtain ⟨hP, hD⟩ := va_join (wr := [((b 0), .inr (4, [.int 0, .ref e0, .int 0])), ((b 1), .inr (4, [.int 0, .ref e0, .int 0])), ((b 3), .inr (4, [.int 0, .ref e0, .int 0])), ((b 2), .inr (4, [.int 0, .ref e0, .int 0]))]) (w1 := [(h0, .inr (15, zM 1 b))]) hP hD [3] [0, 1, 2, 4] rfl rfl (by decide) (by decide) hk1 hFc hP1 hD1
  generalize H1 = H at hP hS ⊢
  have hP : va_P (dC, dI) vwCl [((b 0), .inr (4, [.int 0, .ref e0, .int 0])), ((b 1), .inr (4, [.int 0, .ref e0, .int 0])), ((b 3), .inr (4, [.int 0, .ref e0, .int 0])), ((b 2), .inr (4, [.int 0, .ref e0, .int 0])), (h0, .inr (15, zM 1 b))] H := hP
  have hD : va_D A [((b 0), .inr (4, [.int 0, .ref e0, .int 0])), ((b 1), .inr (4, [.int 0, .ref e0, .int 0])), ((b 3), .inr (4, [.int 0, .ref e0, .int 0])), ((b 2), .inr (4, [.int 0, .ref e0, .int 0])), (h0, .inr (15, zM 1 b))] := hD
  obtain rfl : r5 = 0 := hw.trans (by decide)
  refine lv_if_ne (tgt := 113) hx hb dX10_drop_108 (by decide) (fun c6 => absurd (by decide) c6) (fun _ => ?_)
  refine lv_iconst (v := 0) hx hb dX10_drop_111 (by decide) ?_
  have hP9 := hP.sub (ws' := [(h0, .inr (15, zM 1 b))]) [4] rfl
  have hD9 := hD.sub (ws' := [(h0, .inr (15, zM 1 b))]) [4] (by decide) rfl
  have hK9 := hK.sub (tys' := []) [] rfl
  exact W.iret (v := 0) hx hb hr (fun t ht hW => ⟨⟨0, (), rfl, rfl, ⟨by rw [ht]; exact hP9, va_K.moved hW.alike hK9, hD9⟩⟩, hS.F ht⟩) hS.2.2 dX10_drop_112

set_option maxRecDepth 20000 in
theorem ggX10_scratch_X10_goesOn : GoodIn wsX10_scratch wsX10_goesOn := goodIn_r _ [81, 82, 83, 84, 85, 86, 87, 88, 89, 90, 91, 92, 93] (by decide +kernel) (by decide +kernel)
set_option maxRecDepth 20000 in
theorem gX10_scratch_X10_goesOn : GoodIn wsX10_scratch (wsV RX10 78 RX10 yX10_goesOn wsX10_goesOn) := goodIn_app (goodIn_of _ (by decide +kernel)) ggX10_scratch_X10_goesOn
set_option maxRecDepth 20000 in
theorem ggX10_scratch_X10_isTeam : GoodIn wsX10_scratch wsX10_isTeam := goodIn_r _ [7, 1, 8, 9, 10, 11, 12, 13, 14, 15, 6, 16, 83, 84, 85, 86, 87, 88, 89, 90, 91, 92, 93, 94, 95, 96] (by decide +kernel) (by decide +kernel)
set_option maxRecDepth 20000 in
theorem gX10_scratch_X10_isTeam : GoodIn wsX10_scratch (wsV RX10 111 RX10 yX10_isTeam wsX10_isTeam) := goodIn_app (goodIn_of _ (by decide +kernel)) ggX10_scratch_X10_isTeam
theorem dX10_scratch_0 : decode cX10_scratch 0 = .ok (.aload_n 0, 1) := by decide +kernel
theorem dX10_scratch_1 : decode cX10_scratch 1 = .ok (.iload_n 1, 1) := by decide +kernel
theorem dX10_scratch_2 : decode cX10_scratch 2 = .ok (.invokevirtual 111, 3) := by decide +kernel
theorem dX10_scratch_5 : decode cX10_scratch 5 = .ok (.ifCond .eq 26, 3) := by decide +kernel
theorem dX10_scratch_31 : decode cX10_scratch 31 = .ok (.iconst 0, 1) := by decide +kernel
theorem dX10_scratch_32 : decode cX10_scratch 32 = .ok (.istore_n 2, 1) := by decide +kernel
theorem dX10_scratch_33 : decode cX10_scratch 33 = .ok (.iload_n 2, 1) := by decide +kernel
theorem dX10_scratch_34 : decode cX10_scratch 34 = .ok (.ifCond .eq 21, 3) := by decide +kernel
theorem dX10_scratch_55 : decode cX10_scratch 55 = .ok (.aload_n 0, 1) := by decide +kernel
theorem dX10_scratch_56 : decode cX10_scratch 56 = .ok (.aload_n 0, 1) := by decide +kernel
theorem dX10_scratch_57 : decode cX10_scratch 57 = .ok (.iload_n 1, 1) := by decide +kernel
theorem dX10_scratch_58 : decode cX10_scratch 58 = .ok (.invokevirtual 111, 3) := by decide +kernel
theorem dX10_scratch_61 : decode cX10_scratch 61 = .ok (.ifCond .eq 7, 3) := by decide +kernel
theorem dX10_scratch_68 : decode cX10_scratch 68 = .ok (.iconst 1, 1) := by decide +kernel
theorem dX10_scratch_69 : decode cX10_scratch 69 = .ok (.invokevirtual 78, 3) := by decide +kernel
theorem dX10_scratch_72 : decode cX10_scratch 72 = .ok (.ifCond .eq 11, 3) := by decide +kernel
theorem dX10_scratch_83 : decode cX10_scratch 83 = .ok (.iconst 0, 1) := by decide +kernel
theorem dX10_scratch_84 : decode cX10_scratch 84 = .ok (.ireturn, 1) := by decide +kernel
set_option maxHeartbeats 4000000 in
set_option maxRecDepth 100000 in
theorem c_X10_scratch (l : Launch) (htr : l.stackTraces = false) (dC : Nat → ClassId) (dI : Nat → Nat → Nat) (e0 sz : Nat) (h0 : Nat) (th : Int32) (b : Nat → Nat) (p0 : Int32) : Met l yX10_scratch wsX10_scratch ({ frames := 2, cells := 0, slots := 0, locals := 46 }) (va_Pc [.ref h0, .int p0] (fun U => U.heap.size = sz ∧ va_P (dC, dI) vwCl [(h0, .inr (15, zM th b)), ((b 0), .inr (4, [.int 0, .ref e0, .int 0])), ((b 1), .inr (4, [.int 0, .ref e0, .int 0])), ((b 2), .inr (4, [.int 0, .ref e0, .int 0])), ((b 3), .inr (4, [.int 0, .ref e0, .int 0]))] U.heap ∧ va_K (dC, dI) vwCl [] U ∧ va_D (fun _ => True) [(h0, .inr (15, zM th b)), ((b 0), .inr (4, [.int 0, .ref e0, .int 0])), ((b 1), .inr (4, [.int 0, .ref e0, .int 0])), ((b 2), .inr (4, [.int 0, .ref e0, .int 0])), ((b 3), .inr (4, [.int 0, .ref e0, .int 0]))] ∧ zE e0 (va_A [(h0, .inr (15, zM th b)), ((b 0), .inr (4, [.int 0, .ref e0, .int 0])), ((b 1), .inr (4, [.int 0, .ref e0, .int 0])), ((b 2), .inr (4, [.int 0, .ref e0, .int 0])), ((b 3), .inr (4, [.int 0, .ref e0, .int 0]))] sz) U U.heap)) (va_Qi (fun (r : Int32) (_ : Unit) => r = 0) (fun _ t => va_P (dC, dI) vwCl [(h0, .inr (15, zM 1 b))] t.heap ∧ va_K (dC, dI) vwCl [] t ∧ va_D (va_A [(h0, .inr (15, zM th b)), ((b 0), .inr (4, [.int 0, .ref e0, .int 0])), ((b 1), .inr (4, [.int 0, .ref e0, .int 0])), ((b 2), .inr (4, [.int 0, .ref e0, .int 0])), ((b 3), .inr (4, [.int 0, .ref e0, .int 0]))] sz) [(h0, .inr (15, zM 1 b))]) (va_A [(h0, .inr (15, zM th b)), ((b 0), .inr (4, [.int 0, .ref e0, .int 0])), ((b 1), .inr (4, [.int 0, .ref e0, .int 0])), ((b 2), .inr (4, [.int 0, .ref e0, .int 0])), ((b 3), .inr (4, [.int 0, .ref e0, .int 0]))] sz)) 0 0 (va_A [(h0, .inr (15, zM th b)), ((b 0), .inr (4, [.int 0, .ref e0, .int 0])), ((b 1), .inr (4, [.int 0, .ref e0, .int 0])), ((b 2), .inr (4, [.int 0, .ref e0, .int 0])), ((b 3), .inr (4, [.int 0, .ref e0, .int 0]))] sz) := by
  refine Met.ofW (cc := cX10_scratch) (maxL := 3) (ret := (some .boolean)) (by decide) rfl ?_
  intro p e s m args below meth c s₁ B hml hv
  obtain ⟨rfl, hsz, hP, hK, hD0, hE⟩ := hv
  have hx := B.exec
  have hb := B.bytes
  have hr := B.returns
  have hts := atoms_spec (ws := wsX10_scratch) B.pre
  have hown : s.vm.findClass RX10 = some m.cls := findClass_of_methodNamed B.named
  have hlocks := B.notSynchronized
  subst hsz
  have hD := hD0.self (sz := s.heap.size)
  generalize hAe : va_A [(h0, .inr (15, zM th b)), ((b 0), .inr (4, [.int 0, .ref e0, .int 0])), ((b 1), .inr (4, [.int 0, .ref e0, .int 0])), ((b 2), .inr (4, [.int 0, .ref e0, .int 0])), ((b 3), .inr (4, [.int 0, .ref e0, .int 0]))] s.heap.size = A at hD hE ⊢
  have hA : ∀ q : Nat, s.heap.size ≤ q → A q := fun q h => by rw [← hAe]; exact Or.inr h
  have hS : va_S A s.heap s.heap [] := va_S.rf
  have hl := lv_entry ([.ref h0, .int p0]) (n := 3) (Nat.le_of_ble_eq_true rfl)
  rw [lg_entry_eq]
  generalize (lg_sl ([.ref h0, .int p0]) ++ List.replicate (3 - (lg_sl ([.ref h0, .int p0])).length) Slot.unset).toArray = ls at hl ⊢
  have hl : lv_has ls 3 [(0, .ref h0), (1, .int p0)] := hl
  refine lv_aload_n hx hb dX10_scratch_0 rfl (lv_at hl 0 rfl) ?_
  refine lv_iload_n hx hb dX10_scratch_1 rfl (lv_at hl 1 rfl) ?_
  have hPc := hP.sub (ws' := [(h0, .inr (15, zM th b)), ((b 2), .inr (4, [.int 0, .ref e0, .int 0]))]) [0, 3] rfl
  have hDc := hD.sub (ws' := [(h0, .inr (15, zM th b)), ((b 2), .inr (4, [.int 0, .ref e0, .int 0]))]) [0, 3] (by decide) rfl
  have hKc := hK.sub (tys' := []) [] rfl
  have hFc := va_free (wc := [(h0, .inr (15, zM th b)), ((b 2), .inr (4, [.int 0, .ref e0, .int 0]))]) hD hS hA [0, 3] rfl
  have hEc := (hE.kept hS.2.1).narrow hFc
  refine va_calli (va_runV (As := [.int p0]) (rest := []) ⟨hx, hb, hml, hown, hts⟩ (c_X10_isTeam l htr dC dI e0 s.heap.size h0 th b p0) (cwV 1 hts gX10_scratch_X10_isTeam rfl rfl rfl (by decide +kernel) ⟨Nat.le_of_ble_eq_true rfl, Nat.le_of_ble_eq_true rfl⟩) ⟨fun a U g mk q => by obtain ⟨q0, q1, qP, qK, qD, qE⟩ := q; exact ⟨q0, q1, qP, va_K.moved (u := U) (U := U.calling g mk a) (Vm.Alike.refl U.vm) qK, qD, zE.same rfl qE⟩, va_recv hKc hPc (ci := 15) (q0 := 0) rfl rfl, fun U hU hW => ⟨rfl, by rw [hU], by rw [hU]; exact hPc, va_K.moved hW.alike hKc, hDc.weaken (fun _ _ _ _ => trivial), by rw [hU]; exact zE.warm hW hEc⟩⟩ rfl rfl hl.1 rfl (lv_room (Nat.le_of_ble_eq_true rfl)) dX10_scratch_2 ⟨Nat.le_of_ble_eq_true rfl, Nat.le_of_ble_eq_true rfl⟩) hS (fun q _ h => hFc q h) hFc (fun r1 u t H1 locs ht hvm hw hB hz1 hk1 hS => ?_)
  obtain ⟨hP1, hK1, hD1⟩ := hB
  rw [ht] at hP1
  obtain ⟨hP, hD⟩ := va_join (wr := [((b 0), .inr (4, [.int 0, .ref e0, .int 0])), ((b 1), .inr (4, [.int 0, .ref e0, .int 0])), ((b 3), .inr (4, [.int 0, .ref e0, .int 0]))]) (w1 := [(h0, .inr (15, zM th b)), ((b 2), .inr (4, [.int 0, .ref e0, .int 0]))]) hP hD [0, 3] [1, 2, 4] rfl rfl (by decide) (by decide) hk1 hFc hP1 hD1
  generalize H1 = H at hP hS ⊢
  have hP : va_P (dC, dI) vwCl [((b 0), .inr (4, [.int 0, .ref e0, .int 0])), ((b 1), .inr (4, [.int 0, .ref e0, .int 0])), ((b 3), .inr (4, [.int 0, .ref e0, .int 0])), (h0, .inr (15, zM th b)), ((b 2), .inr (4, [.int 0, .ref e0, .int 0]))] H := hP
  have hD : va_D A [((b 0), .inr (4, [.int 0, .ref e0, .int 0])), ((b 1), .inr (4, [.int 0, .ref e0, .int 0])), ((b 3), .inr (4, [.int 0, .ref e0, .int 0])), (h0, .inr (15, zM th b)), ((b 2), .inr (4, [.int 0, .ref e0, .int 0]))] := hD
  obtain rfl : r1 = 0 := hw
  refine lv_if_eq (tgt := 31) hx hb dX10_scratch_5 (by decide) (fun _ => ?_) (fun c2 => absurd (by decide) c2)
  refine lv_iconst (v := 0) hx hb dX10_scratch_31 (by decide) ?_
  refine lv_istore_n (lv' := [(2, .int 0), (0, .ref h0), (1, .int p0)]) hx hb dX10_scratch_32 rfl hl (by decide) rfl (fun ls hl => ?_)
  refine lv_iload_n hx hb dX10_scratch_33 rfl (lv_at hl 0 rfl) ?_
  refine lv_if_eq (tgt := 55) hx hb dX10_scratch_34 (by decide) (fun _ => ?_) (fun c3 => absurd (by decide) c3)
  refine lv_aload_n hx hb dX10_scratch_55 rfl (lv_at hl 1 rfl) ?_
  refine lv_aload_n hx hb dX10_scratch_56 rfl (lv_at hl 1 rfl) ?_
  refine lv_iload_n hx hb dX10_scratch_57 rfl (lv_at hl 2 rfl) ?_
  have hPc := hP.sub (ws' := [(h0, .inr (15, zM th b)), ((b 2), .inr (4, [.int 0, .ref e0, .int 0]))]) [3, 4] rfl
  have hDc := hD.sub (ws' := [(h0, .inr (15, zM th b)), ((b 2), .inr (4, [.int 0, .ref e0, .int 0]))]) [3, 4] (by decide) rfl
  have hKc := hK.sub (tys' := []) [] rfl
  have hFc := va_free (wc := [(h0, .inr (15, zM th b)), ((b 2), .inr (4, [.int 0, .ref e0, .int 0]))]) hD hS hA [3, 4] rfl
  have hEc := (hE.kept hS.2.1).narrow hFc
  refine va_calli (va_runV (As := [.int p0]) (rest := [.ref h0]) ⟨hx, hb, hml, hown, hts⟩ (c_X10_isTeam l htr dC dI e0 H.size h0 th b p0) (cwV 1 hts gX10_scratch_X10_isTeam rfl rfl rfl (by decide +kernel) ⟨Nat.le_of_ble_eq_true rfl, Nat.le_of_ble_eq_true rfl⟩) ⟨fun a U g mk q => by obtain ⟨q0, q1, qP, qK, qD, qE⟩ := q; exact ⟨q0, q1, qP, va_K.moved (u := U) (U := U.calling g mk a) (Vm.Alike.refl U.vm) qK, qD, zE.same rfl qE⟩, va_recv hKc hPc (ci := 15) (q0 := 0) rfl rfl, fun U hU hW => ⟨rfl, by rw [hU], by rw [hU]; exact hPc, va_K.moved hW.alike hKc, hDc.weaken (fun _ _ _ _ => trivial), by rw [hU]; exact zE.warm hW hEc⟩⟩ rfl rfl hl.1 rfl (lv_room (Nat.le_of_ble_eq_true rfl)) dX10_scratch_58 ⟨Nat.le_of_ble_eq_true rfl, Nat.le_of_ble_eq_true rfl⟩) hS (fun q _ h => hFc q h) hFc (fun r4 u t H1 locs ht hvm hw hB hz1 hk1 hS => ?_)
  obtain ⟨hP1, hK1, hD1⟩ := hB
  rw [ht] at hP1
  obtain ⟨hP, hD⟩ := va_join (wr := [((b 0), .inr (4, [.int 0, .ref e0, .int 0])), ((b 1), .inr (4, [.int 0, .ref e0, .int 0])), ((b 3), .inr (4, [.int 0, .ref e0, .int 0]))]) (w1 := [(h0, .inr (15, zM th b)), ((b 2), .inr (4, [.int 0, .ref e0, .int 0]))]) hP hD [3, 4] [0, 1, 2] rfl rfl (by decide) (by decide) hk1 hFc hP1 hD1
  generalize H1 = H at hP hS ⊢
  have hP : va_P (dC, dI) vwCl [((b 0), .inr (4, [.int 0, .ref e0, .int 0])), ((b 1), .inr (4, [.int 0, .ref e0, .int 0])), ((b 3), .inr (4, [.int 0, .ref e0, .int 0])), (h0, .inr (15, zM th b)), ((b 2), .inr (4, [.int 0, .ref e0, .int 0]))] H := hP
  have hD : va_D A [((b 0), .inr (4, [.int 0, .ref e0, .int 0])), ((b 1), .inr (4, [.int 0, .ref e0, .int 0])), ((b 3), .inr (4, [.int 0, .ref e0, .int 0])), (h0, .inr (15, zM th b)), ((b 2), .inr (4, [.int 0, .ref e0, .int 0]))] := hD
  obtain rfl : r4 = 0 := hw
  refine lv_if_eq (tgt := 68) hx hb dX10_scratch_61 (by decide) (fun _ => ?_) (fun c5 => absurd (by decide) c5)
  refine lv_iconst (v := 1) hx hb dX10_scratch_68 (by decide) ?_
  have hPc := hP.sub (ws' := [(h0, .inr (15, zM th b))]) [3] rfl
  have hDc := hD.sub (ws' := [(h0, .inr (15, zM th b))]) [3] (by decide) rfl
  have hKc := hK.sub (tys' := []) [] rfl
  have hFc := va_free (wc := [(h0, .inr (15, zM th b))]) hD hS hA [3] rfl
  refine va_calli (va_runV (As := [.int 1]) (rest := []) ⟨hx, hb, hml, hown, hts⟩ (c_X10_goesOn l htr dC dI e0 H.size h0 th b 1) (cwV 1 hts gX10_scratch_X10_goesOn rfl rfl rfl (by decide +kernel) ⟨Nat.le_of_ble_eq_true rfl, Nat.le_of_ble_eq_true rfl⟩) ⟨fun a U g mk q => by obtain ⟨q0, q1, qP, qK, qD⟩ := q; exact ⟨q0, q1, qP, va_K.moved (u := U) (U := U.calling g mk a) (Vm.Alike.refl U.vm) qK, qD⟩, va_recv hKc hPc (ci := 15) (q0 := 0) rfl rfl, fun U hU hW => ⟨rfl, by rw [hU], by rw [hU]; exact hPc, va_K.moved hW.alike hKc, hDc.weaken (fun _ _ _ _ => trivial)⟩⟩ rfl rfl hl.1 rfl (lv_room (Nat.le_of_ble_eq_true rfl)) dX10_scratch_69 ⟨Nat.le_of_ble_eq_true rfl, Nat.le_of_ble_eq_true rfl⟩) hS (fun q _ h => hFc q h) hFc (fun r6 u t H1 locs ht hvm hw hB hz1 hk1 hS => ?_)
  obtain ⟨hP1, hK1, hD1⟩ := hB
  rw [ht] at hP1
  obtain ⟨hP, hD⟩ := va_join (wr := [((b 0), .inr (4, [.int 0, .ref e0, .int 0])), ((b 1), .inr (4, [.int 0, .ref e0, .int 0])), ((b 3), .inr (4, [.int 0, .ref e0, .int 0])), ((b 2), .inr (4, [.int 0, .ref e0, .int 0]))]) (w1 := [(h0, .inr (15, zM 1 b))]) hP hD [3] [0, 1, 2, 4] rfl rfl (by decide) (by decide) hk1 hFc hP1 hD1
  generalize H1 = H at hP hS ⊢
  have hP : va_P (dC, dI) vwCl [((b 0), .inr (4, [.int 0, .ref e0, .int 0])), ((b 1), .inr (4, [.int 0, .ref e0, .int 0])), ((b 3), .inr (4, [.int 0, .ref e0, .int 0])), ((b 2), .inr (4, [.int 0, .ref e0, .int 0])), (h0, .inr (15, zM 1 b))] H := hP
  have hD : va_D A [((b 0), .inr (4, [.int 0, .ref e0, .int 0])), ((b 1), .inr (4, [.int 0, .ref e0, .int 0])), ((b 3), .inr (4, [.int 0, .ref e0, .int 0])), ((b 2), .inr (4, [.int 0, .ref e0, .int 0])), (h0, .inr (15, zM 1 b))] := hD
  obtain rfl : r6 = 0 := hw.trans (by decide)
  refine lv_if_eq (tgt := 83) hx hb dX10_scratch_72 (by decide) (fun _ => ?_) (fun c7 => absurd (by decide) c7)
  refine lv_iconst (v := 0) hx hb dX10_scratch_83 (by decide) ?_
  have hP9 := hP.sub (ws' := [(h0, .inr (15, zM 1 b))]) [4] rfl
  have hD9 := hD.sub (ws' := [(h0, .inr (15, zM 1 b))]) [4] (by decide) rfl
  have hK9 := hK.sub (tys' := []) [] rfl
  exact W.zret (v := 0) hx hb hr (by decide) (fun t ht hW => ⟨⟨0, (), rfl, rfl, ⟨by rw [ht]; exact hP9, va_K.moved hW.alike hK9, hD9⟩⟩, hS.F ht⟩) hS.2.2 dX10_scratch_84

set_option maxRecDepth 20000 in
theorem ggX10_order_X10_goesOn : GoodIn wsX10_order wsX10_goesOn := goodIn_r _ [132, 133, 182, 183, 184, 185, 186, 187, 188, 189, 190, 191, 192] (by decide +kernel) (by decide +kernel)
set_option maxRecDepth 20000 in
theorem gX10_order_X10_goesOn : GoodIn wsX10_order (wsV RX10 78 RX10 yX10_goesOn wsX10_goesOn) := goodIn_app (goodIn_of _ (by decide +kernel)) ggX10_order_X10_goesOn
set_option maxRecDepth 20000 in
theorem ggX10_order_X10_isTeam : GoodIn wsX10_order wsX10_isTeam := goodIn_r _ [8, 1, 9, 10, 11, 12, 13, 14, 15, 16, 7, 17, 182, 183, 184, 185, 186, 187, 188, 189, 190, 191, 192, 215, 216, 217] (by decide +kernel) (by decide +kernel)
set_option maxRecDepth 20000 in
theorem gX10_order_X10_isTeam : GoodIn wsX10_order (wsV RX10 111 RX10 yX10_isTeam wsX10_isTeam) := goodIn_app (goodIn_of _ (by decide +kernel)) ggX10_order_X10_isTeam
theorem dX10_order_0 : decode cX10_order 0 = .ok (.aload_n 0, 1) := by decide +kernel
theorem dX10_order_1 : decode cX10_order 1 = .ok (.iload_n 1, 1) := by decide +kernel
theorem dX10_order_2 : decode cX10_order 2 = .ok (.invokevirtual 111, 3) := by decide +kernel
theorem dX10_order_5 : decode cX10_order 5 = .ok (.istore 4, 2) := by decide +kernel
theorem dX10_order_7 : decode cX10_order 7 = .ok (.aload_n 0, 1) := by decide +kernel
theorem dX10_order_8 : decode cX10_order 8 = .ok (.iload 4, 2) := by decide +kernel
theorem dX10_order_10 : decode cX10_order 10 = .ok (.ifCond .ne 7, 3) := by decide +kernel
theorem dX10_order_13 : decode cX10_order 13 = .ok (.iconst 1, 1) := by decide +kernel
theorem dX10_order_14 : decode cX10_order 14 = .ok (.goto 46, 3) := by decide +kernel
theorem dX10_order_60 : decode cX10_order 60 = .ok (.invokevirtual 78, 3) := by decide +kernel
theorem dX10_order_63 : decode cX10_order 63 = .ok (.ifCond .ne 5, 3) := by decide +kernel
theorem dX10_order_66 : decode cX10_order 66 = .ok (.iconst 0, 1) := by decide +kernel
theorem dX10_order_67 : decode cX10_order 67 = .ok (.ireturn, 1) := by decide +kernel
set_option maxHeartbeats 4000000 in
set_option maxRecDepth 100000 in
theorem c_X10_order (l : Launch) (htr : l.stackTraces = false) (dC : Nat → ClassId) (dI : Nat → Nat → Nat) (e0 sz : Nat) (h0 : Nat) (th : Int32) (b : Nat → Nat) (p0 : Int32) (p1 : Int32) (p2 : Int32) : Met l yX10_order wsX10_order ({ frames := 2, cells := 0, slots := 0, locals := 46 }) (va_Pc [.ref h0, .int p0, .int p1, .int p2] (fun U => U.heap.size = sz ∧ va_P (dC, dI) vwCl [(h0, .inr (15, zM th b)), ((b 0), .inr (4, [.int 0, .ref e0, .int 0])), ((b 1), .inr (4, [.int 0, .ref e0, .int 0])), ((b 2), .inr (4, [.int 0, .ref e0, .int 0])), ((b 3), .inr (4, [.int 0, .ref e0, .int 0]))] U.heap ∧ va_K (dC, dI) vwCl [] U ∧ va_D (fun _ => True) [(h0, .inr (15, zM th b)), ((b 0), .inr (4, [.int 0, .ref e0, .int 0])), ((b 1), .inr (4, [.int 0, .ref e0, .int 0])), ((b 2), .inr (4, [.int 0, .ref e0, .int 0])), ((b 3), .inr (4, [.int 0, .ref e0, .int 0]))] ∧ zE e0 (va_A [(h0, .inr (15, zM th b)), ((b 0), .inr (4, [.int 0, .ref e0, .int 0])), ((b 1), .inr (4, [.int 0, .ref e0, .int 0])), ((b 2), .inr (4, [.int 0, .ref e0, .int 0])), ((b 3), .inr (4, [.int 0, .ref e0, .int 0]))] sz) U U.heap)) (va_Qi (fun (r : Int32) (_ : Unit) => r = 0) (fun _ t => va_P (dC, dI) vwCl [(h0, .inr (15, zM 1 b))] t.heap ∧ va_K (dC, dI) vwCl [] t ∧ va_D (va_A [(h0, .inr (15, zM th b)), ((b 0), .inr (4, [.int 0, .ref e0, .int 0])), ((b 1), .inr (4, [.int 0, .ref e0, .int 0])), ((b 2), .inr (4, [.int 0, .ref e0, .int 0])), ((b 3), .inr (4, [.int 0, .ref e0, .int 0]))] sz) [(h0, .inr (15, zM 1 b))]) (va_A [(h0, .inr (15, zM th b)), ((b 0), .inr (4, [.int 0, .ref e0, .int 0])), ((b 1), .inr (4, [.int 0, .ref e0, .int 0])), ((b 2), .inr (4, [.int 0, .ref e0, .int 0])), ((b 3), .inr (4, [.int 0, .ref e0, .int 0]))] sz)) 0 0 (va_A [(h0, .inr (15, zM th b)), ((b 0), .inr (4, [.int 0, .ref e0, .int 0])), ((b 1), .inr (4, [.int 0, .ref e0, .int 0])), ((b 2), .inr (4, [.int 0, .ref e0, .int 0])), ((b 3), .inr (4, [.int 0, .ref e0, .int 0]))] sz) := by
  refine Met.ofW (cc := cX10_order) (maxL := 5) (ret := (some .int)) (by decide) rfl ?_
  intro p e s m args below meth c s₁ B hml hv
  obtain ⟨rfl, hsz, hP, hK, hD0, hE⟩ := hv
  have hx := B.exec
  have hb := B.bytes
  have hr := B.returns
  have hts := atoms_spec (ws := wsX10_order) B.pre
  have hown : s.vm.findClass RX10 = some m.cls := findClass_of_methodNamed B.named
  have hlocks := B.notSynchronized
  subst hsz
  have hD := hD0.self (sz := s.heap.size)
  generalize hAe : va_A [(h0, .inr (15, zM th b)), ((b 0), .inr (4, [.int 0, .ref e0, .int 0])), ((b 1), .inr (4, [.int 0, .ref e0, .int 0])), ((b 2), .inr (4, [.int 0, .ref e0, .int 0])), ((b 3), .inr (4, [.int 0, .ref e0, .int 0]))] s.heap.size = A at hD hE ⊢
  have hA : ∀ q : Nat, s.heap.size ≤ q → A q := fun q h => by rw [← hAe]; exact Or.inr h
  have hS : va_S A s.heap s.heap [] := va_S.rf
  have hl := lv_entry ([.ref h0, .int p0, .int p1, .int p2]) (n := 5) (Nat.le_of_ble_eq_true rfl)
  rw [lg_entry_eq]
  generalize (lg_sl ([.ref h0, .int p0, .int p1, .int p2]) ++ List.replicate (5 - (lg_sl ([.ref h0, .int p0, .int p1, .int p2])).length) Slot.unset).toArray = ls at hl ⊢
  have hl : lv_has ls 5 [(0, .ref h0), (1, .int p0), (2, .int p1), (3, .int p2)] := hl
  refine lv_aload_n hx hb dX10_order_0 rfl (lv_at hl 0 rfl) ?_
  refine lv_iload_n hx hb dX10_order_1 rfl (lv_at hl 1 rfl) ?_
  have hPc := hP.sub (ws' := [(h0, .inr (15, zM th b)), ((b 2), .inr (4, [.int 0, .ref e0, .int 0]))]) [0, 3] rfl
  have hDc := hD.sub (ws' := [(h0, .inr (15, zM th b)), ((b 2), .inr (4, [.int 0, .ref e0, .int 0]))]) [0, 3] (by decide) rfl
  have hKc := hK.sub (tys' := []) [] rfl
  have hFc := va_free (wc := [(h0, .inr (15, zM th b)), ((b 2), .inr (4, [.int 0, .ref e0, .int 0]))]) hD hS hA [0, 3] rfl
  have hEc := (hE.kept hS.2.1).narrow hFc
  refine va_calli (va_runV (As := [.int p0]) (rest := []) ⟨hx, hb, hml, hown, hts⟩ (c_X10_isTeam l htr dC dI e0 s.heap.size h0 th b p0) (cwV 1 hts gX10_order_X10_isTeam rfl rfl rfl (by decide +kernel) ⟨Nat.le_of_ble_eq_true rfl, Nat.le_of_ble_eq_true rfl⟩) ⟨fun a U g mk q => by obtain ⟨q0, q1, qP, qK, qD, qE⟩ := q; exact ⟨q0, q1, qP, va_K.moved (u := U) (U := U.calling g mk a) (Vm.Alike.refl U.vm) qK, qD, zE.same rfl qE⟩, va_recv hKc hPc (ci := 15) (q0 := 0) rfl rfl, fun U hU hW => ⟨rfl, by rw [hU], by rw [hU]; exact hPc, va_K.moved hW.alike hKc, hDc.weaken (fun _ _ _ _ => trivial), by rw [hU]; exact zE.warm hW hEc⟩⟩ rfl rfl hl.1 rfl (lv_room (Nat.le_of_ble_eq_true rfl)) dX10_order_2 ⟨Nat.le_of_ble_eq_true rfl, Nat.le_of_ble_eq_true rfl⟩) hS (fun q _ h => hFc q h) hFc (fun r1 u t H1 locs ht hvm hw hB hz1 hk1 hS => ?_)
  obtain ⟨hP1, hK1, hD1⟩ := hB
  rw [ht] at hP1
  obtain ⟨hP, hD⟩ := va_join (wr := [((b 0), .inr (4, [.int 0, .ref e0, .int 0])), ((b 1), .inr (4, [.int 0, .ref e0, .int 0])), ((b 3), .inr (4, [.int 0, .ref e0, .int 0]))]) (w1 := [(h0, .inr (15, zM th b)), ((b 2), .inr (4, [.int 0, .ref e0, .int 0]))]) hP hD [0, 3] [1, 2, 4] rfl rfl (by decide) (by decide) hk1 hFc hP1 hD1
  generalize H1 = H at hP hS ⊢
  have hP : va_P (dC, dI) vwCl [((b 0), .inr (4, [.int 0, .ref e0, .int 0])), ((b 1), .inr (4, [.int 0, .ref e0, .int 0])), ((b 3), .inr (4, [.int 0, .ref e0, .int 0])), (h0, .inr (15, zM th b)), ((b 2), .inr (4, [.int 0, .ref e0, .int 0]))] H := hP
  have hD : va_D A [((b 0), .inr (4, [.int 0, .ref e0, .int 0])), ((b 1), .inr (4, [.int 0, .ref e0, .int 0])), ((b 3), .inr (4, [.int 0, .ref e0, .int 0])), (h0, .inr (15, zM th b)), ((b 2), .inr (4, [.int 0, .ref e0, .int 0]))] := hD
  obtain rfl : r1 = 0 := hw
  refine lv_istore (lv' := [(4, .int 0), (0, .ref h0), (1, .int p0), (2, .int p1), (3, .int p2)]) hx hb dX10_order_5 hl (by decide) rfl (fun ls hl => ?_)
  refine lv_aload_n hx hb dX10_order_7 rfl (lv_at hl 1 rfl) ?_
  refine lv_iload hx hb dX10_order_8 (lv_at hl 0 rfl) ?_
  refine lv_if_ne (tgt := 17) hx hb dX10_order_10 (by decide) (fun c2 => absurd (by decide) c2) (fun _ => ?_)
  refine lv_iconst (v := 1) hx hb dX10_order_13 (by decide) ?_
  refine lv_goto (tgt := 60) hx hb dX10_order_14 (by decide) ?_
  have hPc := hP.sub (ws' := [(h0, .inr (15, zM th b))]) [3] rfl
  have hDc := hD.sub (ws' := [(h0, .inr (15, zM th b))]) [3] (by decide) rfl
  have hKc := hK.sub (tys' := []) [] rfl
  have hFc := va_free (wc := [(h0, .inr (15, zM th b))]) hD hS hA [3] rfl
  refine va_calli (va_runV (As := [.int 1]) (rest := []) ⟨hx, hb, hml, hown, hts⟩ (c_X10_goesOn l htr dC dI e0 H.size h0 th b 1) (cwV 1 hts gX10_order_X10_goesOn rfl rfl rfl (by decide +kernel) ⟨Nat.le_of_ble_eq_true rfl, Nat.le_of_ble_eq_true rfl⟩) ⟨fun a U g mk q => by obtain ⟨q0, q1, qP, qK, qD⟩ := q; exact ⟨q0, q1, qP, va_K.moved (u := U) (U := U.calling g mk a) (Vm.Alike.refl U.vm) qK, qD⟩, va_recv hKc hPc (ci := 15) (q0 := 0) rfl rfl, fun U hU hW => ⟨rfl, by rw [hU], by rw [hU]; exact hPc, va_K.moved hW.alike hKc, hDc.weaken (fun _ _ _ _ => trivial)⟩⟩ rfl rfl hl.1 rfl (lv_room (Nat.le_of_ble_eq_true rfl)) dX10_order_60 ⟨Nat.le_of_ble_eq_true rfl, Nat.le_of_ble_eq_true rfl⟩) hS (fun q _ h => hFc q h) hFc (fun r3 u t H1 locs ht hvm hw hB hz1 hk1 hS => ?_)
  obtain ⟨hP1, hK1, hD1⟩ := hB
  rw [ht] at hP1
  obtain ⟨hP, hD⟩ := va_join (wr := [((b 0), .inr (4, [.int 0, .ref e0, .int 0])), ((b 1), .inr (4, [.int 0, .ref e0, .int 0])), ((b 3), .inr (4, [.int 0, .ref e0, .int 0])), ((b 2), .inr (4, [.int 0, .ref e0, .int 0]))]) (w1 := [(h0, .inr (15, zM 1 b))]) hP hD [3] [0, 1, 2, 4] rfl rfl (by decide) (by decide) hk1 hFc hP1 hD1
  generalize H1 = H at hP hS ⊢
  have hP : va_P (dC, dI) vwCl [((b 0), .inr (4, [.int 0, .ref e0, .int 0])), ((b 1), .inr (4, [.int 0, .ref e0, .int 0])), ((b 3), .inr (4, [.int 0, .ref e0, .int 0])), ((b 2), .inr (4, [.int 0, .ref e0, .int 0])), (h0, .inr (15, zM 1 b))] H := hP
  have hD : va_D A [((b 0), .inr (4, [.int 0, .ref e0, .int 0])), ((b 1), .inr (4, [.int 0, .ref e0, .int 0])), ((b 3), .inr (4, [.int 0, .ref e0, .int 0])), ((b 2), .inr (4, [.int 0, .ref e0, .int 0])), (h0, .inr (15, zM 1 b))] := hD
  obtain rfl : r3 = 0 := hw.trans (by decide)
  refine lv_if_ne (tgt := 68) hx hb dX10_order_63 (by decide) (fun c4 => absurd (by decide) c4) (fun _ => ?_)
  refine lv_iconst (v := 0) hx hb dX10_order_66 (by decide) ?_
  have hP9 := hP.sub (ws' := [(h0, .inr (15, zM 1 b))]) [4] rfl
  have hD9 := hD.sub (ws' := [(h0, .inr (15, zM 1 b))]) [4] (by decide) rfl
  have hK9 := hK.sub (tys' := []) [] rfl
  exact W.iret (v := 0) hx hb hr (fun t ht hW => ⟨⟨0, (), rfl, rfl, ⟨by rw [ht]; exact hP9, va_K.moved hW.alike hK9, hD9⟩⟩, hS.F ht⟩) hS.2.2 dX10_order_67

set_option maxRecDepth 20000 in
theorem ggX10_clear_X10_goesOn : GoodIn wsX10_clear wsX10_goesOn := goodIn_r _ [20, 21, 45, 46, 47, 48, 49, 50, 51, 52, 53, 54, 55] (by decide +kernel) (by decide +kernel)
set_option maxRecDepth 20000 in
theorem gX10_clear_X10_goesOn : GoodIn wsX10_clear (wsV RX10 78 RX10 yX10_goesOn wsX10_goesOn) := goodIn_app (goodIn_of _ (by decide +kernel)) ggX10_clear_X10_goesOn
set_option maxRecDepth 20000 in
theorem ggX10_clear_X10_isTeam : GoodIn wsX10_clear wsX10_isTeam := goodIn_r _ [7, 1, 8, 9, 10, 11, 12, 13, 14, 15, 6, 16, 45, 46, 47, 48, 49, 50, 51, 52, 53, 54, 55, 78, 79, 80] (by decide +kernel) (by decide +kernel)
set_option maxRecDepth 20000 in
theorem gX10_clear_X10_isTeam : GoodIn wsX10_clear (wsV RX10 111 RX10 yX10_isTeam wsX10_isTeam) := goodIn_app (goodIn_of _ (by decide +kernel)) ggX10_clear_X10_isTeam
theorem dX10_clear_0 : decode cX10_clear 0 = .ok (.aload_n 0, 1) := by decide +kernel
theorem dX10_clear_1 : decode cX10_clear 1 = .ok (.aload_n 0, 1) := by decide +kernel
theorem dX10_clear_2 : decode cX10_clear 2 = .ok (.iload_n 1, 1) := by decide +kernel
theorem dX10_clear_3 : decode cX10_clear 3 = .ok (.invokevirtual 111, 3) := by decide +kernel
theorem dX10_clear_6 : decode cX10_clear 6 = .ok (.ifCond .eq 7, 3) := by decide +kernel
theorem dX10_clear_13 : decode cX10_clear 13 = .ok (.iconst 1, 1) := by decide +kernel
theorem dX10_clear_14 : decode cX10_clear 14 = .ok (.invokevirtual 78, 3) := by decide +kernel
theorem dX10_clear_17 : decode cX10_clear 17 = .ok (.ifCond .ne 5, 3) := by decide +kernel
theorem dX10_clear_20 : decode cX10_clear 20 = .ok (.iconst 0, 1) := by decide +kernel
theorem dX10_clear_21 : decode cX10_clear 21 = .ok (.ireturn, 1) := by decide +kernel
set_option maxHeartbeats 4000000 in
set_option maxRecDepth 100000 in
theorem c_X10_clear (l : Launch) (htr : l.stackTraces = false) (dC : Nat → ClassId) (dI : Nat → Nat → Nat) (e0 sz : Nat) (h0 : Nat) (th : Int32) (b : Nat → Nat) (p0 : Int32) : Met l yX10_clear wsX10_clear ({ frames := 2, cells := 0, slots := 0, locals := 46 }) (va_Pc [.ref h0, .int p0] (fun U => U.heap.size = sz ∧ va_P (dC, dI) vwCl [(h0, .inr (15, zM th b)), ((b 0), .inr (4, [.int 0, .ref e0, .int 0])), ((b 1), .inr (4, [.int 0, .ref e0, .int 0])), ((b 2), .inr (4, [.int 0, .ref e0, .int 0])), ((b 3), .inr (4, [.int 0, .ref e0, .int 0]))] U.heap ∧ va_K (dC, dI) vwCl [] U ∧ va_D (fun _ => True) [(h0, .inr (15, zM th b)), ((b 0), .inr (4, [.int 0, .ref e0, .int 0])), ((b 1), .inr (4, [.int 0, .ref e0, .int 0])), ((b 2), .inr (4, [.int 0, .ref e0, .int 0])), ((b 3), .inr (4, [.int 0, .ref e0, .int 0]))] ∧ zE e0 (va_A [(h0, .inr (15, zM th b)), ((b 0), .inr (4, [.int 0, .ref e0, .int 0])), ((b 1), .inr (4, [.int 0, .ref e0, .int 0])), ((b 2), .inr (4, [.int 0, .ref e0, .int 0])), ((b 3), .inr (4, [.int 0, .ref e0, .int 0]))] sz) U U.heap)) (va_Qi (fun (r : Int32) (_ : Unit) => r = 0) (fun _ t => va_P (dC, dI) vwCl [(h0, .inr (15, zM 1 b))] t.heap ∧ va_K (dC, dI) vwCl [] t ∧ va_D (va_A [(h0, .inr (15, zM th b)), ((b 0), .inr (4, [.int 0, .ref e0, .int 0])), ((b 1), .inr (4, [.int 0, .ref e0, .int 0])), ((b 2), .inr (4, [.int 0, .ref e0, .int 0])), ((b 3), .inr (4, [.int 0, .ref e0, .int 0]))] sz) [(h0, .inr (15, zM 1 b))]) (va_A [(h0, .inr (15, zM th b)), ((b 0), .inr (4, [.int 0, .ref e0, .int 0])), ((b 1), .inr (4, [.int 0, .ref e0, .int 0])), ((b 2), .inr (4, [.int 0, .ref e0, .int 0])), ((b 3), .inr (4, [.int 0, .ref e0, .int 0]))] sz)) 0 0 (va_A [(h0, .inr (15, zM th b)), ((b 0), .inr (4, [.int 0, .ref e0, .int 0])), ((b 1), .inr (4, [.int 0, .ref e0, .int 0])), ((b 2), .inr (4, [.int 0, .ref e0, .int 0])), ((b 3), .inr (4, [.int 0, .ref e0, .int 0]))] sz) := by
  refine Met.ofW (cc := cX10_clear) (maxL := 3) (ret := (some .int)) (by decide) rfl ?_
  intro p e s m args below meth c s₁ B hml hv
  obtain ⟨rfl, hsz, hP, hK, hD0, hE⟩ := hv
  have hx := B.exec
  have hb := B.bytes
  have hr := B.returns
  have hts := atoms_spec (ws := wsX10_clear) B.pre
  have hown : s.vm.findClass RX10 = some m.cls := findClass_of_methodNamed B.named
  have hlocks := B.notSynchronized
  subst hsz
  have hD := hD0.self (sz := s.heap.size)
  generalize hAe : va_A [(h0, .inr (15, zM th b)), ((b 0), .inr (4, [.int 0, .ref e0, .int 0])), ((b 1), .inr (4, [.int 0, .ref e0, .int 0])), ((b 2), .inr (4, [.int 0, .ref e0, .int 0])), ((b 3), .inr (4, [.int 0, .ref e0, .int 0]))] s.heap.size = A at hD hE ⊢
  have hA : ∀ q : Nat, s.heap.size ≤ q → A q := fun q h => by rw [← hAe]; exact Or.inr h
  have hS : va_S A s.heap s.heap [] := va_S.rf
  have hl := lv_entry ([.ref h0, .int p0]) (n := 3) (Nat.le_of_ble_eq_true rfl)
  rw [lg_entry_eq]
  generalize (lg_sl ([.ref h0, .int p0]) ++ List.replicate (3 - (lg_sl ([.ref h0, .int p0])).length) Slot.unset).toArray = ls at hl ⊢
  have hl : lv_has ls 3 [(0, .ref h0), (1, .int p0)] := hl
  refine lv_aload_n hx hb dX10_clear_0 rfl (lv_at hl 0 rfl) ?_
  refine lv_aload_n hx hb dX10_clear_1 rfl (lv_at hl 0 rfl) ?_
  refine lv_iload_n hx hb dX10_clear_2 rfl (lv_at hl 1 rfl) ?_
  have hPc := hP.sub (ws' := [(h0, .inr (15, zM th b)), ((b 2), .inr (4, [.int 0, .ref e0, .int 0]))]) [0, 3] rfl
  have hDc := hD.sub (ws' := [(h0, .inr (15, zM th b)), ((b 2), .inr (4, [.int 0, .ref e0, .int 0]))]) [0, 3] (by decide) rfl
  have hKc := hK.sub (tys' := []) [] rfl
  have hFc := va_free (wc := [(h0, .inr (15, zM th b)), ((b 2), .inr (4, [.int 0, .ref e0, .int 0]))]) hD hS hA [0, 3] rfl
  have hEc := (hE.kept hS.2.1).narrow hFc
  refine va_calli (va_runV (As := [.int p0]) (rest := [.ref h0]) ⟨hx, hb, hml, hown, hts⟩ (c_X10_isTeam l htr dC dI e0 s.heap.size h0 th b p0) (cwV 1 hts gX10_clear_X10_isTeam rfl rfl rfl (by decide +kernel) ⟨Nat.le_of_ble_eq_true rfl, Nat.le_of_ble_eq_true rfl⟩) ⟨fun a U g mk q => by obtain ⟨q0, q1, qP, qK, qD, qE⟩ := q; exact ⟨q0, q1, qP, va_K.moved (u := U) (U := U.calling g mk a) (Vm.Alike.refl U.vm) qK, qD, zE.same rfl qE⟩, va_recv hKc hPc (ci := 15) (q0 := 0) rfl rfl, fun U hU hW => ⟨rfl, by rw [hU], by rw [hU]; exact hPc, va_K.moved hW.alike hKc, hDc.weaken (fun _ _ _ _ => trivial), by rw [hU]; exact zE.warm hW hEc⟩⟩ rfl rfl hl.1 rfl (lv_room (Nat.le_of_ble_eq_true rfl)) dX10_clear_3 ⟨Nat.le_of_ble_eq_true rfl, Nat.le_of_ble_eq_true rfl⟩) hS (fun q _ h => hFc q h) hFc (fun r1 u t H1 locs ht hvm hw hB hz1 hk1 hS => ?_)
  obtain ⟨hP1, hK1, hD1⟩ := hB
  rw [ht] at hP1
  obtain ⟨hP, hD⟩ := va_join (wr := [((b 0), .inr (4, [.int 0, .ref e0, .int 0])), ((b 1), .inr (4, [.int 0, .ref e0, .int 0])), ((b 3), .inr (4, [.int 0, .ref e0, .int 0]))]) (w1 := [(h0, .inr (15, zM th b)), ((b 2), .inr (4, [.int 0, .ref e0, .int 0]))]) hP hD [0, 3] [1, 2, 4] rfl rfl (by decide) (by decide) hk1 hFc hP1 hD1
  generalize H1 = H at hP hS ⊢
  have hP : va_P (dC, dI) vwCl [((b 0), .inr (4, [.int 0, .ref e0, .int 0])), ((b 1), .inr (4, [.int 0, .ref e0, .int 0])), ((b 3), .inr (4, [.int 0, .ref e0, .int 0])), (h0, .inr (15, zM th b)), ((b 2), .inr (4, [.int 0, .ref e0, .int 0]))] H := hP
  have hD : va_D A [((b 0), .inr (4, [.int 0, .ref e0, .int 0])), ((b 1), .inr (4, [.int 0, .ref e0, .int 0])), ((b 3), .inr (4, [.int 0, .ref e0, .int 0])), (h0, .inr (15, zM th b)), ((b 2), .inr (4, [.int 0, .ref e0, .int 0]))] := hD
  obtain rfl : r1 = 0 := hw
  refine lv_if_eq (tgt := 13) hx hb dX10_clear_6 (by decide) (fun _ => ?_) (fun c2 => absurd (by decide) c2)
  refine lv_iconst (v := 1) hx hb dX10_clear_13 (by decide) ?_
  have hPc := hP.sub (ws' := [(h0, .inr (15, zM th b))]) [3] rfl
  have hDc := hD.sub (ws' := [(h0, .inr (15, zM th b))]) [3] (by decide) rfl
  have hKc := hK.sub (tys' := []) [] rfl
  have hFc := va_free (wc := [(h0, .inr (15, zM th b))]) hD hS hA [3] rfl
  refine va_calli (va_runV (As := [.int 1]) (rest := []) ⟨hx, hb, hml, hown, hts⟩ (c_X10_goesOn l htr dC dI e0 H.size h0 th b 1) (cwV 1 hts gX10_clear_X10_goesOn rfl rfl rfl (by decide +kernel) ⟨Nat.le_of_ble_eq_true rfl, Nat.le_of_ble_eq_true rfl⟩) ⟨fun a U g mk q => by obtain ⟨q0, q1, qP, qK, qD⟩ := q; exact ⟨q0, q1, qP, va_K.moved (u := U) (U := U.calling g mk a) (Vm.Alike.refl U.vm) qK, qD⟩, va_recv hKc hPc (ci := 15) (q0 := 0) rfl rfl, fun U hU hW => ⟨rfl, by rw [hU], by rw [hU]; exact hPc, va_K.moved hW.alike hKc, hDc.weaken (fun _ _ _ _ => trivial)⟩⟩ rfl rfl hl.1 rfl (lv_room (Nat.le_of_ble_eq_true rfl)) dX10_clear_14 ⟨Nat.le_of_ble_eq_true rfl, Nat.le_of_ble_eq_true rfl⟩) hS (fun q _ h => hFc q h) hFc (fun r3 u t H1 locs ht hvm hw hB hz1 hk1 hS => ?_)
  obtain ⟨hP1, hK1, hD1⟩ := hB
  rw [ht] at hP1
  obtain ⟨hP, hD⟩ := va_join (wr := [((b 0), .inr (4, [.int 0, .ref e0, .int 0])), ((b 1), .inr (4, [.int 0, .ref e0, .int 0])), ((b 3), .inr (4, [.int 0, .ref e0, .int 0])), ((b 2), .inr (4, [.int 0, .ref e0, .int 0]))]) (w1 := [(h0, .inr (15, zM 1 b))]) hP hD [3] [0, 1, 2, 4] rfl rfl (by decide) (by decide) hk1 hFc hP1 hD1
  generalize H1 = H at hP hS ⊢
  have hP : va_P (dC, dI) vwCl [((b 0), .inr (4, [.int 0, .ref e0, .int 0])), ((b 1), .inr (4, [.int 0, .ref e0, .int 0])), ((b 3), .inr (4, [.int 0, .ref e0, .int 0])), ((b 2), .inr (4, [.int 0, .ref e0, .int 0])), (h0, .inr (15, zM 1 b))] H := hP
  have hD : va_D A [((b 0), .inr (4, [.int 0, .ref e0, .int 0])), ((b 1), .inr (4, [.int 0, .ref e0, .int 0])), ((b 3), .inr (4, [.int 0, .ref e0, .int 0])), ((b 2), .inr (4, [.int 0, .ref e0, .int 0])), (h0, .inr (15, zM 1 b))] := hD
  obtain rfl : r3 = 0 := hw.trans (by decide)
  refine lv_if_ne (tgt := 22) hx hb dX10_clear_17 (by decide) (fun c4 => absurd (by decide) c4) (fun _ => ?_)
  refine lv_iconst (v := 0) hx hb dX10_clear_20 (by decide) ?_
  have hP9 := hP.sub (ws' := [(h0, .inr (15, zM 1 b))]) [4] rfl
  have hD9 := hD.sub (ws' := [(h0, .inr (15, zM 1 b))]) [4] (by decide) rfl
  have hK9 := hK.sub (tys' := []) [] rfl
  exact W.iret (v := 0) hx hb hr (fun t ht hW => ⟨⟨0, (), rfl, rfl, ⟨by rw [ht]; exact hP9, va_K.moved hW.alike hK9, hD9⟩⟩, hS.F ht⟩) hS.2.2 dX10_clear_21

set_option maxRecDepth 20000 in
theorem ggX10_isAdmitted_X10_goesOn : GoodIn wsX10_isAdmitted wsX10_goesOn := goodIn_r _ [19, 20, 299, 300, 301, 302, 303, 304, 305, 306, 307, 308, 309] (by decide +kernel) (by decide +kernel)
set_option maxRecDepth 20000 in
theorem gX10_isAdmitted_X10_goesOn : GoodIn wsX10_isAdmitted (wsV RX10 78 RX10 yX10_goesOn wsX10_goesOn) := goodIn_app (goodIn_of _ (by decide +kernel)) ggX10_isAdmitted_X10_goesOn
set_option maxRecDepth 20000 in
theorem ggX10_isAdmitted_X10_isTeam : GoodIn wsX10_isAdmitted wsX10_isTeam := goodIn_r _ [5, 6, 7, 8, 9, 10, 11, 12, 13, 14, 4, 15, 299, 300, 301, 302, 303, 304, 305, 306, 307, 308, 309, 310, 311, 312] (by decide +kernel) (by decide +kernel)
set_option maxRecDepth 20000 in
theorem gX10_isAdmitted_X10_isTeam : GoodIn wsX10_isAdmitted (wsV RX10 111 RX10 yX10_isTeam wsX10_isTeam) := goodIn_app (goodIn_of _ (by decide +kernel)) ggX10_isAdmitted_X10_isTeam
theorem dX10_isAdmitted_0 : decode cX10_isAdmitted 0 = .ok (.aload_n 0, 1) := by decide +kernel
theorem dX10_isAdmitted_1 : decode cX10_isAdmitted 1 = .ok (.aload_n 0, 1) := by decide +kernel
theorem dX10_isAdmitted_2 : decode cX10_isAdmitted 2 = .ok (.iload_n 1, 1) := by decide +kernel
theorem dX10_isAdmitted_3 : decode cX10_isAdmitted 3 = .ok (.invokevirtual 111, 3) := by decide +kernel
theorem dX10_isAdmitted_6 : decode cX10_isAdmitted 6 = .ok (.ifCond .eq 7, 3) := by decide +kernel
theorem dX10_isAdmitted_13 : decode cX10_isAdmitted 13 = .ok (.iconst 1, 1) := by decide +kernel
theorem dX10_isAdmitted_14 : decode cX10_isAdmitted 14 = .ok (.invokevirtual 78, 3) := by decide +kernel
theorem dX10_isAdmitted_17 : decode cX10_isAdmitted 17 = .ok (.ifCond .eq 17, 3) := by decide +kernel
theorem dX10_isAdmitted_34 : decode cX10_isAdmitted 34 = .ok (.iconst 0, 1) := by decide +kernel
theorem dX10_isAdmitted_35 : decode cX10_isAdmitted 35 = .ok (.ireturn, 1) := by decide +kernel
set_option maxHeartbeats 4000000 in
set_option maxRecDepth 100000 in
theorem c_X10_isAdmitted (l : Launch) (htr : l.stackTraces = false) (dC : Nat → ClassId) (dI : Nat → Nat → Nat) (e0 sz : Nat) (h0 : Nat) (th : Int32) (b : Nat → Nat) (p0 : Int32) : Met l yX10_isAdmitted wsX10_isAdmitted ({ frames := 2, cells := 0, slots := 0, locals := 46 }) (va_Pc [.ref h0, .int p0] (fun U => U.heap.size = sz ∧ va_P (dC, dI) vwCl [(h0, .inr (15, zM th b)), ((b 0), .inr (4, [.int 0, .ref e0, .int 0])), ((b 1), .inr (4, [.int 0, .ref e0, .int 0])), ((b 2), .inr (4, [.int 0, .ref e0, .int 0])), ((b 3), .inr (4, [.int 0, .ref e0, .int 0]))] U.heap ∧ va_K (dC, dI) vwCl [] U ∧ va_D (fun _ => True) [(h0, .inr (15, zM th b)), ((b 0), .inr (4, [.int 0, .ref e0, .int 0])), ((b 1), .inr (4, [.int 0, .ref e0, .int 0])), ((b 2), .inr (4, [.int 0, .ref e0, .int 0])), ((b 3), .inr (4, [.int 0, .ref e0, .int 0]))] ∧ zE e0 (va_A [(h0, .inr (15, zM th b)), ((b 0), .inr (4, [.int 0, .ref e0, .int 0])), ((b 1), .inr (4, [.int 0, .ref e0, .int 0])), ((b 2), .inr (4, [.int 0, .ref e0, .int 0])), ((b 3), .inr (4, [.int 0, .ref e0, .int 0]))] sz) U U.heap)) (va_Qi (fun (r : Int32) (_ : Unit) => r = 0) (fun _ t => va_P (dC, dI) vwCl [(h0, .inr (15, zM 1 b))] t.heap ∧ va_K (dC, dI) vwCl [] t ∧ va_D (va_A [(h0, .inr (15, zM th b)), ((b 0), .inr (4, [.int 0, .ref e0, .int 0])), ((b 1), .inr (4, [.int 0, .ref e0, .int 0])), ((b 2), .inr (4, [.int 0, .ref e0, .int 0])), ((b 3), .inr (4, [.int 0, .ref e0, .int 0]))] sz) [(h0, .inr (15, zM 1 b))]) (va_A [(h0, .inr (15, zM th b)), ((b 0), .inr (4, [.int 0, .ref e0, .int 0])), ((b 1), .inr (4, [.int 0, .ref e0, .int 0])), ((b 2), .inr (4, [.int 0, .ref e0, .int 0])), ((b 3), .inr (4, [.int 0, .ref e0, .int 0]))] sz)) 0 0 (va_A [(h0, .inr (15, zM th b)), ((b 0), .inr (4, [.int 0, .ref e0, .int 0])), ((b 1), .inr (4, [.int 0, .ref e0, .int 0])), ((b 2), .inr (4, [.int 0, .ref e0, .int 0])), ((b 3), .inr (4, [.int 0, .ref e0, .int 0]))] sz) := by
  refine Met.ofW (cc := cX10_isAdmitted) (maxL := 2) (ret := (some .boolean)) (by decide) rfl ?_
  intro p e s m args below meth c s₁ B hml hv
  obtain ⟨rfl, hsz, hP, hK, hD0, hE⟩ := hv
  have hx := B.exec
  have hb := B.bytes
  have hr := B.returns
  have hts := atoms_spec (ws := wsX10_isAdmitted) B.pre
  have hown : s.vm.findClass RX10 = some m.cls := findClass_of_methodNamed B.named
  have hlocks := B.notSynchronized
  subst hsz
  have hD := hD0.self (sz := s.heap.size)
  generalize hAe : va_A [(h0, .inr (15, zM th b)), ((b 0), .inr (4, [.int 0, .ref e0, .int 0])), ((b 1), .inr (4, [.int 0, .ref e0, .int 0])), ((b 2), .inr (4, [.int 0, .ref e0, .int 0])), ((b 3), .inr (4, [.int 0, .ref e0, .int 0]))] s.heap.size = A at hD hE ⊢
  have hA : ∀ q : Nat, s.heap.size ≤ q → A q := fun q h => by rw [← hAe]; exact Or.inr h
  have hS : va_S A s.heap s.heap [] := va_S.rf
  have hl := lv_entry ([.ref h0, .int p0]) (n := 2) (Nat.le_of_ble_eq_true rfl)
  rw [lg_entry_eq]
  generalize (lg_sl ([.ref h0, .int p0]) ++ List.replicate (2 - (lg_sl ([.ref h0, .int p0])).length) Slot.unset).toArray = ls at hl ⊢
  have hl : lv_has ls 2 [(0, .ref h0), (1, .int p0)] := hl
  refine lv_aload_n hx hb dX10_isAdmitted_0 rfl (lv_at hl 0 rfl) ?_
  refine lv_aload_n hx hb dX10_isAdmitted_1 rfl (lv_at hl 0 rfl) ?_
  refine lv_iload_n hx hb dX10_isAdmitted_2 rfl (lv_at hl 1 rfl) ?_
  have hPc := hP.sub (ws' := [(h0, .inr (15, zM th b)), ((b 2), .inr (4, [.int 0, .ref e0, .int 0]))]) [0, 3] rfl
  have hDc := hD.sub (ws' := [(h0, .inr (15, zM th b)), ((b 2), .inr (4, [.int 0, .ref e0, .int 0]))]) [0, 3] (by decide) rfl
  have hKc := hK.sub (tys' := []) [] rfl
  have hFc := va_free (wc := [(h0, .inr (15, zM th b)), ((b 2), .inr (4, [.int 0, .ref e0, .int 0]))]) hD hS hA [0, 3] rfl
  have hEc := (hE.kept hS.2.1).narrow hFc
  refine va_calli (va_runV (As := [.int p0]) (rest := [.ref h0]) ⟨hx, hb, hml, hown, hts⟩ (c_X10_isTeam l htr dC dI e0 s.heap.size h0 th b p0) (cwV 1 hts gX10_isAdmitted_X10_isTeam rfl rfl rfl (by decide +kernel) ⟨Nat.le_of_ble_eq_true rfl, Nat.le_of_ble_eq_true rfl⟩) ⟨fun a U g mk q => by obtain ⟨q0, q1, qP, qK, qD, qE⟩ := q; exact ⟨q0, q1, qP, va_K.moved (u := U) (U := U.calling g mk a) (Vm.Alike.refl U.vm) qK, qD, zE.same rfl qE⟩, va_recv hKc hPc (ci := 15) (q0 := 0) rfl rfl, fun U hU hW => ⟨rfl, by rw [hU], by rw [hU]; exact hPc, va_K.moved hW.alike hKc, hDc.weaken (fun _ _ _ _ => trivial), by rw [hU]; exact zE.warm hW hEc⟩⟩ rfl rfl hl.1 rfl (lv_room (Nat.le_of_ble_eq_true rfl)) dX10_isAdmitted_3 ⟨Nat.le_of_ble_eq_true rfl, Nat.le_of_ble_eq_true rfl⟩) hS (fun q _ h => hFc q h) hFc (fun r1 u t H1 locs ht hvm hw hB hz1 hk1 hS => ?_)
  obtain ⟨hP1, hK1, hD1⟩ := hB
  rw [ht] at hP1
  obtain ⟨hP, hD⟩ := va_join (wr := [((b 0), .inr (4, [.int 0, .ref e0, .int 0])), ((b 1), .inr (4, [.int 0, .ref e0, .int 0])), ((b 3), .inr (4, [.int 0, .ref e0, .int 0]))]) (w1 := [(h0, .inr (15, zM th b)), ((b 2), .inr (4, [.int 0, .ref e0, .int 0]))]) hP hD [0, 3] [1, 2, 4] rfl rfl (by decide) (by decide) hk1 hFc hP1 hD1
  generalize H1 = H at hP hS ⊢
  have hP : va_P (dC, dI) vwCl [((b 0), .inr (4, [.int 0, .ref e0, .int 0])), ((b 1), .inr (4, [.int 0, .ref e0, .int 0])), ((b 3), .inr (4, [.int 0, .ref e0, .int 0])), (h0, .inr (15, zM th b)), ((b 2), .inr (4, [.int 0, .ref e0, .int 0]))] H := hP
  have hD : va_D A [((b 0), .inr (4, [.int 0, .ref e0, .int 0])), ((b 1), .inr (4, [.int 0, .ref e0, .int 0])), ((b 3), .inr (4, [.int 0, .ref e0, .int 0])), (h0, .inr (15, zM th b)), ((b 2), .inr (4, [.int 0, .ref e0, .int 0]))] := hD
  obtain rfl : r1 = 0 := hw
  refine lv_if_eq (tgt := 13) hx hb dX10_isAdmitted_6 (by decide) (fun _ => ?_) (fun c2 => absurd (by decide) c2)
  refine lv_iconst (v := 1) hx hb dX10_isAdmitted_13 (by decide) ?_
  have hPc := hP.sub (ws' := [(h0, .inr (15, zM th b))]) [3] rfl
  have hDc := hD.sub (ws' := [(h0, .inr (15, zM th b))]) [3] (by decide) rfl
  have hKc := hK.sub (tys' := []) [] rfl
  have hFc := va_free (wc := [(h0, .inr (15, zM th b))]) hD hS hA [3] rfl
  refine va_calli (va_runV (As := [.int 1]) (rest := []) ⟨hx, hb, hml, hown, hts⟩ (c_X10_goesOn l htr dC dI e0 H.size h0 th b 1) (cwV 1 hts gX10_isAdmitted_X10_goesOn rfl rfl rfl (by decide +kernel) ⟨Nat.le_of_ble_eq_true rfl, Nat.le_of_ble_eq_true rfl⟩) ⟨fun a U g mk q => by obtain ⟨q0, q1, qP, qK, qD⟩ := q; exact ⟨q0, q1, qP, va_K.moved (u := U) (U := U.calling g mk a) (Vm.Alike.refl U.vm) qK, qD⟩, va_recv hKc hPc (ci := 15) (q0 := 0) rfl rfl, fun U hU hW => ⟨rfl, by rw [hU], by rw [hU]; exact hPc, va_K.moved hW.alike hKc, hDc.weaken (fun _ _ _ _ => trivial)⟩⟩ rfl rfl hl.1 rfl (lv_room (Nat.le_of_ble_eq_true rfl)) dX10_isAdmitted_14 ⟨Nat.le_of_ble_eq_true rfl, Nat.le_of_ble_eq_true rfl⟩) hS (fun q _ h => hFc q h) hFc (fun r3 u t H1 locs ht hvm hw hB hz1 hk1 hS => ?_)
  obtain ⟨hP1, hK1, hD1⟩ := hB
  rw [ht] at hP1
  obtain ⟨hP, hD⟩ := va_join (wr := [((b 0), .inr (4, [.int 0, .ref e0, .int 0])), ((b 1), .inr (4, [.int 0, .ref e0, .int 0])), ((b 3), .inr (4, [.int 0, .ref e0, .int 0])), ((b 2), .inr (4, [.int 0, .ref e0, .int 0]))]) (w1 := [(h0, .inr (15, zM 1 b))]) hP hD [3] [0, 1, 2, 4] rfl rfl (by decide) (by decide) hk1 hFc hP1 hD1
  generalize H1 = H at hP hS ⊢
  have hP : va_P (dC, dI) vwCl [((b 0), .inr (4, [.int 0, .ref e0, .int 0])), ((b 1), .inr (4, [.int 0, .ref e0, .int 0])), ((b 3), .inr (4, [.int 0, .ref e0, .int 0])), ((b 2), .inr (4, [.int 0, .ref e0, .int 0])), (h0, .inr (15, zM 1 b))] H := hP
  have hD : va_D A [((b 0), .inr (4, [.int 0, .ref e0, .int 0])), ((b 1), .inr (4, [.int 0, .ref e0, .int 0])), ((b 3), .inr (4, [.int 0, .ref e0, .int 0])), ((b 2), .inr (4, [.int 0, .ref e0, .int 0])), (h0, .inr (15, zM 1 b))] := hD
  obtain rfl : r3 = 0 := hw.trans (by decide)
  refine lv_if_eq (tgt := 34) hx hb dX10_isAdmitted_17 (by decide) (fun _ => ?_) (fun c4 => absurd (by decide) c4)
  refine lv_iconst (v := 0) hx hb dX10_isAdmitted_34 (by decide) ?_
  have hP9 := hP.sub (ws' := [(h0, .inr (15, zM 1 b))]) [4] rfl
  have hD9 := hD.sub (ws' := [(h0, .inr (15, zM 1 b))]) [4] (by decide) rfl
  have hK9 := hK.sub (tys' := []) [] rfl
  exact W.zret (v := 0) hx hb hr (by decide) (fun t ht hW => ⟨⟨0, (), rfl, rfl, ⟨by rw [ht]; exact hP9, va_K.moved hW.alike hK9, hD9⟩⟩, hS.F ht⟩) hS.2.2 dX10_isAdmitted_35

set_option maxRecDepth 20000 in
theorem ggX10_forecast_X10_goesOn : GoodIn wsX10_forecast wsX10_goesOn := goodIn_r _ [297, 298, 299, 300, 301, 302, 303, 304, 305, 306, 307, 308, 309] (by decide +kernel) (by decide +kernel)
set_option maxRecDepth 20000 in
theorem gX10_forecast_X10_goesOn : GoodIn wsX10_forecast (wsV RX10 78 RX10 yX10_goesOn wsX10_goesOn) := goodIn_app (goodIn_of _ (by decide +kernel)) ggX10_forecast_X10_goesOn
set_option maxRecDepth 20000 in
theorem ggX10_forecast_X10_isTeam : GoodIn wsX10_forecast wsX10_isTeam := goodIn_r _ [7, 1, 8, 9, 10, 11, 12, 13, 14, 15, 6, 16, 299, 300, 301, 302, 303, 304, 305, 306, 307, 308, 309, 332, 333, 334] (by decide +kernel) (by decide +kernel)
set_option maxRecDepth 20000 in
theorem gX10_forecast_X10_isTeam : GoodIn wsX10_forecast (wsV RX10 111 RX10 yX10_isTeam wsX10_isTeam) := goodIn_app (goodIn_of _ (by decide +kernel)) ggX10_forecast_X10_isTeam
theorem dX10_forecast_0 : decode cX10_forecast 0 = .ok (.aload_n 0, 1) := by decide +kernel
theorem dX10_forecast_1 : decode cX10_forecast 1 = .ok (.iload_n 1, 1) := by decide +kernel
theorem dX10_forecast_2 : decode cX10_forecast 2 = .ok (.invokevirtual 111, 3) := by decide +kernel
theorem dX10_forecast_5 : decode cX10_forecast 5 = .ok (.ifCond .eq 11, 3) := by decide +kernel
theorem dX10_forecast_16 : decode cX10_forecast 16 = .ok (.bipush 45, 2) := by decide +kernel
theorem dX10_forecast_18 : decode cX10_forecast 18 = .ok (.istore_n 2, 1) := by decide +kernel
theorem dX10_forecast_19 : decode cX10_forecast 19 = .ok (.aload_n 0, 1) := by decide +kernel
theorem dX10_forecast_20 : decode cX10_forecast 20 = .ok (.aload_n 0, 1) := by decide +kernel
theorem dX10_forecast_21 : decode cX10_forecast 21 = .ok (.iload_n 1, 1) := by decide +kernel
theorem dX10_forecast_22 : decode cX10_forecast 22 = .ok (.invokevirtual 111, 3) := by decide +kernel
theorem dX10_forecast_25 : decode cX10_forecast 25 = .ok (.ifCond .ne 7, 3) := by decide +kernel
theorem dX10_forecast_28 : decode cX10_forecast 28 = .ok (.iconst 1, 1) := by decide +kernel
theorem dX10_forecast_29 : decode cX10_forecast 29 = .ok (.goto 14, 3) := by decide +kernel
theorem dX10_forecast_43 : decode cX10_forecast 43 = .ok (.invokevirtual 78, 3) := by decide +kernel
theorem dX10_forecast_46 : decode cX10_forecast 46 = .ok (.ifCond .ne 5, 3) := by decide +kernel
theorem dX10_forecast_49 : decode cX10_forecast 49 = .ok (.iconst 0, 1) := by decide +kernel
theorem dX10_forecast_50 : decode cX10_forecast 50 = .ok (.ireturn, 1) := by decide +kernel
set_option maxHeartbeats 4000000 in
set_option maxRecDepth 100000 in
theorem c_X10_forecast (l : Launch) (htr : l.stackTraces = false) (dC : Nat → ClassId) (dI : Nat → Nat → Nat) (e0 sz : Nat) (h0 : Nat) (th : Int32) (b : Nat → Nat) (p0 : Int32) : Met l yX10_forecast wsX10_forecast ({ frames := 2, cells := 0, slots := 0, locals := 46 }) (va_Pc [.ref h0, .int p0] (fun U => U.heap.size = sz ∧ va_P (dC, dI) vwCl [(h0, .inr (15, zM th b)), ((b 0), .inr (4, [.int 0, .ref e0, .int 0])), ((b 1), .inr (4, [.int 0, .ref e0, .int 0])), ((b 2), .inr (4, [.int 0, .ref e0, .int 0])), ((b 3), .inr (4, [.int 0, .ref e0, .int 0]))] U.heap ∧ va_K (dC, dI) vwCl [] U ∧ va_D (fun _ => True) [(h0, .inr (15, zM th b)), ((b 0), .inr (4, [.int 0, .ref e0, .int 0])), ((b 1), .inr (4, [.int 0, .ref e0, .int 0])), ((b 2), .inr (4, [.int 0, .ref e0, .int 0])), ((b 3), .inr (4, [.int 0, .ref e0, .int 0]))] ∧ zE e0 (va_A [(h0, .inr (15, zM th b)), ((b 0), .inr (4, [.int 0, .ref e0, .int 0])), ((b 1), .inr (4, [.int 0, .ref e0, .int 0])), ((b 2), .inr (4, [.int 0, .ref e0, .int 0])), ((b 3), .inr (4, [.int 0, .ref e0, .int 0]))] sz) U U.heap)) (va_Qi (fun (r : Int32) (_ : Unit) => r = 0) (fun _ t => va_P (dC, dI) vwCl [(h0, .inr (15, zM 1 b))] t.heap ∧ va_K (dC, dI) vwCl [] t ∧ va_D (va_A [(h0, .inr (15, zM th b)), ((b 0), .inr (4, [.int 0, .ref e0, .int 0])), ((b 1), .inr (4, [.int 0, .ref e0, .int 0])), ((b 2), .inr (4, [.int 0, .ref e0, .int 0])), ((b 3), .inr (4, [.int 0, .ref e0, .int 0]))] sz) [(h0, .inr (15, zM 1 b))]) (va_A [(h0, .inr (15, zM th b)), ((b 0), .inr (4, [.int 0, .ref e0, .int 0])), ((b 1), .inr (4, [.int 0, .ref e0, .int 0])), ((b 2), .inr (4, [.int 0, .ref e0, .int 0])), ((b 3), .inr (4, [.int 0, .ref e0, .int 0]))] sz)) 0 0 (va_A [(h0, .inr (15, zM th b)), ((b 0), .inr (4, [.int 0, .ref e0, .int 0])), ((b 1), .inr (4, [.int 0, .ref e0, .int 0])), ((b 2), .inr (4, [.int 0, .ref e0, .int 0])), ((b 3), .inr (4, [.int 0, .ref e0, .int 0]))] sz) := by
  refine Met.ofW (cc := cX10_forecast) (maxL := 6) (ret := (some .int)) (by decide) rfl ?_
  intro p e s m args below meth c s₁ B hml hv
  obtain ⟨rfl, hsz, hP, hK, hD0, hE⟩ := hv
  have hx := B.exec
  have hb := B.bytes
  have hr := B.returns
  have hts := atoms_spec (ws := wsX10_forecast) B.pre
  have hown : s.vm.findClass RX10 = some m.cls := findClass_of_methodNamed B.named
  have hlocks := B.notSynchronized
  subst hsz
  have hD := hD0.self (sz := s.heap.size)
  generalize hAe : va_A [(h0, .inr (15, zM th b)), ((b 0), .inr (4, [.int 0, .ref e0, .int 0])), ((b 1), .inr (4, [.int 0, .ref e0, .int 0])), ((b 2), .inr (4, [.int 0, .ref e0, .int 0])), ((b 3), .inr (4, [.int 0, .ref e0, .int 0]))] s.heap.size = A at hD hE ⊢
  have hA : ∀ q : Nat, s.heap.size ≤ q → A q := fun q h => by rw [← hAe]; exact Or.inr h
  have hS : va_S A s.heap s.heap [] := va_S.rf
  have hl := lv_entry ([.ref h0, .int p0]) (n := 6) (Nat.le_of_ble_eq_true rfl)
  rw [lg_entry_eq]
  generalize (lg_sl ([.ref h0, .int p0]) ++ List.replicate (6 - (lg_sl ([.ref h0, .int p0])).length) Slot.unset).toArray = ls at hl ⊢
  have hl : lv_has ls 6 [(0, .ref h0), (1, .int p0)] := hl
  refine lv_aload_n hx hb dX10_forecast_0 rfl (lv_at hl 0 rfl) ?_
  refine lv_iload_n hx hb dX10_forecast_1 rfl (lv_at hl 1 rfl) ?_
  have hPc := hP.sub (ws' := [(h0, .inr (15, zM th b)), ((b 2), .inr (4, [.int 0, .ref e0, .int 0]))]) [0, 3] rfl
  have hDc := hD.sub (ws' := [(h0, .inr (15, zM th b)), ((b 2), .inr (4, [.int 0, .ref e0, .int 0]))]) [0, 3] (by decide) rfl
  have hKc := hK.sub (tys' := []) [] rfl
  have hFc := va_free (wc := [(h0, .inr (15, zM th b)), ((b 2), .inr (4, [.int 0, .ref e0, .int 0]))]) hD hS hA [0, 3] rfl
  have hEc := (hE.kept hS.2.1).narrow hFc
  refine va_calli (va_runV (As := [.int p0]) (rest := []) ⟨hx, hb, hml, hown, hts⟩ (c_X10_isTeam l htr dC dI e0 s.heap.size h0 th b p0) (cwV 1 hts gX10_forecast_X10_isTeam rfl rfl rfl (by decide +kernel) ⟨Nat.le_of_ble_eq_true rfl, Nat.le_of_ble_eq_true rfl⟩) ⟨fun a U g mk q => by obtain ⟨q0, q1, qP, qK, qD, qE⟩ := q; exact ⟨q0, q1, qP, va_K.moved (u := U) (U := U.calling g mk a) (Vm.Alike.refl U.vm) qK, qD, zE.same rfl qE⟩, va_recv hKc hPc (ci := 15) (q0 := 0) rfl rfl, fun U hU hW => ⟨rfl, by rw [hU], by rw [hU]; exact hPc, va_K.moved hW.alike hKc, hDc.weaken (fun _ _ _ _ => trivial), by rw [hU]; exact zE.warm hW hEc⟩⟩ rfl rfl hl.1 rfl (lv_room (Nat.le_of_ble_eq_true rfl)) dX10_forecast_2 ⟨Nat.le_of_ble_eq_true rfl, Nat.le_of_ble_eq_true rfl⟩) hS (fun q _ h => hFc q h) hFc (fun r1 u t H1 locs ht hvm hw hB hz1 hk1 hS => ?_)
  obtain ⟨hP1, hK1, hD1⟩ := hB
  rw [ht] at hP1
  obtain ⟨hP, hD⟩ := va_join (wr := [((b 0), .inr (4, [.int 0, .ref e0, .int 0])), ((b 1), .inr (4, [.int 0, .ref e0, .int 0])), ((b 3), .inr (4, [.int 0, .ref e0, .int 0]))]) (w1 := [(h0, .inr (15, zM th b)), ((b 2), .inr (4, [.int 0, .ref e0, .int 0]))]) hP hD [0, 3] [1, 2, 4] rfl rfl (by decide) (by decide) hk1 hFc hP1 hD1
  generalize H1 = H at hP hS ⊢
  have hP : va_P (dC, dI) vwCl [((b 0), .inr (4, [.int 0, .ref e0, .int 0])), ((b 1), .inr (4, [.int 0, .ref e0, .int 0])), ((b 3), .inr (4, [.int 0, .ref e0, .int 0])), (h0, .inr (15, zM th b)), ((b 2), .inr (4, [.int 0, .ref e0, .int 0]))] H := hP
  have hD : va_D A [((b 0), .inr (4, [.int 0, .ref e0, .int 0])), ((b 1), .inr (4, [.int 0, .ref e0, .int 0])), ((b 3), .inr (4, [.int 0, .ref e0, .int 0])), (h0, .inr (15, zM th b)), ((b 2), .inr (4, [.int 0, .ref e0, .int 0]))] := hD
  obtain rfl : r1 = 0 := hw
  refine lv_if_eq (tgt := 16) hx hb dX10_forecast_5 (by decide) (fun _ => ?_) (fun c2 => absurd (by decide) c2)
  refine lv_bipush (v := 45) hx hb dX10_forecast_16 (by decide) ?_
  refine lv_istore_n (lv' := [(2, .int 45), (0, .ref h0), (1, .int p0)]) hx hb dX10_forecast_18 rfl hl (by decide) rfl (fun ls hl => ?_)
  refine lv_aload_n hx hb dX10_forecast_19 rfl (lv_at hl 1 rfl) ?_
  refine lv_aload_n hx hb dX10_forecast_20 rfl (lv_at hl 1 rfl) ?_
  refine lv_iload_n hx hb dX10_forecast_21 rfl (lv_at hl 2 rfl) ?_
  have hPc := hP.sub (ws' := [(h0, .inr (15, zM th b)), ((b 2), .inr (4, [.int 0, .ref e0, .int 0]))]) [3, 4] rfl
  have hDc := hD.sub (ws' := [(h0, .inr (15, zM th b)), ((b 2), .inr (4, [.int 0, .ref e0, .int 0]))]) [3, 4] (by decide) rfl
  have hKc := hK.sub (tys' := []) [] rfl
  have hFc := va_free (wc := [(h0, .inr (15, zM th b)), ((b 2), .inr (4, [.int 0, .ref e0, .int 0]))]) hD hS hA [3, 4] rfl
  have hEc := (hE.kept hS.2.1).narrow hFc
  refine va_calli (va_runV (As := [.int p0]) (rest := [.ref h0]) ⟨hx, hb, hml, hown, hts⟩ (c_X10_isTeam l htr dC dI e0 H.size h0 th b p0) (cwV 1 hts gX10_forecast_X10_isTeam rfl rfl rfl (by decide +kernel) ⟨Nat.le_of_ble_eq_true rfl, Nat.le_of_ble_eq_true rfl⟩) ⟨fun a U g mk q => by obtain ⟨q0, q1, qP, qK, qD, qE⟩ := q; exact ⟨q0, q1, qP, va_K.moved (u := U) (U := U.calling g mk a) (Vm.Alike.refl U.vm) qK, qD, zE.same rfl qE⟩, va_recv hKc hPc (ci := 15) (q0 := 0) rfl rfl, fun U hU hW => ⟨rfl, by rw [hU], by rw [hU]; exact hPc, va_K.moved hW.alike hKc, hDc.weaken (fun _ _ _ _ => trivial), by rw [hU]; exact zE.warm hW hEc⟩⟩ rfl rfl hl.1 rfl (lv_room (Nat.le_of_ble_eq_true rfl)) dX10_forecast_22 ⟨Nat.le_of_ble_eq_true rfl, Nat.le_of_ble_eq_true rfl⟩) hS (fun q _ h => hFc q h) hFc (fun r3 u t H1 locs ht hvm hw hB hz1 hk1 hS => ?_)
  obtain ⟨hP1, hK1, hD1⟩ := hB
  rw [ht] at hP1
  obtain ⟨hP, hD⟩ := va_join (wr := [((b 0), .inr (4, [.int 0, .ref e0, .int 0])), ((b 1), .inr (4, [.int 0, .ref e0, .int 0])), ((b 3), .inr (4, [.int 0, .ref e0, .int 0]))]) (w1 := [(h0, .inr (15, zM th b)), ((b 2), .inr (4, [.int 0, .ref e0, .int 0]))]) hP hD [3, 4] [0, 1, 2] rfl rfl (by decide) (by decide) hk1 hFc hP1 hD1
  generalize H1 = H at hP hS ⊢
  have hP : va_P (dC, dI) vwCl [((b 0), .inr (4, [.int 0, .ref e0, .int 0])), ((b 1), .inr (4, [.int 0, .ref e0, .int 0])), ((b 3), .inr (4, [.int 0, .ref e0, .int 0])), (h0, .inr (15, zM th b)), ((b 2), .inr (4, [.int 0, .ref e0, .int 0]))] H := hP
  have hD : va_D A [((b 0), .inr (4, [.int 0, .ref e0, .int 0])), ((b 1), .inr (4, [.int 0, .ref e0, .int 0])), ((b 3), .inr (4, [.int 0, .ref e0, .int 0])), (h0, .inr (15, zM th b)), ((b 2), .inr (4, [.int 0, .ref e0, .int 0]))] := hD
  obtain rfl : r3 = 0 := hw
  refine lv_if_ne (tgt := 32) hx hb dX10_forecast_25 (by decide) (fun c4 => absurd (by decide) c4) (fun _ => ?_)
  refine lv_iconst (v := 1) hx hb dX10_forecast_28 (by decide) ?_
  refine lv_goto (tgt := 43) hx hb dX10_forecast_29 (by decide) ?_
  have hPc := hP.sub (ws' := [(h0, .inr (15, zM th b))]) [3] rfl
  have hDc := hD.sub (ws' := [(h0, .inr (15, zM th b))]) [3] (by decide) rfl
  have hKc := hK.sub (tys' := []) [] rfl
  have hFc := va_free (wc := [(h0, .inr (15, zM th b))]) hD hS hA [3] rfl
  refine va_calli (va_runV (As := [.int 1]) (rest := []) ⟨hx, hb, hml, hown, hts⟩ (c_X10_goesOn l htr dC dI e0 H.size h0 th b 1) (cwV 1 hts gX10_forecast_X10_goesOn rfl rfl rfl (by decide +kernel) ⟨Nat.le_of_ble_eq_true rfl, Nat.le_of_ble_eq_true rfl⟩) ⟨fun a U g mk q => by obtain ⟨q0, q1, qP, qK, qD⟩ := q; exact ⟨q0, q1, qP, va_K.moved (u := U) (U := U.calling g mk a) (Vm.Alike.refl U.vm) qK, qD⟩, va_recv hKc hPc (ci := 15) (q0 := 0) rfl rfl, fun U hU hW => ⟨rfl, by rw [hU], by rw [hU]; exact hPc, va_K.moved hW.alike hKc, hDc.weaken (fun _ _ _ _ => trivial)⟩⟩ rfl rfl hl.1 rfl (lv_room (Nat.le_of_ble_eq_true rfl)) dX10_forecast_43 ⟨Nat.le_of_ble_eq_true rfl, Nat.le_of_ble_eq_true rfl⟩) hS (fun q _ h => hFc q h) hFc (fun r5 u t H1 locs ht hvm hw hB hz1 hk1 hS => ?_)
  obtain ⟨hP1, hK1, hD1⟩ := hB
  rw [ht] at hP1
  obtain ⟨hP, hD⟩ := va_join (wr := [((b 0), .inr (4, [.int 0, .ref e0, .int 0])), ((b 1), .inr (4, [.int 0, .ref e0, .int 0])), ((b 3), .inr (4, [.int 0, .ref e0, .int 0])), ((b 2), .inr (4, [.int 0, .ref e0, .int 0]))]) (w1 := [(h0, .inr (15, zM 1 b))]) hP hD [3] [0, 1, 2, 4] rfl rfl (by decide) (by decide) hk1 hFc hP1 hD1
  generalize H1 = H at hP hS ⊢
  have hP : va_P (dC, dI) vwCl [((b 0), .inr (4, [.int 0, .ref e0, .int 0])), ((b 1), .inr (4, [.int 0, .ref e0, .int 0])), ((b 3), .inr (4, [.int 0, .ref e0, .int 0])), ((b 2), .inr (4, [.int 0, .ref e0, .int 0])), (h0, .inr (15, zM 1 b))] H := hP
  have hD : va_D A [((b 0), .inr (4, [.int 0, .ref e0, .int 0])), ((b 1), .inr (4, [.int 0, .ref e0, .int 0])), ((b 3), .inr (4, [.int 0, .ref e0, .int 0])), ((b 2), .inr (4, [.int 0, .ref e0, .int 0])), (h0, .inr (15, zM 1 b))] := hD
  obtain rfl : r5 = 0 := hw.trans (by decide)
  refine lv_if_ne (tgt := 51) hx hb dX10_forecast_46 (by decide) (fun c6 => absurd (by decide) c6) (fun _ => ?_)
  refine lv_iconst (v := 0) hx hb dX10_forecast_49 (by decide) ?_
  have hP9 := hP.sub (ws' := [(h0, .inr (15, zM 1 b))]) [4] rfl
  have hD9 := hD.sub (ws' := [(h0, .inr (15, zM 1 b))]) [4] (by decide) rfl
  have hK9 := hK.sub (tys' := []) [] rfl
  exact W.iret (v := 0) hx hb hr (fun t ht hW => ⟨⟨0, (), rfl, rfl, ⟨by rw [ht]; exact hP9, va_K.moved hW.alike hK9, hD9⟩⟩, hS.F ht⟩) hS.2.2 dX10_forecast_50

set_option maxRecDepth 20000 in
theorem ggX10_follow_X10_goesOn : GoodIn wsX10_follow wsX10_goesOn := goodIn_r _ [297, 298, 308, 309, 310, 311, 312, 313, 314, 315, 316, 317, 318] (by decide +kernel) (by decide +kernel)
set_option maxRecDepth 20000 in
theorem gX10_follow_X10_goesOn : GoodIn wsX10_follow (wsV RX10 78 RX10 yX10_goesOn wsX10_goesOn) := goodIn_app (goodIn_of _ (by decide +kernel)) ggX10_follow_X10_goesOn
set_option maxRecDepth 20000 in
theorem ggX10_follow_X10_isTeam : GoodIn wsX10_follow wsX10_isTeam := goodIn_r _ [8, 1, 9, 10, 11, 12, 13, 14, 15, 16, 7, 17, 308, 309, 310, 311, 312, 313, 314, 315, 316, 317, 318, 341, 342, 343] (by decide +kernel) (by decide +kernel)
set_option maxRecDepth 20000 in
theorem gX10_follow_X10_isTeam : GoodIn wsX10_follow (wsV RX10 111 RX10 yX10_isTeam wsX10_isTeam) := goodIn_app (goodIn_of _ (by decide +kernel)) ggX10_follow_X10_isTeam
theorem dX10_follow_0 : decode cX10_follow 0 = .ok (.aload_n 0, 1) := by decide +kernel
theorem dX10_follow_1 : decode cX10_follow 1 = .ok (.iload_n 1, 1) := by decide +kernel
theorem dX10_follow_2 : decode cX10_follow 2 = .ok (.invokevirtual 111, 3) := by decide +kernel
theorem dX10_follow_5 : decode cX10_follow 5 = .ok (.ifCond .eq 11, 3) := by decide +kernel
theorem dX10_follow_16 : decode cX10_follow 16 = .ok (.bipush 45, 2) := by decide +kernel
theorem dX10_follow_18 : decode cX10_follow 18 = .ok (.istore_n 2, 1) := by decide +kernel
theorem dX10_follow_19 : decode cX10_follow 19 = .ok (.aload_n 0, 1) := by decide +kernel
theorem dX10_follow_20 : decode cX10_follow 20 = .ok (.aload_n 0, 1) := by decide +kernel
theorem dX10_follow_21 : decode cX10_follow 21 = .ok (.iload_n 1, 1) := by decide +kernel
theorem dX10_follow_22 : decode cX10_follow 22 = .ok (.invokevirtual 111, 3) := by decide +kernel
theorem dX10_follow_25 : decode cX10_follow 25 = .ok (.ifCond .ne 7, 3) := by decide +kernel
theorem dX10_follow_28 : decode cX10_follow 28 = .ok (.iconst 1, 1) := by decide +kernel
theorem dX10_follow_29 : decode cX10_follow 29 = .ok (.goto 14, 3) := by decide +kernel
theorem dX10_follow_43 : decode cX10_follow 43 = .ok (.invokevirtual 78, 3) := by decide +kernel
theorem dX10_follow_46 : decode cX10_follow 46 = .ok (.ifCond .ne 5, 3) := by decide +kernel
theorem dX10_follow_49 : decode cX10_follow 49 = .ok (.iconst 0, 1) := by decide +kernel
theorem dX10_follow_50 : decode cX10_follow 50 = .ok (.ireturn, 1) := by decide +kernel
set_option maxHeartbeats 4000000 in
set_option maxRecDepth 100000 in
theorem c_X10_follow (l : Launch) (htr : l.stackTraces = false) (dC : Nat → ClassId) (dI : Nat → Nat → Nat) (e0 sz : Nat) (h0 : Nat) (th : Int32) (b : Nat → Nat) (p0 : Int32) : Met l yX10_follow wsX10_follow ({ frames := 2, cells := 0, slots := 0, locals := 46 }) (va_Pc [.ref h0, .int p0] (fun U => U.heap.size = sz ∧ va_P (dC, dI) vwCl [(h0, .inr (15, zM th b)), ((b 0), .inr (4, [.int 0, .ref e0, .int 0])), ((b 1), .inr (4, [.int 0, .ref e0, .int 0])), ((b 2), .inr (4, [.int 0, .ref e0, .int 0])), ((b 3), .inr (4, [.int 0, .ref e0, .int 0]))] U.heap ∧ va_K (dC, dI) vwCl [] U ∧ va_D (fun _ => True) [(h0, .inr (15, zM th b)), ((b 0), .inr (4, [.int 0, .ref e0, .int 0])), ((b 1), .inr (4, [.int 0, .ref e0, .int 0])), ((b 2), .inr (4, [.int 0, .ref e0, .int 0])), ((b 3), .inr (4, [.int 0, .ref e0, .int 0]))] ∧ zE e0 (va_A [(h0, .inr (15, zM th b)), ((b 0), .inr (4, [.int 0, .ref e0, .int 0])), ((b 1), .inr (4, [.int 0, .ref e0, .int 0])), ((b 2), .inr (4, [.int 0, .ref e0, .int 0])), ((b 3), .inr (4, [.int 0, .ref e0, .int 0]))] sz) U U.heap)) (va_Qi (fun (r : Int32) (_ : Unit) => r = 0) (fun _ t => va_P (dC, dI) vwCl [(h0, .inr (15, zM 1 b))] t.heap ∧ va_K (dC, dI) vwCl [] t ∧ va_D (va_A [(h0, .inr (15, zM th b)), ((b 0), .inr (4, [.int 0, .ref e0, .int 0])), ((b 1), .inr (4, [.int 0, .ref e0, .int 0])), ((b 2), .inr (4, [.int 0, .ref e0, .int 0])), ((b 3), .inr (4, [.int 0, .ref e0, .int 0]))] sz) [(h0, .inr (15, zM 1 b))]) (va_A [(h0, .inr (15, zM th b)), ((b 0), .inr (4, [.int 0, .ref e0, .int 0])), ((b 1), .inr (4, [.int 0, .ref e0, .int 0])), ((b 2), .inr (4, [.int 0, .ref e0, .int 0])), ((b 3), .inr (4, [.int 0, .ref e0, .int 0]))] sz)) 0 0 (va_A [(h0, .inr (15, zM th b)), ((b 0), .inr (4, [.int 0, .ref e0, .int 0])), ((b 1), .inr (4, [.int 0, .ref e0, .int 0])), ((b 2), .inr (4, [.int 0, .ref e0, .int 0])), ((b 3), .inr (4, [.int 0, .ref e0, .int 0]))] sz) := by
  refine Met.ofW (cc := cX10_follow) (maxL := 7) (ret := (some .int)) (by decide) rfl ?_
  intro p e s m args below meth c s₁ B hml hv
  obtain ⟨rfl, hsz, hP, hK, hD0, hE⟩ := hv
  have hx := B.exec
  have hb := B.bytes
  have hr := B.returns
  have hts := atoms_spec (ws := wsX10_follow) B.pre
  have hown : s.vm.findClass RX10 = some m.cls := findClass_of_methodNamed B.named
  have hlocks := B.notSynchronized
  subst hsz
  have hD := hD0.self (sz := s.heap.size)
  generalize hAe : va_A [(h0, .inr (15, zM th b)), ((b 0), .inr (4, [.int 0, .ref e0, .int 0])), ((b 1), .inr (4, [.int 0, .ref e0, .int 0])), ((b 2), .inr (4, [.int 0, .ref e0, .int 0])), ((b 3), .inr (4, [.int 0, .ref e0, .int 0]))] s.heap.size = A at hD hE ⊢
  have hA : ∀ q : Nat, s.heap.size ≤ q → A q := fun q h => by rw [← hAe]; exact Or.inr h
  have hS : va_S A s.heap s.heap [] := va_S.rf
  have hl := lv_entry ([.ref h0, .int p0]) (n := 7) (Nat.le_of_ble_eq_true rfl)
  rw [lg_entry_eq]
  generalize (lg_sl ([.ref h0, .int p0]) ++ List.replicate (7 - (lg_sl ([.ref h0, .int p0])).length) Slot.unset).toArray = ls at hl ⊢
  have hl : lv_has ls 7 [(0, .ref h0), (1, .int p0)] := hl
  refine lv_aload_n hx hb dX10_follow_0 rfl (lv_at hl 0 rfl) ?_
  refine lv_iload_n hx hb dX10_follow_1 rfl (lv_at hl 1 rfl) ?_
  have hPc := hP.sub (ws' := [(h0, .inr (15, zM th b)), ((b 2), .inr (4, [.int 0, .ref e0, .int 0]))]) [0, 3] rfl
  have hDc := hD.sub (ws' := [(h0, .inr (15, zM th b)), ((b 2), .inr (4, [.int 0, .ref e0, .int 0]))]) [0, 3] (by decide) rfl
  have hKc := hK.sub (tys' := []) [] rfl
  have hFc := va_free (wc := [(h0, .inr (15, zM th b)), ((b 2), .inr (4, [.int 0, .ref e0, .int 0]))]) hD hS hA [0, 3] rfl
  have hEc := (hE.kept hS.2.1).narrow hFc
  refine va_calli (va_runV (As := [.int p0]) (rest := []) ⟨hx, hb, hml, hown, hts⟩ (c_X10_isTeam l htr dC dI e0 s.heap.size h0 th b p0) (cwV 1 hts gX10_follow_X10_isTeam rfl rfl rfl (by decide +kernel) ⟨Nat.le_of_ble_eq_true rfl, Nat.le_of_ble_eq_true rfl⟩) ⟨fun a U g mk q => by obtain ⟨q0, q1, qP, qK, qD, qE⟩ := q; exact ⟨q0, q1, qP, va_K.moved (u := U) (U := U.calling g mk a) (Vm.Alike.refl U.vm) qK, qD, zE.same rfl qE⟩, va_recv hKc hPc (ci := 15) (q0 := 0) rfl rfl, fun U hU hW => ⟨rfl, by rw [hU], by rw [hU]; exact hPc, va_K.moved hW.alike hKc, hDc.weaken (fun _ _ _ _ => trivial), by rw [hU]; exact zE.warm hW hEc⟩⟩ rfl rfl hl.1 rfl (lv_room (Nat.le_of_ble_eq_true rfl)) dX10_follow_2 ⟨Nat.le_of_ble_eq_true rfl, Nat.le_of_ble_eq_true rfl⟩) hS (fun q _ h => hFc q h) hFc (fun r1 u t H1 locs ht hvm hw hB hz1 hk1 hS => ?_)
  obtain ⟨hP1, hK1, hD1⟩ := hB
  rw [ht] at hP1
  obtain ⟨hP, hD⟩ := va_join (wr := [((b 0), .inr (4, [.int 0, .ref e0, .int 0])), ((b 1), .inr (4, [.int 0, .ref e0, .int 0])), ((b 3), .inr (4, [.int 0, .ref e0, .int 0]))]) (w1 := [(h0, .inr (15, zM th b)), ((b 2), .inr (4, [.int 0, .ref e0, .int 0]))]) hP hD [0, 3] [1, 2, 4] rfl rfl (by decide) (by decide) hk1 hFc hP1 hD1
  generalize H1 = H at hP hS ⊢
  have hP : va_P (dC, dI) vwCl [((b 0), .inr (4, [.int 0, .ref e0, .int 0])), ((b 1), .inr (4, [.int 0, .ref e0, .int 0])), ((b 3), .inr (4, [.int 0, .ref e0, .int 0])), (h0, .inr (15, zM th b)), ((b 2), .inr (4, [.int 0, .ref e0, .int 0]))] H := hP
  have hD : va_D A [((b 0), .inr (4, [.int 0, .ref e0, .int 0])), ((b 1), .inr (4, [.int 0, .ref e0, .int 0])), ((b 3), .inr (4, [.int 0, .ref e0, .int 0])), (h0, .inr (15, zM th b)), ((b 2), .inr (4, [.int 0, .ref e0, .int 0]))] := hD
  obtain rfl : r1 = 0 := hw
  refine lv_if_eq (tgt := 16) hx hb dX10_follow_5 (by decide) (fun _ => ?_) (fun c2 => absurd (by decide) c2)
  refine lv_bipush (v := 45) hx hb dX10_follow_16 (by decide) ?_
  refine lv_istore_n (lv' := [(2, .int 45), (0, .ref h0), (1, .int p0)]) hx hb dX10_follow_18 rfl hl (by decide) rfl (fun ls hl => ?_)
  refine lv_aload_n hx hb dX10_follow_19 rfl (lv_at hl 1 rfl) ?_
  refine lv_aload_n hx hb dX10_follow_20 rfl (lv_at hl 1 rfl) ?_
  refine lv_iload_n hx hb dX10_follow_21 rfl (lv_at hl 2 rfl) ?_
  have hPc := hP.sub (ws' := [(h0, .inr (15, zM th b)), ((b 2), .inr (4, [.int 0, .ref e0, .int 0]))]) [3, 4] rfl
  have hDc := hD.sub (ws' := [(h0, .inr (15, zM th b)), ((b 2), .inr (4, [.int 0, .ref e0, .int 0]))]) [3, 4] (by decide) rfl
  have hKc := hK.sub (tys' := []) [] rfl
  have hFc := va_free (wc := [(h0, .inr (15, zM th b)), ((b 2), .inr (4, [.int 0, .ref e0, .int 0]))]) hD hS hA [3, 4] rfl
  have hEc := (hE.kept hS.2.1).narrow hFc
  refine va_calli (va_runV (As := [.int p0]) (rest := [.ref h0]) ⟨hx, hb, hml, hown, hts⟩ (c_X10_isTeam l htr dC dI e0 H.size h0 th b p0) (cwV 1 hts gX10_follow_X10_isTeam rfl rfl rfl (by decide +kernel) ⟨Nat.le_of_ble_eq_true rfl, Nat.le_of_ble_eq_true rfl⟩) ⟨fun a U g mk q => by obtain ⟨q0, q1, qP, qK, qD, qE⟩ := q; exact ⟨q0, q1, qP, va_K.moved (u := U) (U := U.calling g mk a) (Vm.Alike.refl U.vm) qK, qD, zE.same rfl qE⟩, va_recv hKc hPc (ci := 15) (q0 := 0) rfl rfl, fun U hU hW => ⟨rfl, by rw [hU], by rw [hU]; exact hPc, va_K.moved hW.alike hKc, hDc.weaken (fun _ _ _ _ => trivial), by rw [hU]; exact zE.warm hW hEc⟩⟩ rfl rfl hl.1 rfl (lv_room (Nat.le_of_ble_eq_true rfl)) dX10_follow_22 ⟨Nat.le_of_ble_eq_true rfl, Nat.le_of_ble_eq_true rfl⟩) hS (fun q _ h => hFc q h) hFc (fun r3 u t H1 locs ht hvm hw hB hz1 hk1 hS => ?_)
  obtain ⟨hP1, hK1, hD1⟩ := hB
  rw [ht] at hP1
  obtain ⟨hP, hD⟩ := va_join (wr := [((b 0), .inr (4, [.int 0, .ref e0, .int 0])), ((b 1), .inr (4, [.int 0, .ref e0, .int 0])), ((b 3), .inr (4, [.int 0, .ref e0, .int 0]))]) (w1 := [(h0, .inr (15, zM th b)), ((b 2), .inr (4, [.int 0, .ref e0, .int 0]))]) hP hD [3, 4] [0, 1, 2] rfl rfl (by decide) (by decide) hk1 hFc hP1 hD1
  generalize H1 = H at hP hS ⊢
  have hP : va_P (dC, dI) vwCl [((b 0), .inr (4, [.int 0, .ref e0, .int 0])), ((b 1), .inr (4, [.int 0, .ref e0, .int 0])), ((b 3), .inr (4, [.int 0, .ref e0, .int 0])), (h0, .inr (15, zM th b)), ((b 2), .inr (4, [.int 0, .ref e0, .int 0]))] H := hP
  have hD : va_D A [((b 0), .inr (4, [.int 0, .ref e0, .int 0])), ((b 1), .inr (4, [.int 0, .ref e0, .int 0])), ((b 3), .inr (4, [.int 0, .ref e0, .int 0])), (h0, .inr (15, zM th b)), ((b 2), .inr (4, [.int 0, .ref e0, .int 0]))] := hD
  obtain rfl : r3 = 0 := hw
  refine lv_if_ne (tgt := 32) hx hb dX10_follow_25 (by decide) (fun c4 => absurd (by decide) c4) (fun _ => ?_)
  refine lv_iconst (v := 1) hx hb dX10_follow_28 (by decide) ?_
  refine lv_goto (tgt := 43) hx hb dX10_follow_29 (by decide) ?_
  have hPc := hP.sub (ws' := [(h0, .inr (15, zM th b))]) [3] rfl
  have hDc := hD.sub (ws' := [(h0, .inr (15, zM th b))]) [3] (by decide) rfl
  have hKc := hK.sub (tys' := []) [] rfl
  have hFc := va_free (wc := [(h0, .inr (15, zM th b))]) hD hS hA [3] rfl
  refine va_calli (va_runV (As := [.int 1]) (rest := []) ⟨hx, hb, hml, hown, hts⟩ (c_X10_goesOn l htr dC dI e0 H.size h0 th b 1) (cwV 1 hts gX10_follow_X10_goesOn rfl rfl rfl (by decide +kernel) ⟨Nat.le_of_ble_eq_true rfl, Nat.le_of_ble_eq_true rfl⟩) ⟨fun a U g mk q => by obtain ⟨q0, q1, qP, qK, qD⟩ := q; exact ⟨q0, q1, qP, va_K.moved (u := U) (U := U.calling g mk a) (Vm.Alike.refl U.vm) qK, qD⟩, va_recv hKc hPc (ci := 15) (q0 := 0) rfl rfl, fun U hU hW => ⟨rfl, by rw [hU], by rw [hU]; exact hPc, va_K.moved hW.alike hKc, hDc.weaken (fun _ _ _ _ => trivial)⟩⟩ rfl rfl hl.1 rfl (lv_room (Nat.le_of_ble_eq_true rfl)) dX10_follow_43 ⟨Nat.le_of_ble_eq_true rfl, Nat.le_of_ble_eq_true rfl⟩) hS (fun q _ h => hFc q h) hFc (fun r5 u t H1 locs ht hvm hw hB hz1 hk1 hS => ?_)
  obtain ⟨hP1, hK1, hD1⟩ := hB
  rw [ht] at hP1
  obtain ⟨hP, hD⟩ := va_join (wr := [((b 0), .inr (4, [.int 0, .ref e0, .int 0])), ((b 1), .inr (4, [.int 0, .ref e0, .int 0])), ((b 3), .inr (4, [.int 0, .ref e0, .int 0])), ((b 2), .inr (4, [.int 0, .ref e0, .int 0]))]) (w1 := [(h0, .inr (15, zM 1 b))]) hP hD [3] [0, 1, 2, 4] rfl rfl (by decide) (by decide) hk1 hFc hP1 hD1
  generalize H1 = H at hP hS ⊢
  have hP : va_P (dC, dI) vwCl [((b 0), .inr (4, [.int 0, .ref e0, .int 0])), ((b 1), .inr (4, [.int 0, .ref e0, .int 0])), ((b 3), .inr (4, [.int 0, .ref e0, .int 0])), ((b 2), .inr (4, [.int 0, .ref e0, .int 0])), (h0, .inr (15, zM 1 b))] H := hP
  have hD : va_D A [((b 0), .inr (4, [.int 0, .ref e0, .int 0])), ((b 1), .inr (4, [.int 0, .ref e0, .int 0])), ((b 3), .inr (4, [.int 0, .ref e0, .int 0])), ((b 2), .inr (4, [.int 0, .ref e0, .int 0])), (h0, .inr (15, zM 1 b))] := hD
  obtain rfl : r5 = 0 := hw.trans (by decide)
  refine lv_if_ne (tgt := 51) hx hb dX10_follow_46 (by decide) (fun c6 => absurd (by decide) c6) (fun _ => ?_)
  refine lv_iconst (v := 0) hx hb dX10_follow_49 (by decide) ?_
  have hP9 := hP.sub (ws' := [(h0, .inr (15, zM 1 b))]) [4] rfl
  have hD9 := hD.sub (ws' := [(h0, .inr (15, zM 1 b))]) [4] (by decide) rfl
  have hK9 := hK.sub (tys' := []) [] rfl
  exact W.iret (v := 0) hx hb hr (fun t ht hW => ⟨⟨0, (), rfl, rfl, ⟨by rw [ht]; exact hP9, va_K.moved hW.alike hK9, hD9⟩⟩, hS.F ht⟩) hS.2.2 dX10_follow_50

set_option maxRecDepth 20000 in
theorem ggX10_bestPlan_X10_goesOn : GoodIn wsX10_bestPlan wsX10_goesOn := goodIn_r _ [300, 301, 318, 319, 320, 321, 322, 323, 324, 325, 326, 327, 328] (by decide +kernel) (by decide +kernel)
set_option maxRecDepth 20000 in
theorem gX10_bestPlan_X10_goesOn : GoodIn wsX10_bestPlan (wsV RX10 78 RX10 yX10_goesOn wsX10_goesOn) := goodIn_app (goodIn_of _ (by decide +kernel)) ggX10_bestPlan_X10_goesOn
set_option maxRecDepth 20000 in
theorem ggX10_bestPlan_X10_isTeam : GoodIn wsX10_bestPlan wsX10_isTeam := goodIn_r _ [11, 5, 12, 13, 14, 4, 15, 16, 17, 18, 10, 19, 318, 319, 320, 321, 322, 323, 324, 325, 326, 327, 328, 315, 316, 317] (by decide +kernel) (by decide +kernel)
set_option maxRecDepth 20000 in
theorem gX10_bestPlan_X10_isTeam : GoodIn wsX10_bestPlan (wsV RX10 111 RX10 yX10_isTeam wsX10_isTeam) := goodIn_app (goodIn_of _ (by decide +kernel)) ggX10_bestPlan_X10_isTeam
theorem dX10_bestPlan_0 : decode cX10_bestPlan 0 = .ok (.aload_n 0, 1) := by decide +kernel
theorem dX10_bestPlan_1 : decode cX10_bestPlan 1 = .ok (.iload_n 1, 1) := by decide +kernel
theorem dX10_bestPlan_2 : decode cX10_bestPlan 2 = .ok (.invokevirtual 111, 3) := by decide +kernel
theorem dX10_bestPlan_5 : decode cX10_bestPlan 5 = .ok (.istore_n 3, 1) := by decide +kernel
theorem dX10_bestPlan_6 : decode cX10_bestPlan 6 = .ok (.iload_n 3, 1) := by decide +kernel
theorem dX10_bestPlan_7 : decode cX10_bestPlan 7 = .ok (.ifCond .eq 19, 3) := by decide +kernel
theorem dX10_bestPlan_26 : decode cX10_bestPlan 26 = .ok (.iconst 0, 1) := by decide +kernel
theorem dX10_bestPlan_27 : decode cX10_bestPlan 27 = .ok (.istore 4, 2) := by decide +kernel
theorem dX10_bestPlan_29 : decode cX10_bestPlan 29 = .ok (.iload 4, 2) := by decide +kernel
theorem dX10_bestPlan_31 : decode cX10_bestPlan 31 = .ok (.ifCond .eq 29, 3) := by decide +kernel
theorem dX10_bestPlan_60 : decode cX10_bestPlan 60 = .ok (.iconst 0, 1) := by decide +kernel
theorem dX10_bestPlan_61 : decode cX10_bestPlan 61 = .ok (.istore 5, 2) := by decide +kernel
theorem dX10_bestPlan_63 : decode cX10_bestPlan 63 = .ok (.aconst_null, 1) := by decide +kernel
theorem dX10_bestPlan_64 : decode cX10_bestPlan 64 = .ok (.astore 6, 2) := by decide +kernel
theorem dX10_bestPlan_66 : decode cX10_bestPlan 66 = .ok (.iconst 0, 1) := by decide +kernel
theorem dX10_bestPlan_67 : decode cX10_bestPlan 67 = .ok (.istore 7, 2) := by decide +kernel
theorem dX10_bestPlan_69 : decode cX10_bestPlan 69 = .ok (.iconst 0, 1) := by decide +kernel
theorem dX10_bestPlan_70 : decode cX10_bestPlan 70 = .ok (.istore 8, 2) := by decide +kernel
theorem dX10_bestPlan_72 : decode cX10_bestPlan 72 = .ok (.iload 8, 2) := by decide +kernel
theorem dX10_bestPlan_74 : decode cX10_bestPlan 74 = .ok (.iload 5, 2) := by decide +kernel
theorem dX10_bestPlan_76 : decode cX10_bestPlan 76 = .ok (.if_icmp .ge 122, 3) := by decide +kernel
theorem dX10_bestPlan_198 : decode cX10_bestPlan 198 = .ok (.aload_n 0, 1) := by decide +kernel
theorem dX10_bestPlan_199 : decode cX10_bestPlan 199 = .ok (.iload_n 3, 1) := by decide +kernel
theorem dX10_bestPlan_200 : decode cX10_bestPlan 200 = .ok (.ifCond .ne 7, 3) := by decide +kernel
theorem dX10_bestPlan_203 : decode cX10_bestPlan 203 = .ok (.iconst 1, 1) := by decide +kernel
theorem dX10_bestPlan_204 : decode cX10_bestPlan 204 = .ok (.goto 22, 3) := by decide +kernel
theorem dX10_bestPlan_226 : decode cX10_bestPlan 226 = .ok (.invokevirtual 78, 3) := by decide +kernel
theorem dX10_bestPlan_229 : decode cX10_bestPlan 229 = .ok (.ifCond .ne 5, 3) := by decide +kernel
theorem dX10_bestPlan_232 : decode cX10_bestPlan 232 = .ok (.iconst 0, 1) := by decide +kernel
theorem dX10_bestPlan_233 : decode cX10_bestPlan 233 = .ok (.ireturn, 1) := by decide +kernel
set_option maxHeartbeats 4000000 in
set_option maxRecDepth 100000 in
theorem c_X10_bestPlan (l : Launch) (htr : l.stackTraces = false) (dC : Nat → ClassId) (dI : Nat → Nat → Nat) (e0 sz : Nat) (h0 : Nat) (th : Int32) (b : Nat → Nat) (p0 : Int32) (p1 : Int32) : Met l yX10_bestPlan wsX10_bestPlan ({ frames := 2, cells := 0, slots := 0, locals := 46 }) (va_Pc [.ref h0, .int p0, .int p1] (fun U => U.heap.size = sz ∧ va_P (dC, dI) vwCl [(h0, .inr (15, zM th b)), ((b 0), .inr (4, [.int 0, .ref e0, .int 0])), ((b 1), .inr (4, [.int 0, .ref e0, .int 0])), ((b 2), .inr (4, [.int 0, .ref e0, .int 0])), ((b 3), .inr (4, [.int 0, .ref e0, .int 0]))] U.heap ∧ va_K (dC, dI) vwCl [] U ∧ va_D (fun _ => True) [(h0, .inr (15, zM th b)), ((b 0), .inr (4, [.int 0, .ref e0, .int 0])), ((b 1), .inr (4, [.int 0, .ref e0, .int 0])), ((b 2), .inr (4, [.int 0, .ref e0, .int 0])), ((b 3), .inr (4, [.int 0, .ref e0, .int 0]))] ∧ zE e0 (va_A [(h0, .inr (15, zM th b)), ((b 0), .inr (4, [.int 0, .ref e0, .int 0])), ((b 1), .inr (4, [.int 0, .ref e0, .int 0])), ((b 2), .inr (4, [.int 0, .ref e0, .int 0])), ((b 3), .inr (4, [.int 0, .ref e0, .int 0]))] sz) U U.heap)) (va_Qi (fun (r : Int32) (_ : Unit) => r = 0) (fun _ t => va_P (dC, dI) vwCl [(h0, .inr (15, zM 1 b))] t.heap ∧ va_K (dC, dI) vwCl [] t ∧ va_D (va_A [(h0, .inr (15, zM th b)), ((b 0), .inr (4, [.int 0, .ref e0, .int 0])), ((b 1), .inr (4, [.int 0, .ref e0, .int 0])), ((b 2), .inr (4, [.int 0, .ref e0, .int 0])), ((b 3), .inr (4, [.int 0, .ref e0, .int 0]))] sz) [(h0, .inr (15, zM 1 b))]) (va_A [(h0, .inr (15, zM th b)), ((b 0), .inr (4, [.int 0, .ref e0, .int 0])), ((b 1), .inr (4, [.int 0, .ref e0, .int 0])), ((b 2), .inr (4, [.int 0, .ref e0, .int 0])), ((b 3), .inr (4, [.int 0, .ref e0, .int 0]))] sz)) 0 0 (va_A [(h0, .inr (15, zM th b)), ((b 0), .inr (4, [.int 0, .ref e0, .int 0])), ((b 1), .inr (4, [.int 0, .ref e0, .int 0])), ((b 2), .inr (4, [.int 0, .ref e0, .int 0])), ((b 3), .inr (4, [.int 0, .ref e0, .int 0]))] sz) := by
  refine Met.ofW (cc := cX10_bestPlan) (maxL := 12) (ret := (some .int)) (by decide) rfl ?_
  intro p e s m args below meth c s₁ B hml hv
  obtain ⟨rfl, hsz, hP, hK, hD0, hE⟩ := hv
  have hx := B.exec
  have hb := B.bytes
  have hr := B.returns
  have hts := atoms_spec (ws := wsX10_bestPlan) B.pre
  have hown : s.vm.findClass RX10 = some m.cls := findClass_of_methodNamed B.named
  have hlocks := B.notSynchronized
  subst hsz
  have hD := hD0.self (sz := s.heap.size)
  generalize hAe : va_A [(h0, .inr (15, zM th b)), ((b 0), .inr (4, [.int 0, .ref e0, .int 0])), ((b 1), .inr (4, [.int 0, .ref e0, .int 0])), ((b 2), .inr (4, [.int 0, .ref e0, .int 0])), ((b 3), .inr (4, [.int 0, .ref e0, .int 0]))] s.heap.size = A at hD hE ⊢
  have hA : ∀ q : Nat, s.heap.size ≤ q → A q := fun q h => by rw [← hAe]; exact Or.inr h
  have hS : va_S A s.heap s.heap [] := va_S.rf
  have hl := lv_entry ([.ref h0, .int p0, .int p1]) (n := 12) (Nat.le_of_ble_eq_true rfl)
  rw [lg_entry_eq]
  generalize (lg_sl ([.ref h0, .int p0, .int p1]) ++ List.replicate (12 - (lg_sl ([.ref h0, .int p0, .int p1])).length) Slot.unset).toArray = ls at hl ⊢
  have hl : lv_has ls 12 [(0, .ref h0), (1, .int p0), (2, .int p1)] := hl
  refine lv_aload_n hx hb dX10_bestPlan_0 rfl (lv_at hl 0 rfl) ?_
  refine lv_iload_n hx hb dX10_bestPlan_1 rfl (lv_at hl 1 rfl) ?_
  have hPc := hP.sub (ws' := [(h0, .inr (15, zM th b)), ((b 2), .inr (4, [.int 0, .ref e0, .int 0]))]) [0, 3] rfl
  have hDc := hD.sub (ws' := [(h0, .inr (15, zM th b)), ((b 2), .inr (4, [.int 0, .ref e0, .int 0]))]) [0, 3] (by decide) rfl
  have hKc := hK.sub (tys' := []) [] rfl
  have hFc := va_free (wc := [(h0, .inr (15, zM th b)), ((b 2), .inr (4, [.int 0, .ref e0, .int 0]))]) hD hS hA [0, 3] rfl
  have hEc := (hE.kept hS.2.1).narrow hFc
  refine va_calli (va_runV (As := [.int p0]) (rest := []) ⟨hx, hb, hml, hown, hts⟩ (c_X10_isTeam l htr dC dI e0 s.heap.size h0 th b p0) (cwV 1 hts gX10_bestPlan_X10_isTeam rfl rfl rfl (by decide +kernel) ⟨Nat.le_of_ble_eq_true rfl, Nat.le_of_ble_eq_true rfl⟩) ⟨fun a U g mk q => by obtain ⟨q0, q1, qP, qK, qD, qE⟩ := q; exact ⟨q0, q1, qP, va_K.moved (u := U) (U := U.calling g mk a) (Vm.Alike.refl U.vm) qK, qD, zE.same rfl qE⟩, va_recv hKc hPc (ci := 15) (q0 := 0) rfl rfl, fun U hU hW => ⟨rfl, by rw [hU], by rw [hU]; exact hPc, va_K.moved hW.alike hKc, hDc.weaken (fun _ _ _ _ => trivial), by rw [hU]; exact zE.warm hW hEc⟩⟩ rfl rfl hl.1 rfl (lv_room (Nat.le_of_ble_eq_true rfl)) dX10_bestPlan_2 ⟨Nat.le_of_ble_eq_true rfl, Nat.le_of_ble_eq_true rfl⟩) hS (fun q _ h => hFc q h) hFc (fun r1 u t H1 locs ht hvm hw hB hz1 hk1 hS => ?_)
  obtain ⟨hP1, hK1, hD1⟩ := hB
  rw [ht] at hP1
  obtain ⟨hP, hD⟩ := va_join (wr := [((b 0), .inr (4, [.int 0, .ref e0, .int 0])), ((b 1), .inr (4, [.int 0, .ref e0, .int 0])), ((b 3), .inr (4, [.int 0, .ref e0, .int 0]))]) (w1 := [(h0, .inr (15, zM th b)), ((b 2), .inr (4, [.int 0, .ref e0, .int 0]))]) hP hD [0, 3] [1, 2, 4] rfl rfl (by decide) (by decide) hk1 hFc hP1 hD1
  generalize H1 = H at hP hS ⊢
  have hP : va_P (dC, dI) vwCl [((b 0), .inr (4, [.int 0, .ref e0, .int 0])), ((b 1), .inr (4, [.int 0, .ref e0, .int 0])), ((b 3), .inr (4, [.int 0, .ref e0, .int 0])), (h0, .inr (15, zM th b)), ((b 2), .inr (4, [.int 0, .ref e0, .int 0]))] H := hP
  have hD : va_D A [((b 0), .inr (4, [.int 0, .ref e0, .int 0])), ((b 1), .inr (4, [.int 0, .ref e0, .int 0])), ((b 3), .inr (4, [.int 0, .ref e0, .int 0])), (h0, .inr (15, zM th b)), ((b 2), .inr (4, [.int 0, .ref e0, .int 0]))] := hD
  obtain rfl : r1 = 0 := hw
  refine lv_istore_n (lv' := [(3, .int 0), (0, .ref h0), (1, .int p0), (2, .int p1)]) hx hb dX10_bestPlan_5 rfl hl (by decide) rfl (fun ls hl => ?_)
  refine lv_iload_n hx hb dX10_bestPlan_6 rfl (lv_at hl 0 rfl) ?_
  refine lv_if_eq (tgt := 26) hx hb dX10_bestPlan_7 (by decide) (fun _ => ?_) (fun c2 => absurd (by decide) c2)
  refine lv_iconst (v := 0) hx hb dX10_bestPlan_26 (by decide) ?_
  refine lv_istore (lv' := [(4, .int 0), (3, .int 0), (0, .ref h0), (1, .int p0), (2, .int p1)]) hx hb dX10_bestPlan_27 hl (by decide) rfl (fun ls hl => ?_)
  refine lv_iload hx hb dX10_bestPlan_29 (lv_at hl 0 rfl) ?_
  refine lv_if_eq (tgt := 60) hx hb dX10_bestPlan_31 (by decide) (fun _ => ?_) (fun c3 => absurd (by decide) c3)
  refine lv_iconst (v := 0) hx hb dX10_bestPlan_60 (by decide) ?_
  refine lv_istore (lv' := [(5, .int 0), (4, .int 0), (3, .int 0), (0, .ref h0), (1, .int p0), (2, .int p1)]) hx hb dX10_bestPlan_61 hl (by decide) rfl (fun ls hl => ?_)
  refine lv_null hx hb dX10_bestPlan_63 ?_
  refine lv_astoreN (lv' := [(6, .null), (5, .int 0), (4, .int 0), (3, .int 0), (0, .ref h0), (1, .int p0), (2, .int p1)]) hx hb dX10_bestPlan_64 hl (by decide) rfl (fun ls hl => ?_)
  refine lv_iconst (v := 0) hx hb dX10_bestPlan_66 (by decide) ?_
  refine lv_istore (lv' := [(7, .int 0), (6, .null), (5, .int 0), (4, .int 0), (3, .int 0), (0, .ref h0), (1, .int p0), (2, .int p1)]) hx hb dX10_bestPlan_67 hl (by decide) rfl (fun ls hl => ?_)
  refine lv_iconst (v := 0) hx hb dX10_bestPlan_69 (by decide) ?_
  refine lv_istore (lv' := [(8, .int 0), (7, .int 0), (6, .null), (5, .int 0), (4, .int 0), (3, .int 0), (0, .ref h0), (1, .int p0), (2, .int p1)]) hx hb dX10_bestPlan_70 hl (by decide) rfl (fun ls hl => ?_)
  refine lv_iload hx hb dX10_bestPlan_72 (lv_at hl 0 rfl) ?_
  refine lv_iload hx hb dX10_bestPlan_74 (lv_at hl 3 rfl) ?_
  refine lv_icmp_ge (tgt := 198) hx hb dX10_bestPlan_76 (by decide) (fun _ => ?_) (fun c4 => absurd (by decide) c4)
  refine lv_aload_n hx hb dX10_bestPlan_198 rfl (lv_at hl 6 rfl) ?_
  refine lv_iload_n hx hb dX10_bestPlan_199 rfl (lv_at hl 5 rfl) ?_
  refine lv_if_ne (tgt := 207) hx hb dX10_bestPlan_200 (by decide) (fun c5 => absurd (by decide) c5) (fun _ => ?_)
  refine lv_iconst (v := 1) hx hb dX10_bestPlan_203 (by decide) ?_
  refine lv_goto (tgt := 226) hx hb dX10_bestPlan_204 (by decide) ?_
  have hPc := hP.sub (ws' := [(h0, .inr (15, zM th b))]) [3] rfl
  have hDc := hD.sub (ws' := [(h0, .inr (15, zM th b))]) [3] (by decide) rfl
  have hKc := hK.sub (tys' := []) [] rfl
  have hFc := va_free (wc := [(h0, .inr (15, zM th b))]) hD hS hA [3] rfl
  refine va_calli (va_runV (As := [.int 1]) (rest := []) ⟨hx, hb, hml, hown, hts⟩ (c_X10_goesOn l htr dC dI e0 H.size h0 th b 1) (cwV 1 hts gX10_bestPlan_X10_goesOn rfl rfl rfl (by decide +kernel) ⟨Nat.le_of_ble_eq_true rfl, Nat.le_of_ble_eq_true rfl⟩) ⟨fun a U g mk q => by obtain ⟨q0, q1, qP, qK, qD⟩ := q; exact ⟨q0, q1, qP, va_K.moved (u := U) (U := U.calling g mk a) (Vm.Alike.refl U.vm) qK, qD⟩, va_recv hKc hPc (ci := 15) (q0 := 0) rfl rfl, fun U hU hW => ⟨rfl, by rw [hU], by rw [hU]; exact hPc, va_K.moved hW.alike hKc, hDc.weaken (fun _ _ _ _ => trivial)⟩⟩ rfl rfl hl.1 rfl (lv_room (Nat.le_of_ble_eq_true rfl)) dX10_bestPlan_226 ⟨Nat.le_of_ble_eq_true rfl, Nat.le_of_ble_eq_true rfl⟩) hS (fun q _ h => hFc q h) hFc (fun r6 u t H1 locs ht hvm hw hB hz1 hk1 hS => ?_)
  obtain ⟨hP1, hK1, hD1⟩ := hB
  rw [ht] at hP1
  obtain ⟨hP, hD⟩ := va_join (wr := [((b 0), .inr (4, [.int 0, .ref e0, .int 0])), ((b 1), .inr (4, [.int 0, .ref e0, .int 0])), ((b 3), .inr (4, [.int 0, .ref e0, .int 0])), ((b 2), .inr (4, [.int 0, .ref e0, .int 0]))]) (w1 := [(h0, .inr (15, zM 1 b))]) hP hD [3] [0, 1, 2, 4] rfl rfl (by decide) (by decide) hk1 hFc hP1 hD1
  generalize H1 = H at hP hS ⊢
  have hP : va_P (dC, dI) vwCl [((b 0), .inr (4, [.int 0, .ref e0, .int 0])), ((b 1), .inr (4, [.int 0, .ref e0, .int 0])), ((b 3), .inr (4, [.int 0, .ref e0, .int 0])), ((b 2), .inr (4, [.int 0, .ref e0, .int 0])), (h0, .inr (15, zM 1 b))] H := hP
  have hD : va_D A [((b 0), .inr (4, [.int 0, .ref e0, .int 0])), ((b 1), .inr (4, [.int 0, .ref e0, .int 0])), ((b 3), .inr (4, [.int 0, .ref e0, .int 0])), ((b 2), .inr (4, [.int 0, .ref e0, .int 0])), (h0, .inr (15, zM 1 b))] := hD
  obtain rfl : r6 = 0 := hw.trans (by decide)
  refine lv_if_ne (tgt := 234) hx hb dX10_bestPlan_229 (by decide) (fun c7 => absurd (by decide) c7) (fun _ => ?_)
  refine lv_iconst (v := 0) hx hb dX10_bestPlan_232 (by decide) ?_
  have hP9 := hP.sub (ws' := [(h0, .inr (15, zM 1 b))]) [4] rfl
  have hD9 := hD.sub (ws' := [(h0, .inr (15, zM 1 b))]) [4] (by decide) rfl
  have hK9 := hK.sub (tys' := []) [] rfl
  exact W.iret (v := 0) hx hb hr (fun t ht hW => ⟨⟨0, (), rfl, rfl, ⟨by rw [ht]; exact hP9, va_K.moved hW.alike hK9, hD9⟩⟩, hS.F ht⟩) hS.2.2 dX10_bestPlan_233

set_option maxRecDepth 20000 in
theorem ggX10_why_X10_goesOn : GoodIn wsX10_why wsX10_goesOn := goodIn_r _ [20, 21, 39, 40, 41, 42, 43, 44, 45, 46, 47, 48, 49] (by decide +kernel) (by decide +kernel)
set_option maxRecDepth 20000 in
theorem gX10_why_X10_goesOn : GoodIn wsX10_why (wsV RX10 78 RX10 yX10_goesOn wsX10_goesOn) := goodIn_app (goodIn_of _ (by decide +kernel)) ggX10_why_X10_goesOn
set_option maxRecDepth 20000 in
theorem ggX10_why_X10_isTeam : GoodIn wsX10_why wsX10_isTeam := goodIn_r _ [7, 1, 8, 9, 10, 11, 12, 13, 14, 15, 6, 16, 39, 40, 41, 42, 43, 44, 45, 46, 47, 48, 49, 72, 73, 74] (by decide +kernel) (by decide +kernel)
set_option maxRecDepth 20000 in
theorem gX10_why_X10_isTeam : GoodIn wsX10_why (wsV RX10 111 RX10 yX10_isTeam wsX10_isTeam) := goodIn_app (goodIn_of _ (by decide +kernel)) ggX10_why_X10_isTeam
theorem dX10_why_0 : decode cX10_why 0 = .ok (.aload_n 0, 1) := by decide +kernel
theorem dX10_why_1 : decode cX10_why 1 = .ok (.aload_n 0, 1) := by decide +kernel
theorem dX10_why_2 : decode cX10_why 2 = .ok (.iload_n 1, 1) := by decide +kernel
theorem dX10_why_3 : decode cX10_why 3 = .ok (.invokevirtual 111, 3) := by decide +kernel
theorem dX10_why_6 : decode cX10_why 6 = .ok (.ifCond .eq 7, 3) := by decide +kernel
theorem dX10_why_13 : decode cX10_why 13 = .ok (.iconst 1, 1) := by decide +kernel
theorem dX10_why_14 : decode cX10_why 14 = .ok (.invokevirtual 78, 3) := by decide +kernel
theorem dX10_why_17 : decode cX10_why 17 = .ok (.ifCond .eq 22, 3) := by decide +kernel
theorem dX10_why_39 : decode cX10_why 39 = .ok (.iconst 0, 1) := by decide +kernel
theorem dX10_why_40 : decode cX10_why 40 = .ok (.ireturn, 1) := by decide +kernel
set_option maxHeartbeats 4000000 in
set_option maxRecDepth 100000 in
theorem c_X10_why (l : Launch) (htr : l.stackTraces = false) (dC : Nat → ClassId) (dI : Nat → Nat → Nat) (e0 sz : Nat) (h0 : Nat) (th : Int32) (b : Nat → Nat) (p0 : Int32) : Met l yX10_why wsX10_why ({ frames := 2, cells := 0, slots := 0, locals := 46 }) (va_Pc [.ref h0, .int p0] (fun U => U.heap.size = sz ∧ va_P (dC, dI) vwCl [(h0, .inr (15, zM th b)), ((b 0), .inr (4, [.int 0, .ref e0, .int 0])), ((b 1), .inr (4, [.int 0, .ref e0, .int 0])), ((b 2), .inr (4, [.int 0, .ref e0, .int 0])), ((b 3), .inr (4, [.int 0, .ref e0, .int 0]))] U.heap ∧ va_K (dC, dI) vwCl [] U ∧ va_D (fun _ => True) [(h0, .inr (15, zM th b)), ((b 0), .inr (4, [.int 0, .ref e0, .int 0])), ((b 1), .inr (4, [.int 0, .ref e0, .int 0])), ((b 2), .inr (4, [.int 0, .ref e0, .int 0])), ((b 3), .inr (4, [.int 0, .ref e0, .int 0]))] ∧ zE e0 (va_A [(h0, .inr (15, zM th b)), ((b 0), .inr (4, [.int 0, .ref e0, .int 0])), ((b 1), .inr (4, [.int 0, .ref e0, .int 0])), ((b 2), .inr (4, [.int 0, .ref e0, .int 0])), ((b 3), .inr (4, [.int 0, .ref e0, .int 0]))] sz) U U.heap)) (va_Qi (fun (r : Int32) (_ : Unit) => r = 0) (fun _ t => va_P (dC, dI) vwCl [(h0, .inr (15, zM 1 b))] t.heap ∧ va_K (dC, dI) vwCl [] t ∧ va_D (va_A [(h0, .inr (15, zM th b)), ((b 0), .inr (4, [.int 0, .ref e0, .int 0])), ((b 1), .inr (4, [.int 0, .ref e0, .int 0])), ((b 2), .inr (4, [.int 0, .ref e0, .int 0])), ((b 3), .inr (4, [.int 0, .ref e0, .int 0]))] sz) [(h0, .inr (15, zM 1 b))]) (va_A [(h0, .inr (15, zM th b)), ((b 0), .inr (4, [.int 0, .ref e0, .int 0])), ((b 1), .inr (4, [.int 0, .ref e0, .int 0])), ((b 2), .inr (4, [.int 0, .ref e0, .int 0])), ((b 3), .inr (4, [.int 0, .ref e0, .int 0]))] sz)) 0 0 (va_A [(h0, .inr (15, zM th b)), ((b 0), .inr (4, [.int 0, .ref e0, .int 0])), ((b 1), .inr (4, [.int 0, .ref e0, .int 0])), ((b 2), .inr (4, [.int 0, .ref e0, .int 0])), ((b 3), .inr (4, [.int 0, .ref e0, .int 0]))] sz) := by
  refine Met.ofW (cc := cX10_why) (maxL := 2) (ret := (some .char)) (by decide) rfl ?_
  intro p e s m args below meth c s₁ B hml hv
  obtain ⟨rfl, hsz, hP, hK, hD0, hE⟩ := hv
  have hx := B.exec
  have hb := B.bytes
  have hr := B.returns
  have hts := atoms_spec (ws := wsX10_why) B.pre
  have hown : s.vm.findClass RX10 = some m.cls := findClass_of_methodNamed B.named
  have hlocks := B.notSynchronized
  subst hsz
  have hD := hD0.self (sz := s.heap.size)
  generalize hAe : va_A [(h0, .inr (15, zM th b)), ((b 0), .inr (4, [.int 0, .ref e0, .int 0])), ((b 1), .inr (4, [.int 0, .ref e0, .int 0])), ((b 2), .inr (4, [.int 0, .ref e0, .int 0])), ((b 3), .inr (4, [.int 0, .ref e0, .int 0]))] s.heap.size = A at hD hE ⊢
  have hA : ∀ q : Nat, s.heap.size ≤ q → A q := fun q h => by rw [← hAe]; exact Or.inr h
  have hS : va_S A s.heap s.heap [] := va_S.rf
  have hl := lv_entry ([.ref h0, .int p0]) (n := 2) (Nat.le_of_ble_eq_true rfl)
  rw [lg_entry_eq]
  generalize (lg_sl ([.ref h0, .int p0]) ++ List.replicate (2 - (lg_sl ([.ref h0, .int p0])).length) Slot.unset).toArray = ls at hl ⊢
  have hl : lv_has ls 2 [(0, .ref h0), (1, .int p0)] := hl
  refine lv_aload_n hx hb dX10_why_0 rfl (lv_at hl 0 rfl) ?_
  refine lv_aload_n hx hb dX10_why_1 rfl (lv_at hl 0 rfl) ?_
  refine lv_iload_n hx hb dX10_why_2 rfl (lv_at hl 1 rfl) ?_
  have hPc := hP.sub (ws' := [(h0, .inr (15, zM th b)), ((b 2), .inr (4, [.int 0, .ref e0, .int 0]))]) [0, 3] rfl
  have hDc := hD.sub (ws' := [(h0, .inr (15, zM th b)), ((b 2), .inr (4, [.int 0, .ref e0, .int 0]))]) [0, 3] (by decide) rfl
  have hKc := hK.sub (tys' := []) [] rfl
  have hFc := va_free (wc := [(h0, .inr (15, zM th b)), ((b 2), .inr (4, [.int 0, .ref e0, .int 0]))]) hD hS hA [0, 3] rfl
  have hEc := (hE.kept hS.2.1).narrow hFc
  refine va_calli (va_runV (As := [.int p0]) (rest := [.ref h0]) ⟨hx, hb, hml, hown, hts⟩ (c_X10_isTeam l htr dC dI e0 s.heap.size h0 th b p0) (cwV 1 hts gX10_why_X10_isTeam rfl rfl rfl (by decide +kernel) ⟨Nat.le_of_ble_eq_true rfl, Nat.le_of_ble_eq_true rfl⟩) ⟨fun a U g mk q => by obtain ⟨q0, q1, qP, qK, qD, qE⟩ := q; exact ⟨q0, q1, qP, va_K.moved (u := U) (U := U.calling g mk a) (Vm.Alike.refl U.vm) qK, qD, zE.same rfl qE⟩, va_recv hKc hPc (ci := 15) (q0 := 0) rfl rfl, fun U hU hW => ⟨rfl, by rw [hU], by rw [hU]; exact hPc, va_K.moved hW.alike hKc, hDc.weaken (fun _ _ _ _ => trivial), by rw [hU]; exact zE.warm hW hEc⟩⟩ rfl rfl hl.1 rfl (lv_room (Nat.le_of_ble_eq_true rfl)) dX10_why_3 ⟨Nat.le_of_ble_eq_true rfl, Nat.le_of_ble_eq_true rfl⟩) hS (fun q _ h => hFc q h) hFc (fun r1 u t H1 locs ht hvm hw hB hz1 hk1 hS => ?_)
  obtain ⟨hP1, hK1, hD1⟩ := hB
  rw [ht] at hP1
  obtain ⟨hP, hD⟩ := va_join (wr := [((b 0), .inr (4, [.int 0, .ref e0, .int 0])), ((b 1), .inr (4, [.int 0, .ref e0, .int 0])), ((b 3), .inr (4, [.int 0, .ref e0, .int 0]))]) (w1 := [(h0, .inr (15, zM th b)), ((b 2), .inr (4, [.int 0, .ref e0, .int 0]))]) hP hD [0, 3] [1, 2, 4] rfl rfl (by decide) (by decide) hk1 hFc hP1 hD1
  generalize H1 = H at hP hS ⊢
  have hP : va_P (dC, dI) vwCl [((b 0), .inr (4, [.int 0, .ref e0, .int 0])), ((b 1), .inr (4, [.int 0, .ref e0, .int 0])), ((b 3), .inr (4, [.int 0, .ref e0, .int 0])), (h0, .inr (15, zM th b)), ((b 2), .inr (4, [.int 0, .ref e0, .int 0]))] H := hP
  have hD : va_D A [((b 0), .inr (4, [.int 0, .ref e0, .int 0])), ((b 1), .inr (4, [.int 0, .ref e0, .int 0])), ((b 3), .inr (4, [.int 0, .ref e0, .int 0])), (h0, .inr (15, zM th b)), ((b 2), .inr (4, [.int 0, .ref e0, .int 0]))] := hD
  obtain rfl : r1 = 0 := hw
  refine lv_if_eq (tgt := 13) hx hb dX10_why_6 (by decide) (fun _ => ?_) (fun c2 => absurd (by decide) c2)
  refine lv_iconst (v := 1) hx hb dX10_why_13 (by decide) ?_
  have hPc := hP.sub (ws' := [(h0, .inr (15, zM th b))]) [3] rfl
  have hDc := hD.sub (ws' := [(h0, .inr (15, zM th b))]) [3] (by decide) rfl
  have hKc := hK.sub (tys' := []) [] rfl
  have hFc := va_free (wc := [(h0, .inr (15, zM th b))]) hD hS hA [3] rfl
  refine va_calli (va_runV (As := [.int 1]) (rest := []) ⟨hx, hb, hml, hown, hts⟩ (c_X10_goesOn l htr dC dI e0 H.size h0 th b 1) (cwV 1 hts gX10_why_X10_goesOn rfl rfl rfl (by decide +kernel) ⟨Nat.le_of_ble_eq_true rfl, Nat.le_of_ble_eq_true rfl⟩) ⟨fun a U g mk q => by obtain ⟨q0, q1, qP, qK, qD⟩ := q; exact ⟨q0, q1, qP, va_K.moved (u := U) (U := U.calling g mk a) (Vm.Alike.refl U.vm) qK, qD⟩, va_recv hKc hPc (ci := 15) (q0 := 0) rfl rfl, fun U hU hW => ⟨rfl, by rw [hU], by rw [hU]; exact hPc, va_K.moved hW.alike hKc, hDc.weaken (fun _ _ _ _ => trivial)⟩⟩ rfl rfl hl.1 rfl (lv_room (Nat.le_of_ble_eq_true rfl)) dX10_why_14 ⟨Nat.le_of_ble_eq_true rfl, Nat.le_of_ble_eq_true rfl⟩) hS (fun q _ h => hFc q h) hFc (fun r3 u t H1 locs ht hvm hw hB hz1 hk1 hS => ?_)
  obtain ⟨hP1, hK1, hD1⟩ := hB
  rw [ht] at hP1
  obtain ⟨hP, hD⟩ := va_join (wr := [((b 0), .inr (4, [.int 0, .ref e0, .int 0])), ((b 1), .inr (4, [.int 0, .ref e0, .int 0])), ((b 3), .inr (4, [.int 0, .ref e0, .int 0])), ((b 2), .inr (4, [.int 0, .ref e0, .int 0]))]) (w1 := [(h0, .inr (15, zM 1 b))]) hP hD [3] [0, 1, 2, 4] rfl rfl (by decide) (by decide) hk1 hFc hP1 hD1
  generalize H1 = H at hP hS ⊢
  have hP : va_P (dC, dI) vwCl [((b 0), .inr (4, [.int 0, .ref e0, .int 0])), ((b 1), .inr (4, [.int 0, .ref e0, .int 0])), ((b 3), .inr (4, [.int 0, .ref e0, .int 0])), ((b 2), .inr (4, [.int 0, .ref e0, .int 0])), (h0, .inr (15, zM 1 b))] H := hP
  have hD : va_D A [((b 0), .inr (4, [.int 0, .ref e0, .int 0])), ((b 1), .inr (4, [.int 0, .ref e0, .int 0])), ((b 3), .inr (4, [.int 0, .ref e0, .int 0])), ((b 2), .inr (4, [.int 0, .ref e0, .int 0])), (h0, .inr (15, zM 1 b))] := hD
  obtain rfl : r3 = 0 := hw.trans (by decide)
  refine lv_if_eq (tgt := 39) hx hb dX10_why_17 (by decide) (fun _ => ?_) (fun c4 => absurd (by decide) c4)
  refine lv_iconst (v := 0) hx hb dX10_why_39 (by decide) ?_
  have hP9 := hP.sub (ws' := [(h0, .inr (15, zM 1 b))]) [4] rfl
  have hD9 := hD.sub (ws' := [(h0, .inr (15, zM 1 b))]) [4] (by decide) rfl
  have hK9 := hK.sub (tys' := []) [] rfl
  exact W.zret (v := 0) hx hb hr (by decide) (fun t ht hW => ⟨⟨0, (), rfl, rfl, ⟨by rw [ht]; exact hP9, va_K.moved hW.alike hK9, hD9⟩⟩, hS.F ht⟩) hS.2.2 dX10_why_40

set_option maxRecDepth 20000 in
theorem ggX10_raceOf_X10_goesOn : GoodIn wsX10_raceOf wsX10_goesOn := goodIn_r _ [20, 21, 39, 40, 41, 42, 43, 44, 45, 46, 47, 48, 49] (by decide +kernel) (by decide +kernel)
set_option maxRecDepth 20000 in
theorem gX10_raceOf_X10_goesOn : GoodIn wsX10_raceOf (wsV RX10 78 RX10 yX10_goesOn wsX10_goesOn) := goodIn_app (goodIn_of _ (by decide +kernel)) ggX10_raceOf_X10_goesOn
set_option maxRecDepth 20000 in
theorem ggX10_raceOf_X10_isTeam : GoodIn wsX10_raceOf wsX10_isTeam := goodIn_r _ [7, 1, 8, 9, 10, 11, 12, 13, 14, 15, 6, 16, 39, 40, 41, 42, 43, 44, 45, 46, 47, 48, 49, 72, 73, 74] (by decide +kernel) (by decide +kernel)
set_option maxRecDepth 20000 in
theorem gX10_raceOf_X10_isTeam : GoodIn wsX10_raceOf (wsV RX10 111 RX10 yX10_isTeam wsX10_isTeam) := goodIn_app (goodIn_of _ (by decide +kernel)) ggX10_raceOf_X10_isTeam
theorem dX10_raceOf_0 : decode cX10_raceOf 0 = .ok (.aload_n 0, 1) := by decide +kernel
theorem dX10_raceOf_1 : decode cX10_raceOf 1 = .ok (.aload_n 0, 1) := by decide +kernel
theorem dX10_raceOf_2 : decode cX10_raceOf 2 = .ok (.iload_n 1, 1) := by decide +kernel
theorem dX10_raceOf_3 : decode cX10_raceOf 3 = .ok (.invokevirtual 111, 3) := by decide +kernel
theorem dX10_raceOf_6 : decode cX10_raceOf 6 = .ok (.ifCond .eq 7, 3) := by decide +kernel
theorem dX10_raceOf_13 : decode cX10_raceOf 13 = .ok (.iconst 1, 1) := by decide +kernel
theorem dX10_raceOf_14 : decode cX10_raceOf 14 = .ok (.invokevirtual 78, 3) := by decide +kernel
theorem dX10_raceOf_17 : decode cX10_raceOf 17 = .ok (.ifCond .eq 22, 3) := by decide +kernel
theorem dX10_raceOf_39 : decode cX10_raceOf 39 = .ok (.iconst 0, 1) := by decide +kernel
theorem dX10_raceOf_40 : decode cX10_raceOf 40 = .ok (.ireturn, 1) := by decide +kernel
set_option maxHeartbeats 4000000 in
set_option maxRecDepth 100000 in
theorem c_X10_raceOf (l : Launch) (htr : l.stackTraces = false) (dC : Nat → ClassId) (dI : Nat → Nat → Nat) (e0 sz : Nat) (h0 : Nat) (th : Int32) (b : Nat → Nat) (p0 : Int32) : Met l yX10_raceOf wsX10_raceOf ({ frames := 2, cells := 0, slots := 0, locals := 46 }) (va_Pc [.ref h0, .int p0] (fun U => U.heap.size = sz ∧ va_P (dC, dI) vwCl [(h0, .inr (15, zM th b)), ((b 0), .inr (4, [.int 0, .ref e0, .int 0])), ((b 1), .inr (4, [.int 0, .ref e0, .int 0])), ((b 2), .inr (4, [.int 0, .ref e0, .int 0])), ((b 3), .inr (4, [.int 0, .ref e0, .int 0]))] U.heap ∧ va_K (dC, dI) vwCl [] U ∧ va_D (fun _ => True) [(h0, .inr (15, zM th b)), ((b 0), .inr (4, [.int 0, .ref e0, .int 0])), ((b 1), .inr (4, [.int 0, .ref e0, .int 0])), ((b 2), .inr (4, [.int 0, .ref e0, .int 0])), ((b 3), .inr (4, [.int 0, .ref e0, .int 0]))] ∧ zE e0 (va_A [(h0, .inr (15, zM th b)), ((b 0), .inr (4, [.int 0, .ref e0, .int 0])), ((b 1), .inr (4, [.int 0, .ref e0, .int 0])), ((b 2), .inr (4, [.int 0, .ref e0, .int 0])), ((b 3), .inr (4, [.int 0, .ref e0, .int 0]))] sz) U U.heap)) (va_Qi (fun (r : Int32) (_ : Unit) => r = 0) (fun _ t => va_P (dC, dI) vwCl [(h0, .inr (15, zM 1 b))] t.heap ∧ va_K (dC, dI) vwCl [] t ∧ va_D (va_A [(h0, .inr (15, zM th b)), ((b 0), .inr (4, [.int 0, .ref e0, .int 0])), ((b 1), .inr (4, [.int 0, .ref e0, .int 0])), ((b 2), .inr (4, [.int 0, .ref e0, .int 0])), ((b 3), .inr (4, [.int 0, .ref e0, .int 0]))] sz) [(h0, .inr (15, zM 1 b))]) (va_A [(h0, .inr (15, zM th b)), ((b 0), .inr (4, [.int 0, .ref e0, .int 0])), ((b 1), .inr (4, [.int 0, .ref e0, .int 0])), ((b 2), .inr (4, [.int 0, .ref e0, .int 0])), ((b 3), .inr (4, [.int 0, .ref e0, .int 0]))] sz)) 0 0 (va_A [(h0, .inr (15, zM th b)), ((b 0), .inr (4, [.int 0, .ref e0, .int 0])), ((b 1), .inr (4, [.int 0, .ref e0, .int 0])), ((b 2), .inr (4, [.int 0, .ref e0, .int 0])), ((b 3), .inr (4, [.int 0, .ref e0, .int 0]))] sz) := by
  refine Met.ofW (cc := cX10_raceOf) (maxL := 2) (ret := (some .char)) (by decide) rfl ?_
  intro p e s m args below meth c s₁ B hml hv
  obtain ⟨rfl, hsz, hP, hK, hD0, hE⟩ := hv
  have hx := B.exec
  have hb := B.bytes
  have hr := B.returns
  have hts := atoms_spec (ws := wsX10_raceOf) B.pre
  have hown : s.vm.findClass RX10 = some m.cls := findClass_of_methodNamed B.named
  have hlocks := B.notSynchronized
  subst hsz
  have hD := hD0.self (sz := s.heap.size)
  generalize hAe : va_A [(h0, .inr (15, zM th b)), ((b 0), .inr (4, [.int 0, .ref e0, .int 0])), ((b 1), .inr (4, [.int 0, .ref e0, .int 0])), ((b 2), .inr (4, [.int 0, .ref e0, .int 0])), ((b 3), .inr (4, [.int 0, .ref e0, .int 0]))] s.heap.size = A at hD hE ⊢
  have hA : ∀ q : Nat, s.heap.size ≤ q → A q := fun q h => by rw [← hAe]; exact Or.inr h
  have hS : va_S A s.heap s.heap [] := va_S.rf
  have hl := lv_entry ([.ref h0, .int p0]) (n := 2) (Nat.le_of_ble_eq_true rfl)
  rw [lg_entry_eq]
  generalize (lg_sl ([.ref h0, .int p0]) ++ List.replicate (2 - (lg_sl ([.ref h0, .int p0])).length) Slot.unset).toArray = ls at hl ⊢
  have hl : lv_has ls 2 [(0, .ref h0), (1, .int p0)] := hl
  refine lv_aload_n hx hb dX10_raceOf_0 rfl (lv_at hl 0 rfl) ?_
  refine lv_aload_n hx hb dX10_raceOf_1 rfl (lv_at hl 0 rfl) ?_
  refine lv_iload_n hx hb dX10_raceOf_2 rfl (lv_at hl 1 rfl) ?_
  have hPc := hP.sub (ws' := [(h0, .inr (15, zM th b)), ((b 2), .inr (4, [.int 0, .ref e0, .int 0]))]) [0, 3] rfl
  have hDc := hD.sub (ws' := [(h0, .inr (15, zM th b)), ((b 2), .inr (4, [.int 0, .ref e0, .int 0]))]) [0, 3] (by decide) rfl
  have hKc := hK.sub (tys' := []) [] rfl
  have hFc := va_free (wc := [(h0, .inr (15, zM th b)), ((b 2), .inr (4, [.int 0, .ref e0, .int 0]))]) hD hS hA [0, 3] rfl
  have hEc := (hE.kept hS.2.1).narrow hFc
  refine va_calli (va_runV (As := [.int p0]) (rest := [.ref h0]) ⟨hx, hb, hml, hown, hts⟩ (c_X10_isTeam l htr dC dI e0 s.heap.size h0 th b p0) (cwV 1 hts gX10_raceOf_X10_isTeam rfl rfl rfl (by decide +kernel) ⟨Nat.le_of_ble_eq_true rfl, Nat.le_of_ble_eq_true rfl⟩) ⟨fun a U g mk q => by obtain ⟨q0, q1, qP, qK, qD, qE⟩ := q; exact ⟨q0, q1, qP, va_K.moved (u := U) (U := U.calling g mk a) (Vm.Alike.refl U.vm) qK, qD, zE.same rfl qE⟩, va_recv hKc hPc (ci := 15) (q0 := 0) rfl rfl, fun U hU hW => ⟨rfl, by rw [hU], by rw [hU]; exact hPc, va_K.moved hW.alike hKc, hDc.weaken (fun _ _ _ _ => trivial), by rw [hU]; exact zE.warm hW hEc⟩⟩ rfl rfl hl.1 rfl (lv_room (Nat.le_of_ble_eq_true rfl)) dX10_raceOf_3 ⟨Nat.le_of_ble_eq_true rfl, Nat.le_of_ble_eq_true rfl⟩) hS (fun q _ h => hFc q h) hFc (fun r1 u t H1 locs ht hvm hw hB hz1 hk1 hS => ?_)
  obtain ⟨hP1, hK1, hD1⟩ := hB
  rw [ht] at hP1
  obtain ⟨hP, hD⟩ := va_join (wr := [((b 0), .inr (4, [.int 0, .ref e0, .int 0])), ((b 1), .inr (4, [.int 0, .ref e0, .int 0])), ((b 3), .inr (4, [.int 0, .ref e0, .int 0]))]) (w1 := [(h0, .inr (15, zM th b)), ((b 2), .inr (4, [.int 0, .ref e0, .int 0]))]) hP hD [0, 3] [1, 2, 4] rfl rfl (by decide) (by decide) hk1 hFc hP1 hD1
  generalize H1 = H at hP hS ⊢
  have hP : va_P (dC, dI) vwCl [((b 0), .inr (4, [.int 0, .ref e0, .int 0])), ((b 1), .inr (4, [.int 0, .ref e0, .int 0])), ((b 3), .inr (4, [.int 0, .ref e0, .int 0])), (h0, .inr (15, zM th b)), ((b 2), .inr (4, [.int 0, .ref e0, .int 0]))] H := hP
  have hD : va_D A [((b 0), .inr (4, [.int 0, .ref e0, .int 0])), ((b 1), .inr (4, [.int 0, .ref e0, .int 0])), ((b 3), .inr (4, [.int 0, .ref e0, .int 0])), (h0, .inr (15, zM th b)), ((b 2), .inr (4, [.int 0, .ref e0, .int 0]))] := hD
  obtain rfl : r1 = 0 := hw
  refine lv_if_eq (tgt := 13) hx hb dX10_raceOf_6 (by decide) (fun _ => ?_) (fun c2 => absurd (by decide) c2)
  refine lv_iconst (v := 1) hx hb dX10_raceOf_13 (by decide) ?_
  have hPc := hP.sub (ws' := [(h0, .inr (15, zM th b))]) [3] rfl
  have hDc := hD.sub (ws' := [(h0, .inr (15, zM th b))]) [3] (by decide) rfl
  have hKc := hK.sub (tys' := []) [] rfl
  have hFc := va_free (wc := [(h0, .inr (15, zM th b))]) hD hS hA [3] rfl
  refine va_calli (va_runV (As := [.int 1]) (rest := []) ⟨hx, hb, hml, hown, hts⟩ (c_X10_goesOn l htr dC dI e0 H.size h0 th b 1) (cwV 1 hts gX10_raceOf_X10_goesOn rfl rfl rfl (by decide +kernel) ⟨Nat.le_of_ble_eq_true rfl, Nat.le_of_ble_eq_true rfl⟩) ⟨fun a U g mk q => by obtain ⟨q0, q1, qP, qK, qD⟩ := q; exact ⟨q0, q1, qP, va_K.moved (u := U) (U := U.calling g mk a) (Vm.Alike.refl U.vm) qK, qD⟩, va_recv hKc hPc (ci := 15) (q0 := 0) rfl rfl, fun U hU hW => ⟨rfl, by rw [hU], by rw [hU]; exact hPc, va_K.moved hW.alike hKc, hDc.weaken (fun _ _ _ _ => trivial)⟩⟩ rfl rfl hl.1 rfl (lv_room (Nat.le_of_ble_eq_true rfl)) dX10_raceOf_14 ⟨Nat.le_of_ble_eq_true rfl, Nat.le_of_ble_eq_true rfl⟩) hS (fun q _ h => hFc q h) hFc (fun r3 u t H1 locs ht hvm hw hB hz1 hk1 hS => ?_)
  obtain ⟨hP1, hK1, hD1⟩ := hB
  rw [ht] at hP1
  obtain ⟨hP, hD⟩ := va_join (wr := [((b 0), .inr (4, [.int 0, .ref e0, .int 0])), ((b 1), .inr (4, [.int 0, .ref e0, .int 0])), ((b 3), .inr (4, [.int 0, .ref e0, .int 0])), ((b 2), .inr (4, [.int 0, .ref e0, .int 0]))]) (w1 := [(h0, .inr (15, zM 1 b))]) hP hD [3] [0, 1, 2, 4] rfl rfl (by decide) (by decide) hk1 hFc hP1 hD1
  generalize H1 = H at hP hS ⊢
  have hP : va_P (dC, dI) vwCl [((b 0), .inr (4, [.int 0, .ref e0, .int 0])), ((b 1), .inr (4, [.int 0, .ref e0, .int 0])), ((b 3), .inr (4, [.int 0, .ref e0, .int 0])), ((b 2), .inr (4, [.int 0, .ref e0, .int 0])), (h0, .inr (15, zM 1 b))] H := hP
  have hD : va_D A [((b 0), .inr (4, [.int 0, .ref e0, .int 0])), ((b 1), .inr (4, [.int 0, .ref e0, .int 0])), ((b 3), .inr (4, [.int 0, .ref e0, .int 0])), ((b 2), .inr (4, [.int 0, .ref e0, .int 0])), (h0, .inr (15, zM 1 b))] := hD
  obtain rfl : r3 = 0 := hw.trans (by decide)
  refine lv_if_eq (tgt := 39) hx hb dX10_raceOf_17 (by decide) (fun _ => ?_) (fun c4 => absurd (by decide) c4)
  refine lv_iconst (v := 0) hx hb dX10_raceOf_39 (by decide) ?_
  have hP9 := hP.sub (ws' := [(h0, .inr (15, zM 1 b))]) [4] rfl
  have hD9 := hD.sub (ws' := [(h0, .inr (15, zM 1 b))]) [4] (by decide) rfl
  have hK9 := hK.sub (tys' := []) [] rfl
  exact W.zret (v := 0) hx hb hr (by decide) (fun t ht hW => ⟨⟨0, (), rfl, rfl, ⟨by rw [ht]; exact hP9, va_K.moved hW.alike hK9, hD9⟩⟩, hS.F ht⟩) hS.2.2 dX10_raceOf_40

set_option maxRecDepth 20000 in
theorem ggX10_owed_X10_goesOn : GoodIn wsX10_owed wsX10_goesOn := goodIn_r _ [20, 21, 56, 57, 58, 59, 60, 61, 62, 63, 64, 65, 66] (by decide +kernel) (by decide +kernel)
set_option maxRecDepth 20000 in
theorem gX10_owed_X10_goesOn : GoodIn wsX10_owed (wsV RX10 78 RX10 yX10_goesOn wsX10_goesOn) := goodIn_app (goodIn_of _ (by decide +kernel)) ggX10_owed_X10_goesOn
set_option maxRecDepth 20000 in
theorem ggX10_owed_X10_isTeam : GoodIn wsX10_owed wsX10_isTeam := goodIn_r _ [7, 1, 8, 9, 10, 11, 12, 13, 14, 15, 6, 16, 56, 57, 58, 59, 60, 61, 62, 63, 64, 65, 66, 67, 68, 69] (by decide +kernel) (by decide +kernel)
set_option maxRecDepth 20000 in
theorem gX10_owed_X10_isTeam : GoodIn wsX10_owed (wsV RX10 111 RX10 yX10_isTeam wsX10_isTeam) := goodIn_app (goodIn_of _ (by decide +kernel)) ggX10_owed_X10_isTeam
theorem dX10_owed_0 : decode cX10_owed 0 = .ok (.aload_n 0, 1) := by decide +kernel
theorem dX10_owed_1 : decode cX10_owed 1 = .ok (.aload_n 0, 1) := by decide +kernel
theorem dX10_owed_2 : decode cX10_owed 2 = .ok (.iload_n 1, 1) := by decide +kernel
theorem dX10_owed_3 : decode cX10_owed 3 = .ok (.invokevirtual 111, 3) := by decide +kernel
theorem dX10_owed_6 : decode cX10_owed 6 = .ok (.ifCond .eq 7, 3) := by decide +kernel
theorem dX10_owed_13 : decode cX10_owed 13 = .ok (.iconst 1, 1) := by decide +kernel
theorem dX10_owed_14 : decode cX10_owed 14 = .ok (.invokevirtual 78, 3) := by decide +kernel
theorem dX10_owed_17 : decode cX10_owed 17 = .ok (.ifCond .eq 23, 3) := by decide +kernel
theorem dX10_owed_40 : decode cX10_owed 40 = .ok (.iconst 0, 1) := by decide +kernel
theorem dX10_owed_41 : decode cX10_owed 41 = .ok (.ireturn, 1) := by decide +kernel
set_option maxHeartbeats 4000000 in
set_option maxRecDepth 100000 in
theorem c_X10_owed (l : Launch) (htr : l.stackTraces = false) (dC : Nat → ClassId) (dI : Nat → Nat → Nat) (e0 sz : Nat) (h0 : Nat) (th : Int32) (b : Nat → Nat) (p0 : Int32) : Met l yX10_owed wsX10_owed ({ frames := 2, cells := 0, slots := 0, locals := 46 }) (va_Pc [.ref h0, .int p0] (fun U => U.heap.size = sz ∧ va_P (dC, dI) vwCl [(h0, .inr (15, zM th b)), ((b 0), .inr (4, [.int 0, .ref e0, .int 0])), ((b 1), .inr (4, [.int 0, .ref e0, .int 0])), ((b 2), .inr (4, [.int 0, .ref e0, .int 0])), ((b 3), .inr (4, [.int 0, .ref e0, .int 0]))] U.heap ∧ va_K (dC, dI) vwCl [] U ∧ va_D (fun _ => True) [(h0, .inr (15, zM th b)), ((b 0), .inr (4, [.int 0, .ref e0, .int 0])), ((b 1), .inr (4, [.int 0, .ref e0, .int 0])), ((b 2), .inr (4, [.int 0, .ref e0, .int 0])), ((b 3), .inr (4, [.int 0, .ref e0, .int 0]))] ∧ zE e0 (va_A [(h0, .inr (15, zM th b)), ((b 0), .inr (4, [.int 0, .ref e0, .int 0])), ((b 1), .inr (4, [.int 0, .ref e0, .int 0])), ((b 2), .inr (4, [.int 0, .ref e0, .int 0])), ((b 3), .inr (4, [.int 0, .ref e0, .int 0]))] sz) U U.heap)) (va_Qi (fun (r : Int32) (_ : Unit) => r = 0) (fun _ t => va_P (dC, dI) vwCl [(h0, .inr (15, zM 1 b))] t.heap ∧ va_K (dC, dI) vwCl [] t ∧ va_D (va_A [(h0, .inr (15, zM th b)), ((b 0), .inr (4, [.int 0, .ref e0, .int 0])), ((b 1), .inr (4, [.int 0, .ref e0, .int 0])), ((b 2), .inr (4, [.int 0, .ref e0, .int 0])), ((b 3), .inr (4, [.int 0, .ref e0, .int 0]))] sz) [(h0, .inr (15, zM 1 b))]) (va_A [(h0, .inr (15, zM th b)), ((b 0), .inr (4, [.int 0, .ref e0, .int 0])), ((b 1), .inr (4, [.int 0, .ref e0, .int 0])), ((b 2), .inr (4, [.int 0, .ref e0, .int 0])), ((b 3), .inr (4, [.int 0, .ref e0, .int 0]))] sz)) 0 0 (va_A [(h0, .inr (15, zM th b)), ((b 0), .inr (4, [.int 0, .ref e0, .int 0])), ((b 1), .inr (4, [.int 0, .ref e0, .int 0])), ((b 2), .inr (4, [.int 0, .ref e0, .int 0])), ((b 3), .inr (4, [.int 0, .ref e0, .int 0]))] sz) := by
  refine Met.ofW (cc := cX10_owed) (maxL := 2) (ret := (some .int)) (by decide) rfl ?_
  intro p e s m args below meth c s₁ B hml hv
  obtain ⟨rfl, hsz, hP, hK, hD0, hE⟩ := hv
  have hx := B.exec
  have hb := B.bytes
  have hr := B.returns
  have hts := atoms_spec (ws := wsX10_owed) B.pre
  have hown : s.vm.findClass RX10 = some m.cls := findClass_of_methodNamed B.named
  have hlocks := B.notSynchronized
  subst hsz
  have hD := hD0.self (sz := s.heap.size)
  generalize hAe : va_A [(h0, .inr (15, zM th b)), ((b 0), .inr (4, [.int 0, .ref e0, .int 0])), ((b 1), .inr (4, [.int 0, .ref e0, .int 0])), ((b 2), .inr (4, [.int 0, .ref e0, .int 0])), ((b 3), .inr (4, [.int 0, .ref e0, .int 0]))] s.heap.size = A at hD hE ⊢
  have hA : ∀ q : Nat, s.heap.size ≤ q → A q := fun q h => by rw [← hAe]; exact Or.inr h
  have hS : va_S A s.heap s.heap [] := va_S.rf
  have hl := lv_entry ([.ref h0, .int p0]) (n := 2) (Nat.le_of_ble_eq_true rfl)
  rw [lg_entry_eq]
  generalize (lg_sl ([.ref h0, .int p0]) ++ List.replicate (2 - (lg_sl ([.ref h0, .int p0])).length) Slot.unset).toArray = ls at hl ⊢
  have hl : lv_has ls 2 [(0, .ref h0), (1, .int p0)] := hl
  refine lv_aload_n hx hb dX10_owed_0 rfl (lv_at hl 0 rfl) ?_
  refine lv_aload_n hx hb dX10_owed_1 rfl (lv_at hl 0 rfl) ?_
  refine lv_iload_n hx hb dX10_owed_2 rfl (lv_at hl 1 rfl) ?_
  have hPc := hP.sub (ws' := [(h0, .inr (15, zM th b)), ((b 2), .inr (4, [.int 0, .ref e0, .int 0]))]) [0, 3] rfl
  have hDc := hD.sub (ws' := [(h0, .inr (15, zM th b)), ((b 2), .inr (4, [.int 0, .ref e0, .int 0]))]) [0, 3] (by decide) rfl
  have hKc := hK.sub (tys' := []) [] rfl
  have hFc := va_free (wc := [(h0, .inr (15, zM th b)), ((b 2), .inr (4, [.int 0, .ref e0, .int 0]))]) hD hS hA [0, 3] rfl
  have hEc := (hE.kept hS.2.1).narrow hFc
  refine va_calli (va_runV (As := [.int p0]) (rest := [.ref h0]) ⟨hx, hb, hml, hown, hts⟩ (c_X10_isTeam l htr dC dI e0 s.heap.size h0 th b p0) (cwV 1 hts gX10_owed_X10_isTeam rfl rfl rfl (by decide +kernel) ⟨Nat.le_of_ble_eq_true rfl, Nat.le_of_ble_eq_true rfl⟩) ⟨fun a U g mk q => by obtain ⟨q0, q1, qP, qK, qD, qE⟩ := q; exact ⟨q0, q1, qP, va_K.moved (u := U) (U := U.calling g mk a) (Vm.Alike.refl U.vm) qK, qD, zE.same rfl qE⟩, va_recv hKc hPc (ci := 15) (q0 := 0) rfl rfl, fun U hU hW => ⟨rfl, by rw [hU], by rw [hU]; exact hPc, va_K.moved hW.alike hKc, hDc.weaken (fun _ _ _ _ => trivial), by rw [hU]; exact zE.warm hW hEc⟩⟩ rfl rfl hl.1 rfl (lv_room (Nat.le_of_ble_eq_true rfl)) dX10_owed_3 ⟨Nat.le_of_ble_eq_true rfl, Nat.le_of_ble_eq_true rfl⟩) hS (fun q _ h => hFc q h) hFc (fun r1 u t H1 locs ht hvm hw hB hz1 hk1 hS => ?_)
  obtain ⟨hP1, hK1, hD1⟩ := hB
  rw [ht] at hP1
  obtain ⟨hP, hD⟩ := va_join (wr := [((b 0), .inr (4, [.int 0, .ref e0, .int 0])), ((b 1), .inr (4, [.int 0, .ref e0, .int 0])), ((b 3), .inr (4, [.int 0, .ref e0, .int 0]))]) (w1 := [(h0, .inr (15, zM th b)), ((b 2), .inr (4, [.int 0, .ref e0, .int 0]))]) hP hD [0, 3] [1, 2, 4] rfl rfl (by decide) (by decide) hk1 hFc hP1 hD1
  generalize H1 = H at hP hS ⊢
  have hP : va_P (dC, dI) vwCl [((b 0), .inr (4, [.int 0, .ref e0, .int 0])), ((b 1), .inr (4, [.int 0, .ref e0, .int 0])), ((b 3), .inr (4, [.int 0, .ref e0, .int 0])), (h0, .inr (15, zM th b)), ((b 2), .inr (4, [.int 0, .ref e0, .int 0]))] H := hP
  have hD : va_D A [((b 0), .inr (4, [.int 0, .ref e0, .int 0])), ((b 1), .inr (4, [.int 0, .ref e0, .int 0])), ((b 3), .inr (4, [.int 0, .ref e0, .int 0])), (h0, .inr (15, zM th b)), ((b 2), .inr (4, [.int 0, .ref e0, .int 0]))] := hD
  obtain rfl : r1 = 0 := hw
  refine lv_if_eq (tgt := 13) hx hb dX10_owed_6 (by decide) (fun _ => ?_) (fun c2 => absurd (by decide) c2)
  refine lv_iconst (v := 1) hx hb dX10_owed_13 (by decide) ?_
  have hPc := hP.sub (ws' := [(h0, .inr (15, zM th b))]) [3] rfl
  have hDc := hD.sub (ws' := [(h0, .inr (15, zM th b))]) [3] (by decide) rfl
  have hKc := hK.sub (tys' := []) [] rfl
  have hFc := va_free (wc := [(h0, .inr (15, zM th b))]) hD hS hA [3] rfl
  refine va_calli (va_runV (As := [.int 1]) (rest := []) ⟨hx, hb, hml, hown, hts⟩ (c_X10_goesOn l htr dC dI e0 H.size h0 th b 1) (cwV 1 hts gX10_owed_X10_goesOn rfl rfl rfl (by decide +kernel) ⟨Nat.le_of_ble_eq_true rfl, Nat.le_of_ble_eq_true rfl⟩) ⟨fun a U g mk q => by obtain ⟨q0, q1, qP, qK, qD⟩ := q; exact ⟨q0, q1, qP, va_K.moved (u := U) (U := U.calling g mk a) (Vm.Alike.refl U.vm) qK, qD⟩, va_recv hKc hPc (ci := 15) (q0 := 0) rfl rfl, fun U hU hW => ⟨rfl, by rw [hU], by rw [hU]; exact hPc, va_K.moved hW.alike hKc, hDc.weaken (fun _ _ _ _ => trivial)⟩⟩ rfl rfl hl.1 rfl (lv_room (Nat.le_of_ble_eq_true rfl)) dX10_owed_14 ⟨Nat.le_of_ble_eq_true rfl, Nat.le_of_ble_eq_true rfl⟩) hS (fun q _ h => hFc q h) hFc (fun r3 u t H1 locs ht hvm hw hB hz1 hk1 hS => ?_)
  obtain ⟨hP1, hK1, hD1⟩ := hB
  rw [ht] at hP1
  obtain ⟨hP, hD⟩ := va_join (wr := [((b 0), .inr (4, [.int 0, .ref e0, .int 0])), ((b 1), .inr (4, [.int 0, .ref e0, .int 0])), ((b 3), .inr (4, [.int 0, .ref e0, .int 0])), ((b 2), .inr (4, [.int 0, .ref e0, .int 0]))]) (w1 := [(h0, .inr (15, zM 1 b))]) hP hD [3] [0, 1, 2, 4] rfl rfl (by decide) (by decide) hk1 hFc hP1 hD1
  generalize H1 = H at hP hS ⊢
  have hP : va_P (dC, dI) vwCl [((b 0), .inr (4, [.int 0, .ref e0, .int 0])), ((b 1), .inr (4, [.int 0, .ref e0, .int 0])), ((b 3), .inr (4, [.int 0, .ref e0, .int 0])), ((b 2), .inr (4, [.int 0, .ref e0, .int 0])), (h0, .inr (15, zM 1 b))] H := hP
  have hD : va_D A [((b 0), .inr (4, [.int 0, .ref e0, .int 0])), ((b 1), .inr (4, [.int 0, .ref e0, .int 0])), ((b 3), .inr (4, [.int 0, .ref e0, .int 0])), ((b 2), .inr (4, [.int 0, .ref e0, .int 0])), (h0, .inr (15, zM 1 b))] := hD
  obtain rfl : r3 = 0 := hw.trans (by decide)
  refine lv_if_eq (tgt := 40) hx hb dX10_owed_17 (by decide) (fun _ => ?_) (fun c4 => absurd (by decide) c4)
  refine lv_iconst (v := 0) hx hb dX10_owed_40 (by decide) ?_
  have hP9 := hP.sub (ws' := [(h0, .inr (15, zM 1 b))]) [4] rfl
  have hD9 := hD.sub (ws' := [(h0, .inr (15, zM 1 b))]) [4] (by decide) rfl
  have hK9 := hK.sub (tys' := []) [] rfl
  exact W.iret (v := 0) hx hb hr (fun t ht hW => ⟨⟨0, (), rfl, rfl, ⟨by rw [ht]; exact hP9, va_K.moved hW.alike hK9, hD9⟩⟩, hS.F ht⟩) hS.2.2 dX10_owed_41

set_option maxRecDepth 20000 in
theorem ggX10_lease_X10_goesOn : GoodIn wsX10_lease wsX10_goesOn := goodIn_r _ [42, 43, 44, 45, 46, 47, 48, 49, 50, 51, 52, 53, 54] (by decide +kernel) (by decide +kernel)
set_option maxRecDepth 20000 in
theorem gX10_lease_X10_goesOn : GoodIn wsX10_lease (wsV RX10 78 RX10 yX10_goesOn wsX10_goesOn) := goodIn_app (goodIn_of _ (by decide +kernel)) ggX10_lease_X10_goesOn
set_option maxRecDepth 20000 in
theorem ggX10_lease_X10_isDog : GoodIn wsX10_lease wsX10_isDog := goodIn_r _ [7, 1, 8, 9, 10, 11, 12, 13, 14, 15, 6, 16, 44, 45, 46, 47, 48, 49, 50, 51, 52, 53, 54, 72, 73, 74] (by decide +kernel) (by decide +kernel)
set_option maxRecDepth 20000 in
theorem gX10_lease_X10_isDog : GoodIn wsX10_lease (wsV RX10 119 RX10 yX10_isDog wsX10_isDog) := goodIn_app (goodIn_of _ (by decide +kernel)) ggX10_lease_X10_isDog
theorem dX10_lease_0 : decode cX10_lease 0 = .ok (.aload_n 0, 1) := by decide +kernel
theorem dX10_lease_1 : decode cX10_lease 1 = .ok (.iload_n 1, 1) := by decide +kernel
theorem dX10_lease_2 : decode cX10_lease 2 = .ok (.invokevirtual 119, 3) := by decide +kernel
theorem dX10_lease_5 : decode cX10_lease 5 = .ok (.ifCond .eq 15, 3) := by decide +kernel
theorem dX10_lease_20 : decode cX10_lease 20 = .ok (.iconst 0, 1) := by decide +kernel
theorem dX10_lease_21 : decode cX10_lease 21 = .ok (.istore_n 3, 1) := by decide +kernel
theorem dX10_lease_22 : decode cX10_lease 22 = .ok (.iload_n 3, 1) := by decide +kernel
theorem dX10_lease_23 : decode cX10_lease 23 = .ok (.ifCond .eq 19, 3) := by decide +kernel
theorem dX10_lease_42 : decode cX10_lease 42 = .ok (.aconst_null, 1) := by decide +kernel
theorem dX10_lease_43 : decode cX10_lease 43 = .ok (.astore 4, 2) := by decide +kernel
theorem dX10_lease_45 : decode cX10_lease 45 = .ok (.iload_n 3, 1) := by decide +kernel
theorem dX10_lease_46 : decode cX10_lease 46 = .ok (.ifCond .eq 43, 3) := by decide +kernel
theorem dX10_lease_89 : decode cX10_lease 89 = .ok (.iconst 0, 1) := by decide +kernel
theorem dX10_lease_90 : decode cX10_lease 90 = .ok (.istore 5, 2) := by decide +kernel
theorem dX10_lease_92 : decode cX10_lease 92 = .ok (.aload_n 0, 1) := by decide +kernel
theorem dX10_lease_93 : decode cX10_lease 93 = .ok (.iload_n 3, 1) := by decide +kernel
theorem dX10_lease_94 : decode cX10_lease 94 = .ok (.ifCond .ne 7, 3) := by decide +kernel
theorem dX10_lease_97 : decode cX10_lease 97 = .ok (.iconst 1, 1) := by decide +kernel
theorem dX10_lease_98 : decode cX10_lease 98 = .ok (.goto 13, 3) := by decide +kernel
theorem dX10_lease_111 : decode cX10_lease 111 = .ok (.invokevirtual 78, 3) := by decide +kernel
theorem dX10_lease_114 : decode cX10_lease 114 = .ok (.ifCond .ne 5, 3) := by decide +kernel
theorem dX10_lease_117 : decode cX10_lease 117 = .ok (.iconst 0, 1) := by decide +kernel
theorem dX10_lease_118 : decode cX10_lease 118 = .ok (.ireturn, 1) := by decide +kernel
set_option maxHeartbeats 4000000 in
set_option maxRecDepth 100000 in
theorem c_X10_lease (l : Launch) (htr : l.stackTraces = false) (dC : Nat → ClassId) (dI : Nat → Nat → Nat) (e0 sz : Nat) (h0 : Nat) (th : Int32) (b : Nat → Nat) (p0 : Int32) (p1 : Int32) : Met l yX10_lease wsX10_lease ({ frames := 2, cells := 0, slots := 0, locals := 46 }) (va_Pc [.ref h0, .int p0, .int p1] (fun U => U.heap.size = sz ∧ va_P (dC, dI) vwCl [(h0, .inr (15, zM th b)), ((b 0), .inr (4, [.int 0, .ref e0, .int 0])), ((b 1), .inr (4, [.int 0, .ref e0, .int 0])), ((b 2), .inr (4, [.int 0, .ref e0, .int 0])), ((b 3), .inr (4, [.int 0, .ref e0, .int 0]))] U.heap ∧ va_K (dC, dI) vwCl [] U ∧ va_D (fun _ => True) [(h0, .inr (15, zM th b)), ((b 0), .inr (4, [.int 0, .ref e0, .int 0])), ((b 1), .inr (4, [.int 0, .ref e0, .int 0])), ((b 2), .inr (4, [.int 0, .ref e0, .int 0])), ((b 3), .inr (4, [.int 0, .ref e0, .int 0]))] ∧ zE e0 (va_A [(h0, .inr (15, zM th b)), ((b 0), .inr (4, [.int 0, .ref e0, .int 0])), ((b 1), .inr (4, [.int 0, .ref e0, .int 0])), ((b 2), .inr (4, [.int 0, .ref e0, .int 0])), ((b 3), .inr (4, [.int 0, .ref e0, .int 0]))] sz) U U.heap)) (va_Qi (fun (r : Int32) (_ : Unit) => r = 0) (fun _ t => va_P (dC, dI) vwCl [(h0, .inr (15, zM 1 b))] t.heap ∧ va_K (dC, dI) vwCl [] t ∧ va_D (va_A [(h0, .inr (15, zM th b)), ((b 0), .inr (4, [.int 0, .ref e0, .int 0])), ((b 1), .inr (4, [.int 0, .ref e0, .int 0])), ((b 2), .inr (4, [.int 0, .ref e0, .int 0])), ((b 3), .inr (4, [.int 0, .ref e0, .int 0]))] sz) [(h0, .inr (15, zM 1 b))]) (va_A [(h0, .inr (15, zM th b)), ((b 0), .inr (4, [.int 0, .ref e0, .int 0])), ((b 1), .inr (4, [.int 0, .ref e0, .int 0])), ((b 2), .inr (4, [.int 0, .ref e0, .int 0])), ((b 3), .inr (4, [.int 0, .ref e0, .int 0]))] sz)) 0 0 (va_A [(h0, .inr (15, zM th b)), ((b 0), .inr (4, [.int 0, .ref e0, .int 0])), ((b 1), .inr (4, [.int 0, .ref e0, .int 0])), ((b 2), .inr (4, [.int 0, .ref e0, .int 0])), ((b 3), .inr (4, [.int 0, .ref e0, .int 0]))] sz) := by
  refine Met.ofW (cc := cX10_lease) (maxL := 7) (ret := (some .int)) (by decide) rfl ?_
  intro p e s m args below meth c s₁ B hml hv
  obtain ⟨rfl, hsz, hP, hK, hD0, hE⟩ := hv
  have hx := B.exec
  have hb := B.bytes
  have hr := B.returns
  have hts := atoms_spec (ws := wsX10_lease) B.pre
  have hown : s.vm.findClass RX10 = some m.cls := findClass_of_methodNamed B.named
  have hlocks := B.notSynchronized
  subst hsz
  have hD := hD0.self (sz := s.heap.size)
  generalize hAe : va_A [(h0, .inr (15, zM th b)), ((b 0), .inr (4, [.int 0, .ref e0, .int 0])), ((b 1), .inr (4, [.int 0, .ref e0, .int 0])), ((b 2), .inr (4, [.int 0, .ref e0, .int 0])), ((b 3), .inr (4, [.int 0, .ref e0, .int 0]))] s.heap.size = A at hD hE ⊢
  have hA : ∀ q : Nat, s.heap.size ≤ q → A q := fun q h => by rw [← hAe]; exact Or.inr h
  have hS : va_S A s.heap s.heap [] := va_S.rf
  have hl := lv_entry ([.ref h0, .int p0, .int p1]) (n := 7) (Nat.le_of_ble_eq_true rfl)
  rw [lg_entry_eq]
  generalize (lg_sl ([.ref h0, .int p0, .int p1]) ++ List.replicate (7 - (lg_sl ([.ref h0, .int p0, .int p1])).length) Slot.unset).toArray = ls at hl ⊢
  have hl : lv_has ls 7 [(0, .ref h0), (1, .int p0), (2, .int p1)] := hl
  refine lv_aload_n hx hb dX10_lease_0 rfl (lv_at hl 0 rfl) ?_
  refine lv_iload_n hx hb dX10_lease_1 rfl (lv_at hl 1 rfl) ?_
  have hPc := hP.sub (ws' := [(h0, .inr (15, zM th b)), ((b 3), .inr (4, [.int 0, .ref e0, .int 0]))]) [0, 4] rfl
  have hDc := hD.sub (ws' := [(h0, .inr (15, zM th b)), ((b 3), .inr (4, [.int 0, .ref e0, .int 0]))]) [0, 4] (by decide) rfl
  have hKc := hK.sub (tys' := []) [] rfl
  have hFc := va_free (wc := [(h0, .inr (15, zM th b)), ((b 3), .inr (4, [.int 0, .ref e0, .int 0]))]) hD hS hA [0, 4] rfl
  have hEc := (hE.kept hS.2.1).narrow hFc
  refine va_calli (va_runV (As := [.int p0]) (rest := []) ⟨hx, hb, hml, hown, hts⟩ (c_X10_isDog l htr dC dI e0 s.heap.size h0 th b p0) (cwV 1 hts gX10_lease_X10_isDog rfl rfl rfl (by decide +kernel) ⟨Nat.le_of_ble_eq_true rfl, Nat.le_of_ble_eq_true rfl⟩) ⟨fun a U g mk q => by obtain ⟨q0, q1, qP, qK, qD, qE⟩ := q; exact ⟨q0, q1, qP, va_K.moved (u := U) (U := U.calling g mk a) (Vm.Alike.refl U.vm) qK, qD, zE.same rfl qE⟩, va_recv hKc hPc (ci := 15) (q0 := 0) rfl rfl, fun U hU hW => ⟨rfl, by rw [hU], by rw [hU]; exact hPc, va_K.moved hW.alike hKc, hDc.weaken (fun _ _ _ _ => trivial), by rw [hU]; exact zE.warm hW hEc⟩⟩ rfl rfl hl.1 rfl (lv_room (Nat.le_of_ble_eq_true rfl)) dX10_lease_2 ⟨Nat.le_of_ble_eq_true rfl, Nat.le_of_ble_eq_true rfl⟩) hS (fun q _ h => hFc q h) hFc (fun r1 u t H1 locs ht hvm hw hB hz1 hk1 hS => ?_)
  obtain ⟨hP1, hK1, hD1⟩ := hB
  rw [ht] at hP1
  obtain ⟨hP, hD⟩ := va_join (wr := [((b 0), .inr (4, [.int 0, .ref e0, .int 0])), ((b 1), .inr (4, [.int 0, .ref e0, .int 0])), ((b 2), .inr (4, [.int 0, .ref e0, .int 0]))]) (w1 := [(h0, .inr (15, zM th b)), ((b 3), .inr (4, [.int 0, .ref e0, .int 0]))]) hP hD [0, 4] [1, 2, 3] rfl rfl (by decide) (by decide) hk1 hFc hP1 hD1
  generalize H1 = H at hP hS ⊢
  have hP : va_P (dC, dI) vwCl [((b 0), .inr (4, [.int 0, .ref e0, .int 0])), ((b 1), .inr (4, [.int 0, .ref e0, .int 0])), ((b 2), .inr (4, [.int 0, .ref e0, .int 0])), (h0, .inr (15, zM th b)), ((b 3), .inr (4, [.int 0, .ref e0, .int 0]))] H := hP
  have hD : va_D A [((b 0), .inr (4, [.int 0, .ref e0, .int 0])), ((b 1), .inr (4, [.int 0, .ref e0, .int 0])), ((b 2), .inr (4, [.int 0, .ref e0, .int 0])), (h0, .inr (15, zM th b)), ((b 3), .inr (4, [.int 0, .ref e0, .int 0]))] := hD
  obtain rfl : r1 = 0 := hw
  refine lv_if_eq (tgt := 20) hx hb dX10_lease_5 (by decide) (fun _ => ?_) (fun c2 => absurd (by decide) c2)
  refine lv_iconst (v := 0) hx hb dX10_lease_20 (by decide) ?_
  refine lv_istore_n (lv' := [(3, .int 0), (0, .ref h0), (1, .int p0), (2, .int p1)]) hx hb dX10_lease_21 rfl hl (by decide) rfl (fun ls hl => ?_)
  refine lv_iload_n hx hb dX10_lease_22 rfl (lv_at hl 0 rfl) ?_
  refine lv_if_eq (tgt := 42) hx hb dX10_lease_23 (by decide) (fun _ => ?_) (fun c3 => absurd (by decide) c3)
  refine lv_null hx hb dX10_lease_42 ?_
  refine lv_astoreN (lv' := [(4, .null), (3, .int 0), (0, .ref h0), (1, .int p0), (2, .int p1)]) hx hb dX10_lease_43 hl (by decide) rfl (fun ls hl => ?_)
  refine lv_iload_n hx hb dX10_lease_45 rfl (lv_at hl 1 rfl) ?_
  refine lv_if_eq (tgt := 89) hx hb dX10_lease_46 (by decide) (fun _ => ?_) (fun c4 => absurd (by decide) c4)
  refine lv_iconst (v := 0) hx hb dX10_lease_89 (by decide) ?_
  refine lv_istore (lv' := [(5, .int 0), (4, .null), (3, .int 0), (0, .ref h0), (1, .int p0), (2, .int p1)]) hx hb dX10_lease_90 hl (by decide) rfl (fun ls hl => ?_)
  refine lv_aload_n hx hb dX10_lease_92 rfl (lv_at hl 3 rfl) ?_
  refine lv_iload_n hx hb dX10_lease_93 rfl (lv_at hl 2 rfl) ?_
  refine lv_if_ne (tgt := 101) hx hb dX10_lease_94 (by decide) (fun c5 => absurd (by decide) c5) (fun _ => ?_)
  refine lv_iconst (v := 1) hx hb dX10_lease_97 (by decide) ?_
  refine lv_goto (tgt := 111) hx hb dX10_lease_98 (by decide) ?_
  have hPc := hP.sub (ws' := [(h0, .inr (15, zM th b))]) [3] rfl
  have hDc := hD.sub (ws' := [(h0, .inr (15, zM th b))]) [3] (by decide) rfl
  have hKc := hK.sub (tys' := []) [] rfl
  have hFc := va_free (wc := [(h0, .inr (15, zM th b))]) hD hS hA [3] rfl
  refine va_calli (va_runV (As := [.int 1]) (rest := []) ⟨hx, hb, hml, hown, hts⟩ (c_X10_goesOn l htr dC dI e0 H.size h0 th b 1) (cwV 1 hts gX10_lease_X10_goesOn rfl rfl rfl (by decide +kernel) ⟨Nat.le_of_ble_eq_true rfl, Nat.le_of_ble_eq_true rfl⟩) ⟨fun a U g mk q => by obtain ⟨q0, q1, qP, qK, qD⟩ := q; exact ⟨q0, q1, qP, va_K.moved (u := U) (U := U.calling g mk a) (Vm.Alike.refl U.vm) qK, qD⟩, va_recv hKc hPc (ci := 15) (q0 := 0) rfl rfl, fun U hU hW => ⟨rfl, by rw [hU], by rw [hU]; exact hPc, va_K.moved hW.alike hKc, hDc.weaken (fun _ _ _ _ => trivial)⟩⟩ rfl rfl hl.1 rfl (lv_room (Nat.le_of_ble_eq_true rfl)) dX10_lease_111 ⟨Nat.le_of_ble_eq_true rfl, Nat.le_of_ble_eq_true rfl⟩) hS (fun q _ h => hFc q h) hFc (fun r6 u t H1 locs ht hvm hw hB hz1 hk1 hS => ?_)
  obtain ⟨hP1, hK1, hD1⟩ := hB
  rw [ht] at hP1
  obtain ⟨hP, hD⟩ := va_join (wr := [((b 0), .inr (4, [.int 0, .ref e0, .int 0])), ((b 1), .inr (4, [.int 0, .ref e0, .int 0])), ((b 2), .inr (4, [.int 0, .ref e0, .int 0])), ((b 3), .inr (4, [.int 0, .ref e0, .int 0]))]) (w1 := [(h0, .inr (15, zM 1 b))]) hP hD [3] [0, 1, 2, 4] rfl rfl (by decide) (by decide) hk1 hFc hP1 hD1
  generalize H1 = H at hP hS ⊢
  have hP : va_P (dC, dI) vwCl [((b 0), .inr (4, [.int 0, .ref e0, .int 0])), ((b 1), .inr (4, [.int 0, .ref e0, .int 0])), ((b 2), .inr (4, [.int 0, .ref e0, .int 0])), ((b 3), .inr (4, [.int 0, .ref e0, .int 0])), (h0, .inr (15, zM 1 b))] H := hP
  have hD : va_D A [((b 0), .inr (4, [.int 0, .ref e0, .int 0])), ((b 1), .inr (4, [.int 0, .ref e0, .int 0])), ((b 2), .inr (4, [.int 0, .ref e0, .int 0])), ((b 3), .inr (4, [.int 0, .ref e0, .int 0])), (h0, .inr (15, zM 1 b))] := hD
  obtain rfl : r6 = 0 := hw.trans (by decide)
  refine lv_if_ne (tgt := 119) hx hb dX10_lease_114 (by decide) (fun c7 => absurd (by decide) c7) (fun _ => ?_)
  refine lv_iconst (v := 0) hx hb dX10_lease_117 (by decide) ?_
  have hP9 := hP.sub (ws' := [(h0, .inr (15, zM 1 b))]) [4] rfl
  have hD9 := hD.sub (ws' := [(h0, .inr (15, zM 1 b))]) [4] (by decide) rfl
  have hK9 := hK.sub (tys' := []) [] rfl
  exact W.iret (v := 0) hx hb hr (fun t ht hW => ⟨⟨0, (), rfl, rfl, ⟨by rw [ht]; exact hP9, va_K.moved hW.alike hK9, hD9⟩⟩, hS.F ht⟩) hS.2.2 dX10_lease_118

set_option maxRecDepth 20000 in
theorem ggX10_stateOf_X10_goesOn : GoodIn wsX10_stateOf wsX10_goesOn := goodIn_r _ [20, 21, 39, 40, 41, 42, 43, 44, 45, 46, 47, 48, 49] (by decide +kernel) (by decide +kernel)
set_option maxRecDepth 20000 in
theorem gX10_stateOf_X10_goesOn : GoodIn wsX10_stateOf (wsV RX10 78 RX10 yX10_goesOn wsX10_goesOn) := goodIn_app (goodIn_of _ (by decide +kernel)) ggX10_stateOf_X10_goesOn
set_option maxRecDepth 20000 in
theorem ggX10_stateOf_X10_isDog : GoodIn wsX10_stateOf wsX10_isDog := goodIn_r _ [7, 1, 8, 9, 10, 11, 12, 13, 14, 15, 6, 16, 39, 40, 41, 42, 43, 44, 45, 46, 47, 48, 49, 67, 68, 69] (by decide +kernel) (by decide +kernel)
set_option maxRecDepth 20000 in
theorem gX10_stateOf_X10_isDog : GoodIn wsX10_stateOf (wsV RX10 119 RX10 yX10_isDog wsX10_isDog) := goodIn_app (goodIn_of _ (by decide +kernel)) ggX10_stateOf_X10_isDog
theorem dX10_stateOf_0 : decode cX10_stateOf 0 = .ok (.aload_n 0, 1) := by decide +kernel
theorem dX10_stateOf_1 : decode cX10_stateOf 1 = .ok (.aload_n 0, 1) := by decide +kernel
theorem dX10_stateOf_2 : decode cX10_stateOf 2 = .ok (.iload_n 1, 1) := by decide +kernel
theorem dX10_stateOf_3 : decode cX10_stateOf 3 = .ok (.invokevirtual 119, 3) := by decide +kernel
theorem dX10_stateOf_6 : decode cX10_stateOf 6 = .ok (.ifCond .eq 7, 3) := by decide +kernel
theorem dX10_stateOf_13 : decode cX10_stateOf 13 = .ok (.iconst 1, 1) := by decide +kernel
theorem dX10_stateOf_14 : decode cX10_stateOf 14 = .ok (.invokevirtual 78, 3) := by decide +kernel
theorem dX10_stateOf_17 : decode cX10_stateOf 17 = .ok (.ifCond .ne 5, 3) := by decide +kernel
theorem dX10_stateOf_20 : decode cX10_stateOf 20 = .ok (.iconst 0, 1) := by decide +kernel
theorem dX10_stateOf_21 : decode cX10_stateOf 21 = .ok (.ireturn, 1) := by decide +kernel
set_option maxHeartbeats 4000000 in
set_option maxRecDepth 100000 in
theorem c_X10_stateOf (l : Launch) (htr : l.stackTraces = false) (dC : Nat → ClassId) (dI : Nat → Nat → Nat) (e0 sz : Nat) (h0 : Nat) (th : Int32) (b : Nat → Nat) (p0 : Int32) : Met l yX10_stateOf wsX10_stateOf ({ frames := 2, cells := 0, slots := 0, locals := 46 }) (va_Pc [.ref h0, .int p0] (fun U => U.heap.size = sz ∧ va_P (dC, dI) vwCl [(h0, .inr (15, zM th b)), ((b 0), .inr (4, [.int 0, .ref e0, .int 0])), ((b 1), .inr (4, [.int 0, .ref e0, .int 0])), ((b 2), .inr (4, [.int 0, .ref e0, .int 0])), ((b 3), .inr (4, [.int 0, .ref e0, .int 0]))] U.heap ∧ va_K (dC, dI) vwCl [] U ∧ va_D (fun _ => True) [(h0, .inr (15, zM th b)), ((b 0), .inr (4, [.int 0, .ref e0, .int 0])), ((b 1), .inr (4, [.int 0, .ref e0, .int 0])), ((b 2), .inr (4, [.int 0, .ref e0, .int 0])), ((b 3), .inr (4, [.int 0, .ref e0, .int 0]))] ∧ zE e0 (va_A [(h0, .inr (15, zM th b)), ((b 0), .inr (4, [.int 0, .ref e0, .int 0])), ((b 1), .inr (4, [.int 0, .ref e0, .int 0])), ((b 2), .inr (4, [.int 0, .ref e0, .int 0])), ((b 3), .inr (4, [.int 0, .ref e0, .int 0]))] sz) U U.heap)) (va_Qi (fun (r : Int32) (_ : Unit) => r = 0) (fun _ t => va_P (dC, dI) vwCl [(h0, .inr (15, zM 1 b))] t.heap ∧ va_K (dC, dI) vwCl [] t ∧ va_D (va_A [(h0, .inr (15, zM th b)), ((b 0), .inr (4, [.int 0, .ref e0, .int 0])), ((b 1), .inr (4, [.int 0, .ref e0, .int 0])), ((b 2), .inr (4, [.int 0, .ref e0, .int 0])), ((b 3), .inr (4, [.int 0, .ref e0, .int 0]))] sz) [(h0, .inr (15, zM 1 b))]) (va_A [(h0, .inr (15, zM th b)), ((b 0), .inr (4, [.int 0, .ref e0, .int 0])), ((b 1), .inr (4, [.int 0, .ref e0, .int 0])), ((b 2), .inr (4, [.int 0, .ref e0, .int 0])), ((b 3), .inr (4, [.int 0, .ref e0, .int 0]))] sz)) 0 0 (va_A [(h0, .inr (15, zM th b)), ((b 0), .inr (4, [.int 0, .ref e0, .int 0])), ((b 1), .inr (4, [.int 0, .ref e0, .int 0])), ((b 2), .inr (4, [.int 0, .ref e0, .int 0])), ((b 3), .inr (4, [.int 0, .ref e0, .int 0]))] sz) := by
  refine Met.ofW (cc := cX10_stateOf) (maxL := 3) (ret := (some .char)) (by decide) rfl ?_
  intro p e s m args below meth c s₁ B hml hv
  obtain ⟨rfl, hsz, hP, hK, hD0, hE⟩ := hv
  have hx := B.exec
  have hb := B.bytes
  have hr := B.returns
  have hts := atoms_spec (ws := wsX10_stateOf) B.pre
  have hown : s.vm.findClass RX10 = some m.cls := findClass_of_methodNamed B.named
  have hlocks := B.notSynchronized
  subst hsz
  have hD := hD0.self (sz := s.heap.size)
  generalize hAe : va_A [(h0, .inr (15, zM th b)), ((b 0), .inr (4, [.int 0, .ref e0, .int 0])), ((b 1), .inr (4, [.int 0, .ref e0, .int 0])), ((b 2), .inr (4, [.int 0, .ref e0, .int 0])), ((b 3), .inr (4, [.int 0, .ref e0, .int 0]))] s.heap.size = A at hD hE ⊢
  have hA : ∀ q : Nat, s.heap.size ≤ q → A q := fun q h => by rw [← hAe]; exact Or.inr h
  have hS : va_S A s.heap s.heap [] := va_S.rf
  have hl := lv_entry ([.ref h0, .int p0]) (n := 3) (Nat.le_of_ble_eq_true rfl)
  rw [lg_entry_eq]
  generalize (lg_sl ([.ref h0, .int p0]) ++ List.replicate (3 - (lg_sl ([.ref h0, .int p0])).length) Slot.unset).toArray = ls at hl ⊢
  have hl : lv_has ls 3 [(0, .ref h0), (1, .int p0)] := hl
  refine lv_aload_n hx hb dX10_stateOf_0 rfl (lv_at hl 0 rfl) ?_
  refine lv_aload_n hx hb dX10_stateOf_1 rfl (lv_at hl 0 rfl) ?_
  refine lv_iload_n hx hb dX10_stateOf_2 rfl (lv_at hl 1 rfl) ?_
  have hPc := hP.sub (ws' := [(h0, .inr (15, zM th b)), ((b 3), .inr (4, [.int 0, .ref e0, .int 0]))]) [0, 4] rfl
  have hDc := hD.sub (ws' := [(h0, .inr (15, zM th b)), ((b 3), .inr (4, [.int 0, .ref e0, .int 0]))]) [0, 4] (by decide) rfl
  have hKc := hK.sub (tys' := []) [] rfl
  have hFc := va_free (wc := [(h0, .inr (15, zM th b)), ((b 3), .inr (4, [.int 0, .ref e0, .int 0]))]) hD hS hA [0, 4] rfl
  have hEc := (hE.kept hS.2.1).narrow hFc
  refine va_calli (va_runV (As := [.int p0]) (rest := [.ref h0]) ⟨hx, hb, hml, hown, hts⟩ (c_X10_isDog l htr dC dI e0 s.heap.size h0 th b p0) (cwV 1 hts gX10_stateOf_X10_isDog rfl rfl rfl (by decide +kernel) ⟨Nat.le_of_ble_eq_true rfl, Nat.le_of_ble_eq_true rfl⟩) ⟨fun a U g mk q => by obtain ⟨q0, q1, qP, qK, qD, qE⟩ := q; exact ⟨q0, q1, qP, va_K.moved (u := U) (U := U.calling g mk a) (Vm.Alike.refl U.vm) qK, qD, zE.same rfl qE⟩, va_recv hKc hPc (ci := 15) (q0 := 0) rfl rfl, fun U hU hW => ⟨rfl, by rw [hU], by rw [hU]; exact hPc, va_K.moved hW.alike hKc, hDc.weaken (fun _ _ _ _ => trivial), by rw [hU]; exact zE.warm hW hEc⟩⟩ rfl rfl hl.1 rfl (lv_room (Nat.le_of_ble_eq_true rfl)) dX10_stateOf_3 ⟨Nat.le_of_ble_eq_true rfl, Nat.le_of_ble_eq_true rfl⟩) hS (fun q _ h => hFc q h) hFc (fun r1 u t H1 locs ht hvm hw hB hz1 hk1 hS => ?_)
  obtain ⟨hP1, hK1, hD1⟩ := hB
  rw [ht] at hP1
  obtain ⟨hP, hD⟩ := va_join (wr := [((b 0), .inr (4, [.int 0, .ref e0, .int 0])), ((b 1), .inr (4, [.int 0, .ref e0, .int 0])), ((b 2), .inr (4, [.int 0, .ref e0, .int 0]))]) (w1 := [(h0, .inr (15, zM th b)), ((b 3), .inr (4, [.int 0, .ref e0, .int 0]))]) hP hD [0, 4] [1, 2, 3] rfl rfl (by decide) (by decide) hk1 hFc hP1 hD1
  generalize H1 = H at hP hS ⊢
  have hP : va_P (dC, dI) vwCl [((b 0), .inr (4, [.int 0, .ref e0, .int 0])), ((b 1), .inr (4, [.int 0, .ref e0, .int 0])), ((b 2), .inr (4, [.int 0, .ref e0, .int 0])), (h0, .inr (15, zM th b)), ((b 3), .inr (4, [.int 0, .ref e0, .int 0]))] H := hP
  have hD : va_D A [((b 0), .inr (4, [.int 0, .ref e0, .int 0])), ((b 1), .inr (4, [.int 0, .ref e0, .int 0])), ((b 2), .inr (4, [.int 0, .ref e0, .int 0])), (h0, .inr (15, zM th b)), ((b 3), .inr (4, [.int 0, .ref e0, .int 0]))] := hD
  obtain rfl : r1 = 0 := hw
  refine lv_if_eq (tgt := 13) hx hb dX10_stateOf_6 (by decide) (fun _ => ?_) (fun c2 => absurd (by decide) c2)
  refine lv_iconst (v := 1) hx hb dX10_stateOf_13 (by decide) ?_
  have hPc := hP.sub (ws' := [(h0, .inr (15, zM th b))]) [3] rfl
  have hDc := hD.sub (ws' := [(h0, .inr (15, zM th b))]) [3] (by decide) rfl
  have hKc := hK.sub (tys' := []) [] rfl
  have hFc := va_free (wc := [(h0, .inr (15, zM th b))]) hD hS hA [3] rfl
  refine va_calli (va_runV (As := [.int 1]) (rest := []) ⟨hx, hb, hml, hown, hts⟩ (c_X10_goesOn l htr dC dI e0 H.size h0 th b 1) (cwV 1 hts gX10_stateOf_X10_goesOn rfl rfl rfl (by decide +kernel) ⟨Nat.le_of_ble_eq_true rfl, Nat.le_of_ble_eq_true rfl⟩) ⟨fun a U g mk q => by obtain ⟨q0, q1, qP, qK, qD⟩ := q; exact ⟨q0, q1, qP, va_K.moved (u := U) (U := U.calling g mk a) (Vm.Alike.refl U.vm) qK, qD⟩, va_recv hKc hPc (ci := 15) (q0 := 0) rfl rfl, fun U hU hW => ⟨rfl, by rw [hU], by rw [hU]; exact hPc, va_K.moved hW.alike hKc, hDc.weaken (fun _ _ _ _ => trivial)⟩⟩ rfl rfl hl.1 rfl (lv_room (Nat.le_of_ble_eq_true rfl)) dX10_stateOf_14 ⟨Nat.le_of_ble_eq_true rfl, Nat.le_of_ble_eq_true rfl⟩) hS (fun q _ h => hFc q h) hFc (fun r3 u t H1 locs ht hvm hw hB hz1 hk1 hS => ?_)
  obtain ⟨hP1, hK1, hD1⟩ := hB
  rw [ht] at hP1
  obtain ⟨hP, hD⟩ := va_join (wr := [((b 0), .inr (4, [.int 0, .ref e0, .int 0])), ((b 1), .inr (4, [.int 0, .ref e0, .int 0])), ((b 2), .inr (4, [.int 0, .ref e0, .int 0])), ((b 3), .inr (4, [.int 0, .ref e0, .int 0]))]) (w1 := [(h0, .inr (15, zM 1 b))]) hP hD [3] [0, 1, 2, 4] rfl rfl (by decide) (by decide) hk1 hFc hP1 hD1
  generalize H1 = H at hP hS ⊢
  have hP : va_P (dC, dI) vwCl [((b 0), .inr (4, [.int 0, .ref e0, .int 0])), ((b 1), .inr (4, [.int 0, .ref e0, .int 0])), ((b 2), .inr (4, [.int 0, .ref e0, .int 0])), ((b 3), .inr (4, [.int 0, .ref e0, .int 0])), (h0, .inr (15, zM 1 b))] H := hP
  have hD : va_D A [((b 0), .inr (4, [.int 0, .ref e0, .int 0])), ((b 1), .inr (4, [.int 0, .ref e0, .int 0])), ((b 2), .inr (4, [.int 0, .ref e0, .int 0])), ((b 3), .inr (4, [.int 0, .ref e0, .int 0])), (h0, .inr (15, zM 1 b))] := hD
  obtain rfl : r3 = 0 := hw.trans (by decide)
  refine lv_if_ne (tgt := 22) hx hb dX10_stateOf_17 (by decide) (fun c4 => absurd (by decide) c4) (fun _ => ?_)
  refine lv_iconst (v := 0) hx hb dX10_stateOf_20 (by decide) ?_
  have hP9 := hP.sub (ws' := [(h0, .inr (15, zM 1 b))]) [4] rfl
  have hD9 := hD.sub (ws' := [(h0, .inr (15, zM 1 b))]) [4] (by decide) rfl
  have hK9 := hK.sub (tys' := []) [] rfl
  exact W.zret (v := 0) hx hb hr (by decide) (fun t ht hW => ⟨⟨0, (), rfl, rfl, ⟨by rw [ht]; exact hP9, va_K.moved hW.alike hK9, hD9⟩⟩, hS.F ht⟩) hS.2.2 dX10_stateOf_21

set_option maxRecDepth 20000 in
theorem ggX10_mustStop_X10_goesOn : GoodIn wsX10_mustStop wsX10_goesOn := goodIn_r _ [20, 21, 47, 48, 49, 50, 51, 52, 53, 54, 55, 56, 57] (by decide +kernel) (by decide +kernel)
set_option maxRecDepth 20000 in
theorem gX10_mustStop_X10_goesOn : GoodIn wsX10_mustStop (wsV RX10 78 RX10 yX10_goesOn wsX10_goesOn) := goodIn_app (goodIn_of _ (by decide +kernel)) ggX10_mustStop_X10_goesOn
set_option maxRecDepth 20000 in
theorem ggX10_mustStop_X10_isDog : GoodIn wsX10_mustStop wsX10_isDog := goodIn_r _ [7, 1, 8, 9, 10, 11, 12, 13, 14, 15, 6, 16, 47, 48, 49, 50, 51, 52, 53, 54, 55, 56, 57, 58, 59, 60] (by decide +kernel) (by decide +kernel)
set_option maxRecDepth 20000 in
theorem gX10_mustStop_X10_isDog : GoodIn wsX10_mustStop (wsV RX10 119 RX10 yX10_isDog wsX10_isDog) := goodIn_app (goodIn_of _ (by decide +kernel)) ggX10_mustStop_X10_isDog
theorem dX10_mustStop_0 : decode cX10_mustStop 0 = .ok (.aload_n 0, 1) := by decide +kernel
theorem dX10_mustStop_1 : decode cX10_mustStop 1 = .ok (.aload_n 0, 1) := by decide +kernel
theorem dX10_mustStop_2 : decode cX10_mustStop 2 = .ok (.iload_n 1, 1) := by decide +kernel
theorem dX10_mustStop_3 : decode cX10_mustStop 3 = .ok (.invokevirtual 119, 3) := by decide +kernel
theorem dX10_mustStop_6 : decode cX10_mustStop 6 = .ok (.ifCond .eq 7, 3) := by decide +kernel
theorem dX10_mustStop_13 : decode cX10_mustStop 13 = .ok (.iconst 1, 1) := by decide +kernel
theorem dX10_mustStop_14 : decode cX10_mustStop 14 = .ok (.invokevirtual 78, 3) := by decide +kernel
theorem dX10_mustStop_17 : decode cX10_mustStop 17 = .ok (.ifCond .eq 26, 3) := by decide +kernel
theorem dX10_mustStop_43 : decode cX10_mustStop 43 = .ok (.iconst 0, 1) := by decide +kernel
theorem dX10_mustStop_44 : decode cX10_mustStop 44 = .ok (.ireturn, 1) := by decide +kernel
set_option maxHeartbeats 4000000 in
set_option maxRecDepth 100000 in
theorem c_X10_mustStop (l : Launch) (htr : l.stackTraces = false) (dC : Nat → ClassId) (dI : Nat → Nat → Nat) (e0 sz : Nat) (h0 : Nat) (th : Int32) (b : Nat → Nat) (p0 : Int32) : Met l yX10_mustStop wsX10_mustStop ({ frames := 2, cells := 0, slots := 0, locals := 46 }) (va_Pc [.ref h0, .int p0] (fun U => U.heap.size = sz ∧ va_P (dC, dI) vwCl [(h0, .inr (15, zM th b)), ((b 0), .inr (4, [.int 0, .ref e0, .int 0])), ((b 1), .inr (4, [.int 0, .ref e0, .int 0])), ((b 2), .inr (4, [.int 0, .ref e0, .int 0])), ((b 3), .inr (4, [.int 0, .ref e0, .int 0]))] U.heap ∧ va_K (dC, dI) vwCl [] U ∧ va_D (fun _ => True) [(h0, .inr (15, zM th b)), ((b 0), .inr (4, [.int 0, .ref e0, .int 0])), ((b 1), .inr (4, [.int 0, .ref e0, .int 0])), ((b 2), .inr (4, [.int 0, .ref e0, .int 0])), ((b 3), .inr (4, [.int 0, .ref e0, .int 0]))] ∧ zE e0 (va_A [(h0, .inr (15, zM th b)), ((b 0), .inr (4, [.int 0, .ref e0, .int 0])), ((b 1), .inr (4, [.int 0, .ref e0, .int 0])), ((b 2), .inr (4, [.int 0, .ref e0, .int 0])), ((b 3), .inr (4, [.int 0, .ref e0, .int 0]))] sz) U U.heap)) (va_Qi (fun (r : Int32) (_ : Unit) => r = 0) (fun _ t => va_P (dC, dI) vwCl [(h0, .inr (15, zM 1 b))] t.heap ∧ va_K (dC, dI) vwCl [] t ∧ va_D (va_A [(h0, .inr (15, zM th b)), ((b 0), .inr (4, [.int 0, .ref e0, .int 0])), ((b 1), .inr (4, [.int 0, .ref e0, .int 0])), ((b 2), .inr (4, [.int 0, .ref e0, .int 0])), ((b 3), .inr (4, [.int 0, .ref e0, .int 0]))] sz) [(h0, .inr (15, zM 1 b))]) (va_A [(h0, .inr (15, zM th b)), ((b 0), .inr (4, [.int 0, .ref e0, .int 0])), ((b 1), .inr (4, [.int 0, .ref e0, .int 0])), ((b 2), .inr (4, [.int 0, .ref e0, .int 0])), ((b 3), .inr (4, [.int 0, .ref e0, .int 0]))] sz)) 0 0 (va_A [(h0, .inr (15, zM th b)), ((b 0), .inr (4, [.int 0, .ref e0, .int 0])), ((b 1), .inr (4, [.int 0, .ref e0, .int 0])), ((b 2), .inr (4, [.int 0, .ref e0, .int 0])), ((b 3), .inr (4, [.int 0, .ref e0, .int 0]))] sz) := by
  refine Met.ofW (cc := cX10_mustStop) (maxL := 2) (ret := (some .boolean)) (by decide) rfl ?_
  intro p e s m args below meth c s₁ B hml hv
  obtain ⟨rfl, hsz, hP, hK, hD0, hE⟩ := hv
  have hx := B.exec
  have hb := B.bytes
  have hr := B.returns
  have hts := atoms_spec (ws := wsX10_mustStop) B.pre
  have hown : s.vm.findClass RX10 = some m.cls := findClass_of_methodNamed B.named
  have hlocks := B.notSynchronized
  subst hsz
  have hD := hD0.self (sz := s.heap.size)
  generalize hAe : va_A [(h0, .inr (15, zM th b)), ((b 0), .inr (4, [.int 0, .ref e0, .int 0])), ((b 1), .inr (4, [.int 0, .ref e0, .int 0])), ((b 2), .inr (4, [.int 0, .ref e0, .int 0])), ((b 3), .inr (4, [.int 0, .ref e0, .int 0]))] s.heap.size = A at hD hE ⊢
  have hA : ∀ q : Nat, s.heap.size ≤ q → A q := fun q h => by rw [← hAe]; exact Or.inr h
  have hS : va_S A s.heap s.heap [] := va_S.rf
  have hl := lv_entry ([.ref h0, .int p0]) (n := 2) (Nat.le_of_ble_eq_true rfl)
  rw [lg_entry_eq]
  generalize (lg_sl ([.ref h0, .int p0]) ++ List.replicate (2 - (lg_sl ([.ref h0, .int p0])).length) Slot.unset).toArray = ls at hl ⊢
  have hl : lv_has ls 2 [(0, .ref h0), (1, .int p0)] := hl
  refine lv_aload_n hx hb dX10_mustStop_0 rfl (lv_at hl 0 rfl) ?_
  refine lv_aload_n hx hb dX10_mustStop_1 rfl (lv_at hl 0 rfl) ?_
  refine lv_iload_n hx hb dX10_mustStop_2 rfl (lv_at hl 1 rfl) ?_
  have hPc := hP.sub (ws' := [(h0, .inr (15, zM th b)), ((b 3), .inr (4, [.int 0, .ref e0, .int 0]))]) [0, 4] rfl
  have hDc := hD.sub (ws' := [(h0, .inr (15, zM th b)), ((b 3), .inr (4, [.int 0, .ref e0, .int 0]))]) [0, 4] (by decide) rfl
  have hKc := hK.sub (tys' := []) [] rfl
  have hFc := va_free (wc := [(h0, .inr (15, zM th b)), ((b 3), .inr (4, [.int 0, .ref e0, .int 0]))]) hD hS hA [0, 4] rfl
  have hEc := (hE.kept hS.2.1).narrow hFc
  refine va_calli (va_runV (As := [.int p0]) (rest := [.ref h0]) ⟨hx, hb, hml, hown, hts⟩ (c_X10_isDog l htr dC dI e0 s.heap.size h0 th b p0) (cwV 1 hts gX10_mustStop_X10_isDog rfl rfl rfl (by decide +kernel) ⟨Nat.le_of_ble_eq_true rfl, Nat.le_of_ble_eq_true rfl⟩) ⟨fun a U g mk q => by obtain ⟨q0, q1, qP, qK, qD, qE⟩ := q; exact ⟨q0, q1, qP, va_K.moved (u := U) (U := U.calling g mk a) (Vm.Alike.refl U.vm) qK, qD, zE.same rfl qE⟩, va_recv hKc hPc (ci := 15) (q0 := 0) rfl rfl, fun U hU hW => ⟨rfl, by rw [hU], by rw [hU]; exact hPc, va_K.moved hW.alike hKc, hDc.weaken (fun _ _ _ _ => trivial), by rw [hU]; exact zE.warm hW hEc⟩⟩ rfl rfl hl.1 rfl (lv_room (Nat.le_of_ble_eq_true rfl)) dX10_mustStop_3 ⟨Nat.le_of_ble_eq_true rfl, Nat.le_of_ble_eq_true rfl⟩) hS (fun q _ h => hFc q h) hFc (fun r1 u t H1 locs ht hvm hw hB hz1 hk1 hS => ?_)
  obtain ⟨hP1, hK1, hD1⟩ := hB
  rw [ht] at hP1
  obtain ⟨hP, hD⟩ := va_join (wr := [((b 0), .inr (4, [.int 0, .ref e0, .int 0])), ((b 1), .inr (4, [.int 0, .ref e0, .int 0])), ((b 2), .inr (4, [.int 0, .ref e0, .int 0]))]) (w1 := [(h0, .inr (15, zM th b)), ((b 3), .inr (4, [.int 0, .ref e0, .int 0]))]) hP hD [0, 4] [1, 2, 3] rfl rfl (by decide) (by decide) hk1 hFc hP1 hD1
  generalize H1 = H at hP hS ⊢
  have hP : va_P (dC, dI) vwCl [((b 0), .inr (4, [.int 0, .ref e0, .int 0])), ((b 1), .inr (4, [.int 0, .ref e0, .int 0])), ((b 2), .inr (4, [.int 0, .ref e0, .int 0])), (h0, .inr (15, zM th b)), ((b 3), .inr (4, [.int 0, .ref e0, .int 0]))] H := hP
  have hD : va_D A [((b 0), .inr (4, [.int 0, .ref e0, .int 0])), ((b 1), .inr (4, [.int 0, .ref e0, .int 0])), ((b 2), .inr (4, [.int 0, .ref e0, .int 0])), (h0, .inr (15, zM th b)), ((b 3), .inr (4, [.int 0, .ref e0, .int 0]))] := hD
  obtain rfl : r1 = 0 := hw
  refine lv_if_eq (tgt := 13) hx hb dX10_mustStop_6 (by decide) (fun _ => ?_) (fun c2 => absurd (by decide) c2)
  refine lv_iconst (v := 1) hx hb dX10_mustStop_13 (by decide) ?_
  have hPc := hP.sub (ws' := [(h0, .inr (15, zM th b))]) [3] rfl
  have hDc := hD.sub (ws' := [(h0, .inr (15, zM th b))]) [3] (by decide) rfl
  have hKc := hK.sub (tys' := []) [] rfl
  have hFc := va_free (wc := [(h0, .inr (15, zM th b))]) hD hS hA [3] rfl
  refine va_calli (va_runV (As := [.int 1]) (rest := []) ⟨hx, hb, hml, hown, hts⟩ (c_X10_goesOn l htr dC dI e0 H.size h0 th b 1) (cwV 1 hts gX10_mustStop_X10_goesOn rfl rfl rfl (by decide +kernel) ⟨Nat.le_of_ble_eq_true rfl, Nat.le_of_ble_eq_true rfl⟩) ⟨fun a U g mk q => by obtain ⟨q0, q1, qP, qK, qD⟩ := q; exact ⟨q0, q1, qP, va_K.moved (u := U) (U := U.calling g mk a) (Vm.Alike.refl U.vm) qK, qD⟩, va_recv hKc hPc (ci := 15) (q0 := 0) rfl rfl, fun U hU hW => ⟨rfl, by rw [hU], by rw [hU]; exact hPc, va_K.moved hW.alike hKc, hDc.weaken (fun _ _ _ _ => trivial)⟩⟩ rfl rfl hl.1 rfl (lv_room (Nat.le_of_ble_eq_true rfl)) dX10_mustStop_14 ⟨Nat.le_of_ble_eq_true rfl, Nat.le_of_ble_eq_true rfl⟩) hS (fun q _ h => hFc q h) hFc (fun r3 u t H1 locs ht hvm hw hB hz1 hk1 hS => ?_)
  obtain ⟨hP1, hK1, hD1⟩ := hB
  rw [ht] at hP1
  obtain ⟨hP, hD⟩ := va_join (wr := [((b 0), .inr (4, [.int 0, .ref e0, .int 0])), ((b 1), .inr (4, [.int 0, .ref e0, .int 0])), ((b 2), .inr (4, [.int 0, .ref e0, .int 0])), ((b 3), .inr (4, [.int 0, .ref e0, .int 0]))]) (w1 := [(h0, .inr (15, zM 1 b))]) hP hD [3] [0, 1, 2, 4] rfl rfl (by decide) (by decide) hk1 hFc hP1 hD1
  generalize H1 = H at hP hS ⊢
  have hP : va_P (dC, dI) vwCl [((b 0), .inr (4, [.int 0, .ref e0, .int 0])), ((b 1), .inr (4, [.int 0, .ref e0, .int 0])), ((b 2), .inr (4, [.int 0, .ref e0, .int 0])), ((b 3), .inr (4, [.int 0, .ref e0, .int 0])), (h0, .inr (15, zM 1 b))] H := hP
  have hD : va_D A [((b 0), .inr (4, [.int 0, .ref e0, .int 0])), ((b 1), .inr (4, [.int 0, .ref e0, .int 0])), ((b 2), .inr (4, [.int 0, .ref e0, .int 0])), ((b 3), .inr (4, [.int 0, .ref e0, .int 0])), (h0, .inr (15, zM 1 b))] := hD
  obtain rfl : r3 = 0 := hw.trans (by decide)
  refine lv_if_eq (tgt := 43) hx hb dX10_mustStop_17 (by decide) (fun _ => ?_) (fun c4 => absurd (by decide) c4)
  refine lv_iconst (v := 0) hx hb dX10_mustStop_43 (by decide) ?_
  have hP9 := hP.sub (ws' := [(h0, .inr (15, zM 1 b))]) [4] rfl
  have hD9 := hD.sub (ws' := [(h0, .inr (15, zM 1 b))]) [4] (by decide) rfl
  have hK9 := hK.sub (tys' := []) [] rfl
  exact W.zret (v := 0) hx hb hr (by decide) (fun t ht hW => ⟨⟨0, (), rfl, rfl, ⟨by rw [ht]; exact hP9, va_K.moved hW.alike hK9, hD9⟩⟩, hS.F ht⟩) hS.2.2 dX10_mustStop_44

set_option maxRecDepth 20000 in
theorem ggX10_litter_X10_goesOn : GoodIn wsX10_litter wsX10_goesOn := goodIn_r _ [48, 49, 123, 124, 125, 126, 127, 128, 129, 130, 131, 132, 133] (by decide +kernel) (by decide +kernel)
set_option maxRecDepth 20000 in
theorem gX10_litter_X10_goesOn : GoodIn wsX10_litter (wsV RX10 78 RX10 yX10_goesOn wsX10_goesOn) := goodIn_app (goodIn_of _ (by decide +kernel)) ggX10_litter_X10_goesOn
set_option maxRecDepth 20000 in
theorem ggX10_litter_X10_isDog : GoodIn wsX10_litter wsX10_isDog := goodIn_r _ [15, 1, 16, 17, 18, 19, 20, 21, 22, 23, 14, 24, 123, 124, 125, 126, 127, 128, 129, 130, 131, 132, 133, 151, 152, 153] (by decide +kernel) (by decide +kernel)
set_option maxRecDepth 20000 in
theorem gX10_litter_X10_isDog : GoodIn wsX10_litter (wsV RX10 119 RX10 yX10_isDog wsX10_isDog) := goodIn_app (goodIn_of _ (by decide +kernel)) ggX10_litter_X10_isDog
theorem dX10_litter_0 : decode cX10_litter 0 = .ok (.aload_n 0, 1) := by decide +kernel
theorem dX10_litter_1 : decode cX10_litter 1 = .ok (.iload_n 1, 1) := by decide +kernel
theorem dX10_litter_2 : decode cX10_litter 2 = .ok (.invokevirtual 119, 3) := by decide +kernel
theorem dX10_litter_5 : decode cX10_litter 5 = .ok (.ifCond .eq 15, 3) := by decide +kernel
theorem dX10_litter_20 : decode cX10_litter 20 = .ok (.iconst 0, 1) := by decide +kernel
theorem dX10_litter_21 : decode cX10_litter 21 = .ok (.istore_n 3, 1) := by decide +kernel
theorem dX10_litter_22 : decode cX10_litter 22 = .ok (.iload_n 3, 1) := by decide +kernel
theorem dX10_litter_23 : decode cX10_litter 23 = .ok (.ifCond .eq 68, 3) := by decide +kernel
theorem dX10_litter_91 : decode cX10_litter 91 = .ok (.iconst 0, 1) := by decide +kernel
theorem dX10_litter_92 : decode cX10_litter 92 = .ok (.istore 4, 2) := by decide +kernel
theorem dX10_litter_94 : decode cX10_litter 94 = .ok (.aload_n 0, 1) := by decide +kernel
theorem dX10_litter_95 : decode cX10_litter 95 = .ok (.iload_n 3, 1) := by decide +kernel
theorem dX10_litter_96 : decode cX10_litter 96 = .ok (.ifCond .ne 7, 3) := by decide +kernel
theorem dX10_litter_99 : decode cX10_litter 99 = .ok (.iconst 1, 1) := by decide +kernel
theorem dX10_litter_100 : decode cX10_litter 100 = .ok (.goto 40, 3) := by decide +kernel
theorem dX10_litter_140 : decode cX10_litter 140 = .ok (.invokevirtual 78, 3) := by decide +kernel
theorem dX10_litter_143 : decode cX10_litter 143 = .ok (.ifCond .ne 5, 3) := by decide +kernel
theorem dX10_litter_146 : decode cX10_litter 146 = .ok (.iconst 0, 1) := by decide +kernel
theorem dX10_litter_147 : decode cX10_litter 147 = .ok (.ireturn, 1) := by decide +kernel
set_option maxHeartbeats 4000000 in
set_option maxRecDepth 100000 in
theorem c_X10_litter (l : Launch) (htr : l.stackTraces = false) (dC : Nat → ClassId) (dI : Nat → Nat → Nat) (e0 sz : Nat) (h0 : Nat) (th : Int32) (b : Nat → Nat) (p0 : Int32) (p1 : Int32) : Met l yX10_litter wsX10_litter ({ frames := 2, cells := 0, slots := 0, locals := 46 }) (va_Pc [.ref h0, .int p0, .int p1] (fun U => U.heap.size = sz ∧ va_P (dC, dI) vwCl [(h0, .inr (15, zM th b)), ((b 0), .inr (4, [.int 0, .ref e0, .int 0])), ((b 1), .inr (4, [.int 0, .ref e0, .int 0])), ((b 2), .inr (4, [.int 0, .ref e0, .int 0])), ((b 3), .inr (4, [.int 0, .ref e0, .int 0]))] U.heap ∧ va_K (dC, dI) vwCl [] U ∧ va_D (fun _ => True) [(h0, .inr (15, zM th b)), ((b 0), .inr (4, [.int 0, .ref e0, .int 0])), ((b 1), .inr (4, [.int 0, .ref e0, .int 0])), ((b 2), .inr (4, [.int 0, .ref e0, .int 0])), ((b 3), .inr (4, [.int 0, .ref e0, .int 0]))] ∧ zE e0 (va_A [(h0, .inr (15, zM th b)), ((b 0), .inr (4, [.int 0, .ref e0, .int 0])), ((b 1), .inr (4, [.int 0, .ref e0, .int 0])), ((b 2), .inr (4, [.int 0, .ref e0, .int 0])), ((b 3), .inr (4, [.int 0, .ref e0, .int 0]))] sz) U U.heap)) (va_Qi (fun (r : Int32) (_ : Unit) => r = 0) (fun _ t => va_P (dC, dI) vwCl [(h0, .inr (15, zM 1 b))] t.heap ∧ va_K (dC, dI) vwCl [] t ∧ va_D (va_A [(h0, .inr (15, zM th b)), ((b 0), .inr (4, [.int 0, .ref e0, .int 0])), ((b 1), .inr (4, [.int 0, .ref e0, .int 0])), ((b 2), .inr (4, [.int 0, .ref e0, .int 0])), ((b 3), .inr (4, [.int 0, .ref e0, .int 0]))] sz) [(h0, .inr (15, zM 1 b))]) (va_A [(h0, .inr (15, zM th b)), ((b 0), .inr (4, [.int 0, .ref e0, .int 0])), ((b 1), .inr (4, [.int 0, .ref e0, .int 0])), ((b 2), .inr (4, [.int 0, .ref e0, .int 0])), ((b 3), .inr (4, [.int 0, .ref e0, .int 0]))] sz)) 0 0 (va_A [(h0, .inr (15, zM th b)), ((b 0), .inr (4, [.int 0, .ref e0, .int 0])), ((b 1), .inr (4, [.int 0, .ref e0, .int 0])), ((b 2), .inr (4, [.int 0, .ref e0, .int 0])), ((b 3), .inr (4, [.int 0, .ref e0, .int 0]))] sz) := by
  refine Met.ofW (cc := cX10_litter) (maxL := 10) (ret := (some .int)) (by decide) rfl ?_
  intro p e s m args below meth c s₁ B hml hv
  obtain ⟨rfl, hsz, hP, hK, hD0, hE⟩ := hv
  have hx := B.exec
  have hb := B.bytes
  have hr := B.returns
  have hts := atoms_spec (ws := wsX10_litter) B.pre
  have hown : s.vm.findClass RX10 = some m.cls := findClass_of_methodNamed B.named
  have hlocks := B.notSynchronized
  subst hsz
  have hD := hD0.self (sz := s.heap.size)
  generalize hAe : va_A [(h0, .inr (15, zM th b)), ((b 0), .inr (4, [.int 0, .ref e0, .int 0])), ((b 1), .inr (4, [.int 0, .ref e0, .int 0])), ((b 2), .inr (4, [.int 0, .ref e0, .int 0])), ((b 3), .inr (4, [.int 0, .ref e0, .int 0]))] s.heap.size = A at hD hE ⊢
  have hA : ∀ q : Nat, s.heap.size ≤ q → A q := fun q h => by rw [← hAe]; exact Or.inr h
  have hS : va_S A s.heap s.heap [] := va_S.rf
  have hl := lv_entry ([.ref h0, .int p0, .int p1]) (n := 10) (Nat.le_of_ble_eq_true rfl)
  rw [lg_entry_eq]
  generalize (lg_sl ([.ref h0, .int p0, .int p1]) ++ List.replicate (10 - (lg_sl ([.ref h0, .int p0, .int p1])).length) Slot.unset).toArray = ls at hl ⊢
  have hl : lv_has ls 10 [(0, .ref h0), (1, .int p0), (2, .int p1)] := hl
  refine lv_aload_n hx hb dX10_litter_0 rfl (lv_at hl 0 rfl) ?_
  refine lv_iload_n hx hb dX10_litter_1 rfl (lv_at hl 1 rfl) ?_
  have hPc := hP.sub (ws' := [(h0, .inr (15, zM th b)), ((b 3), .inr (4, [.int 0, .ref e0, .int 0]))]) [0, 4] rfl
  have hDc := hD.sub (ws' := [(h0, .inr (15, zM th b)), ((b 3), .inr (4, [.int 0, .ref e0, .int 0]))]) [0, 4] (by decide) rfl
  have hKc := hK.sub (tys' := []) [] rfl
  have hFc := va_free (wc := [(h0, .inr (15, zM th b)), ((b 3), .inr (4, [.int 0, .ref e0, .int 0]))]) hD hS hA [0, 4] rfl
  have hEc := (hE.kept hS.2.1).narrow hFc
  refine va_calli (va_runV (As := [.int p0]) (rest := []) ⟨hx, hb, hml, hown, hts⟩ (c_X10_isDog l htr dC dI e0 s.heap.size h0 th b p0) (cwV 1 hts gX10_litter_X10_isDog rfl rfl rfl (by decide +kernel) ⟨Nat.le_of_ble_eq_true rfl, Nat.le_of_ble_eq_true rfl⟩) ⟨fun a U g mk q => by obtain ⟨q0, q1, qP, qK, qD, qE⟩ := q; exact ⟨q0, q1, qP, va_K.moved (u := U) (U := U.calling g mk a) (Vm.Alike.refl U.vm) qK, qD, zE.same rfl qE⟩, va_recv hKc hPc (ci := 15) (q0 := 0) rfl rfl, fun U hU hW => ⟨rfl, by rw [hU], by rw [hU]; exact hPc, va_K.moved hW.alike hKc, hDc.weaken (fun _ _ _ _ => trivial), by rw [hU]; exact zE.warm hW hEc⟩⟩ rfl rfl hl.1 rfl (lv_room (Nat.le_of_ble_eq_true rfl)) dX10_litter_2 ⟨Nat.le_of_ble_eq_true rfl, Nat.le_of_ble_eq_true rfl⟩) hS (fun q _ h => hFc q h) hFc (fun r1 u t H1 locs ht hvm hw hB hz1 hk1 hS => ?_)
  obtain ⟨hP1, hK1, hD1⟩ := hB
  rw [ht] at hP1
  obtain ⟨hP, hD⟩ := va_join (wr := [((b 0), .inr (4, [.int 0, .ref e0, .int 0])), ((b 1), .inr (4, [.int 0, .ref e0, .int 0])), ((b 2), .inr (4, [.int 0, .ref e0, .int 0]))]) (w1 := [(h0, .inr (15, zM th b)), ((b 3), .inr (4, [.int 0, .ref e0, .int 0]))]) hP hD [0, 4] [1, 2, 3] rfl rfl (by decide) (by decide) hk1 hFc hP1 hD1
  generalize H1 = H at hP hS ⊢
  have hP : va_P (dC, dI) vwCl [((b 0), .inr (4, [.int 0, .ref e0, .int 0])), ((b 1), .inr (4, [.int 0, .ref e0, .int 0])), ((b 2), .inr (4, [.int 0, .ref e0, .int 0])), (h0, .inr (15, zM th b)), ((b 3), .inr (4, [.int 0, .ref e0, .int 0]))] H := hP
  have hD : va_D A [((b 0), .inr (4, [.int 0, .ref e0, .int 0])), ((b 1), .inr (4, [.int 0, .ref e0, .int 0])), ((b 2), .inr (4, [.int 0, .ref e0, .int 0])), (h0, .inr (15, zM th b)), ((b 3), .inr (4, [.int 0, .ref e0, .int 0]))] := hD
  obtain rfl : r1 = 0 := hw
  refine lv_if_eq (tgt := 20) hx hb dX10_litter_5 (by decide) (fun _ => ?_) (fun c2 => absurd (by decide) c2)
  refine lv_iconst (v := 0) hx hb dX10_litter_20 (by decide) ?_
  refine lv_istore_n (lv' := [(3, .int 0), (0, .ref h0), (1, .int p0), (2, .int p1)]) hx hb dX10_litter_21 rfl hl (by decide) rfl (fun ls hl => ?_)
  refine lv_iload_n hx hb dX10_litter_22 rfl (lv_at hl 0 rfl) ?_
  refine lv_if_eq (tgt := 91) hx hb dX10_litter_23 (by decide) (fun _ => ?_) (fun c3 => absurd (by decide) c3)
  refine lv_iconst (v := 0) hx hb dX10_litter_91 (by decide) ?_
  refine lv_istore (lv' := [(4, .int 0), (3, .int 0), (0, .ref h0), (1, .int p0), (2, .int p1)]) hx hb dX10_litter_92 hl (by decide) rfl (fun ls hl => ?_)
  refine lv_aload_n hx hb dX10_litter_94 rfl (lv_at hl 2 rfl) ?_
  refine lv_iload_n hx hb dX10_litter_95 rfl (lv_at hl 1 rfl) ?_
  refine lv_if_ne (tgt := 103) hx hb dX10_litter_96 (by decide) (fun c4 => absurd (by decide) c4) (fun _ => ?_)
  refine lv_iconst (v := 1) hx hb dX10_litter_99 (by decide) ?_
  refine lv_goto (tgt := 140) hx hb dX10_litter_100 (by decide) ?_
  have hPc := hP.sub (ws' := [(h0, .inr (15, zM th b))]) [3] rfl
  have hDc := hD.sub (ws' := [(h0, .inr (15, zM th b))]) [3] (by decide) rfl
  have hKc := hK.sub (tys' := []) [] rfl
  have hFc := va_free (wc := [(h0, .inr (15, zM th b))]) hD hS hA [3] rfl
  refine va_calli (va_runV (As := [.int 1]) (rest := []) ⟨hx, hb, hml, hown, hts⟩ (c_X10_goesOn l htr dC dI e0 H.size h0 th b 1) (cwV 1 hts gX10_litter_X10_goesOn rfl rfl rfl (by decide +kernel) ⟨Nat.le_of_ble_eq_true rfl, Nat.le_of_ble_eq_true rfl⟩) ⟨fun a U g mk q => by obtain ⟨q0, q1, qP, qK, qD⟩ := q; exact ⟨q0, q1, qP, va_K.moved (u := U) (U := U.calling g mk a) (Vm.Alike.refl U.vm) qK, qD⟩, va_recv hKc hPc (ci := 15) (q0 := 0) rfl rfl, fun U hU hW => ⟨rfl, by rw [hU], by rw [hU]; exact hPc, va_K.moved hW.alike hKc, hDc.weaken (fun _ _ _ _ => trivial)⟩⟩ rfl rfl hl.1 rfl (lv_room (Nat.le_of_ble_eq_true rfl)) dX10_litter_140 ⟨Nat.le_of_ble_eq_true rfl, Nat.le_of_ble_eq_true rfl⟩) hS (fun q _ h => hFc q h) hFc (fun r5 u t H1 locs ht hvm hw hB hz1 hk1 hS => ?_)
  obtain ⟨hP1, hK1, hD1⟩ := hB
  rw [ht] at hP1
  obtain ⟨hP, hD⟩ := va_join (wr := [((b 0), .inr (4, [.int 0, .ref e0, .int 0])), ((b 1), .inr (4, [.int 0, .ref e0, .int 0])), ((b 2), .inr (4, [.int 0, .ref e0, .int 0])), ((b 3), .inr (4, [.int 0, .ref e0, .int 0]))]) (w1 := [(h0, .inr (15, zM 1 b))]) hP hD [3] [0, 1, 2, 4] rfl rfl (by decide) (by decide) hk1 hFc hP1 hD1
  generalize H1 = H at hP hS ⊢
  have hP : va_P (dC, dI) vwCl [((b 0), .inr (4, [.int 0, .ref e0, .int 0])), ((b 1), .inr (4, [.int 0, .ref e0, .int 0])), ((b 2), .inr (4, [.int 0, .ref e0, .int 0])), ((b 3), .inr (4, [.int 0, .ref e0, .int 0])), (h0, .inr (15, zM 1 b))] H := hP
  have hD : va_D A [((b 0), .inr (4, [.int 0, .ref e0, .int 0])), ((b 1), .inr (4, [.int 0, .ref e0, .int 0])), ((b 2), .inr (4, [.int 0, .ref e0, .int 0])), ((b 3), .inr (4, [.int 0, .ref e0, .int 0])), (h0, .inr (15, zM 1 b))] := hD
  obtain rfl : r5 = 0 := hw.trans (by decide)
  refine lv_if_ne (tgt := 148) hx hb dX10_litter_143 (by decide) (fun c6 => absurd (by decide) c6) (fun _ => ?_)
  refine lv_iconst (v := 0) hx hb dX10_litter_146 (by decide) ?_
  have hP9 := hP.sub (ws' := [(h0, .inr (15, zM 1 b))]) [4] rfl
  have hD9 := hD.sub (ws' := [(h0, .inr (15, zM 1 b))]) [4] (by decide) rfl
  have hK9 := hK.sub (tys' := []) [] rfl
  exact W.iret (v := 0) hx hb hr (fun t ht hW => ⟨⟨0, (), rfl, rfl, ⟨by rw [ht]; exact hP9, va_K.moved hW.alike hK9, hD9⟩⟩, hS.F ht⟩) hS.2.2 dX10_litter_147

set_option maxRecDepth 20000 in
theorem ggX10_areKin__X10_goesOn : GoodIn wsX10_areKin_ wsX10_goesOn := goodIn_r _ [20, 21, 42, 43, 44, 45, 46, 47, 48, 49, 50, 51, 52] (by decide +kernel) (by decide +kernel)
set_option maxRecDepth 20000 in
theorem gX10_areKin__X10_goesOn : GoodIn wsX10_areKin_ (wsV RX10 78 RX10 yX10_goesOn wsX10_goesOn) := goodIn_app (goodIn_of _ (by decide +kernel)) ggX10_areKin__X10_goesOn
set_option maxRecDepth 20000 in
theorem ggX10_areKin__X10_isDog : GoodIn wsX10_areKin_ wsX10_isDog := goodIn_r _ [7, 1, 8, 9, 10, 11, 12, 13, 14, 15, 6, 16, 42, 43, 44, 45, 46, 47, 48, 49, 50, 51, 52, 53, 54, 55] (by decide +kernel) (by decide +kernel)
set_option maxRecDepth 20000 in
theorem gX10_areKin__X10_isDog : GoodIn wsX10_areKin_ (wsV RX10 119 RX10 yX10_isDog wsX10_isDog) := goodIn_app (goodIn_of _ (by decide +kernel)) ggX10_areKin__X10_isDog
theorem dX10_areKin__0 : decode cX10_areKin_ 0 = .ok (.aload_n 0, 1) := by decide +kernel
theorem dX10_areKin__1 : decode cX10_areKin_ 1 = .ok (.iload_n 1, 1) := by decide +kernel
theorem dX10_areKin__2 : decode cX10_areKin_ 2 = .ok (.invokevirtual 119, 3) := by decide +kernel
theorem dX10_areKin__5 : decode cX10_areKin_ 5 = .ok (.ifCond .eq 15, 3) := by decide +kernel
theorem dX10_areKin__20 : decode cX10_areKin_ 20 = .ok (.iconst 0, 1) := by decide +kernel
theorem dX10_areKin__21 : decode cX10_areKin_ 21 = .ok (.istore_n 3, 1) := by decide +kernel
theorem dX10_areKin__22 : decode cX10_areKin_ 22 = .ok (.aload_n 0, 1) := by decide +kernel
theorem dX10_areKin__23 : decode cX10_areKin_ 23 = .ok (.iload_n 3, 1) := by decide +kernel
theorem dX10_areKin__24 : decode cX10_areKin_ 24 = .ok (.ifCond .eq 7, 3) := by decide +kernel
theorem dX10_areKin__31 : decode cX10_areKin_ 31 = .ok (.iconst 1, 1) := by decide +kernel
theorem dX10_areKin__32 : decode cX10_areKin_ 32 = .ok (.invokevirtual 78, 3) := by decide +kernel
theorem dX10_areKin__35 : decode cX10_areKin_ 35 = .ok (.ifCond .eq 39, 3) := by decide +kernel
theorem dX10_areKin__74 : decode cX10_areKin_ 74 = .ok (.iconst 0, 1) := by decide +kernel
theorem dX10_areKin__75 : decode cX10_areKin_ 75 = .ok (.ireturn, 1) := by decide +kernel
set_option maxHeartbeats 4000000 in
set_option maxRecDepth 100000 in
theorem c_X10_areKin_ (l : Launch) (htr : l.stackTraces = false) (dC : Nat → ClassId) (dI : Nat → Nat → Nat) (e0 sz : Nat) (h0 : Nat) (th : Int32) (b : Nat → Nat) (p0 : Int32) (p1 : Int32) : Met l yX10_areKin_ wsX10_areKin_ ({ frames := 2, cells := 0, slots := 0, locals := 46 }) (va_Pc [.ref h0, .int p0, .int p1] (fun U => U.heap.size = sz ∧ va_P (dC, dI) vwCl [(h0, .inr (15, zM th b)), ((b 0), .inr (4, [.int 0, .ref e0, .int 0])), ((b 1), .inr (4, [.int 0, .ref e0, .int 0])), ((b 2), .inr (4, [.int 0, .ref e0, .int 0])), ((b 3), .inr (4, [.int 0, .ref e0, .int 0]))] U.heap ∧ va_K (dC, dI) vwCl [] U ∧ va_D (fun _ => True) [(h0, .inr (15, zM th b)), ((b 0), .inr (4, [.int 0, .ref e0, .int 0])), ((b 1), .inr (4, [.int 0, .ref e0, .int 0])), ((b 2), .inr (4, [.int 0, .ref e0, .int 0])), ((b 3), .inr (4, [.int 0, .ref e0, .int 0]))] ∧ zE e0 (va_A [(h0, .inr (15, zM th b)), ((b 0), .inr (4, [.int 0, .ref e0, .int 0])), ((b 1), .inr (4, [.int 0, .ref e0, .int 0])), ((b 2), .inr (4, [.int 0, .ref e0, .int 0])), ((b 3), .inr (4, [.int 0, .ref e0, .int 0]))] sz) U U.heap)) (va_Qi (fun (r : Int32) (_ : Unit) => r = 0) (fun _ t => va_P (dC, dI) vwCl [(h0, .inr (15, zM 1 b))] t.heap ∧ va_K (dC, dI) vwCl [] t ∧ va_D (va_A [(h0, .inr (15, zM th b)), ((b 0), .inr (4, [.int 0, .ref e0, .int 0])), ((b 1), .inr (4, [.int 0, .ref e0, .int 0])), ((b 2), .inr (4, [.int 0, .ref e0, .int 0])), ((b 3), .inr (4, [.int 0, .ref e0, .int 0]))] sz) [(h0, .inr (15, zM 1 b))]) (va_A [(h0, .inr (15, zM th b)), ((b 0), .inr (4, [.int 0, .ref e0, .int 0])), ((b 1), .inr (4, [.int 0, .ref e0, .int 0])), ((b 2), .inr (4, [.int 0, .ref e0, .int 0])), ((b 3), .inr (4, [.int 0, .ref e0, .int 0]))] sz)) 0 0 (va_A [(h0, .inr (15, zM th b)), ((b 0), .inr (4, [.int 0, .ref e0, .int 0])), ((b 1), .inr (4, [.int 0, .ref e0, .int 0])), ((b 2), .inr (4, [.int 0, .ref e0, .int 0])), ((b 3), .inr (4, [.int 0, .ref e0, .int 0]))] sz) := by
  refine Met.ofW (cc := cX10_areKin_) (maxL := 4) (ret := (some .boolean)) (by decide) rfl ?_
  intro p e s m args below meth c s₁ B hml hv
  obtain ⟨rfl, hsz, hP, hK, hD0, hE⟩ := hv
  have hx := B.exec
  have hb := B.bytes
  have hr := B.returns
  have hts := atoms_spec (ws := wsX10_areKin_) B.pre
  have hown : s.vm.findClass RX10 = some m.cls := findClass_of_methodNamed B.named
  have hlocks := B.notSynchronized
  subst hsz
  have hD := hD0.self (sz := s.heap.size)
  generalize hAe : va_A [(h0, .inr (15, zM th b)), ((b 0), .inr (4, [.int 0, .ref e0, .int 0])), ((b 1), .inr (4, [.int 0, .ref e0, .int 0])), ((b 2), .inr (4, [.int 0, .ref e0, .int 0])), ((b 3), .inr (4, [.int 0, .ref e0, .int 0]))] s.heap.size = A at hD hE ⊢
  have hA : ∀ q : Nat, s.heap.size ≤ q → A q := fun q h => by rw [← hAe]; exact Or.inr h
  have hS : va_S A s.heap s.heap [] := va_S.rf
  have hl := lv_entry ([.ref h0, .int p0, .int p1]) (n := 4) (Nat.le_of_ble_eq_true rfl)
  rw [lg_entry_eq]
  generalize (lg_sl ([.ref h0, .int p0, .int p1]) ++ List.replicate (4 - (lg_sl ([.ref h0, .int p0, .int p1])).length) Slot.unset).toArray = ls at hl ⊢
  have hl : lv_has ls 4 [(0, .ref h0), (1, .int p0), (2, .int p1)] := hl
  refine lv_aload_n hx hb dX10_areKin__0 rfl (lv_at hl 0 rfl) ?_
  refine lv_iload_n hx hb dX10_areKin__1 rfl (lv_at hl 1 rfl) ?_
  have hPc := hP.sub (ws' := [(h0, .inr (15, zM th b)), ((b 3), .inr (4, [.int 0, .ref e0, .int 0]))]) [0, 4] rfl
  have hDc := hD.sub (ws' := [(h0, .inr (15, zM th b)), ((b 3), .inr (4, [.int 0, .ref e0, .int 0]))]) [0, 4] (by decide) rfl
  have hKc := hK.sub (tys' := []) [] rfl
  have hFc := va_free (wc := [(h0, .inr (15, zM th b)), ((b 3), .inr (4, [.int 0, .ref e0, .int 0]))]) hD hS hA [0, 4] rfl
  have hEc := (hE.kept hS.2.1).narrow hFc
  refine va_calli (va_runV (As := [.int p0]) (rest := []) ⟨hx, hb, hml, hown, hts⟩ (c_X10_isDog l htr dC dI e0 s.heap.size h0 th b p0) (cwV 1 hts gX10_areKin__X10_isDog rfl rfl rfl (by decide +kernel) ⟨Nat.le_of_ble_eq_true rfl, Nat.le_of_ble_eq_true rfl⟩) ⟨fun a U g mk q => by obtain ⟨q0, q1, qP, qK, qD, qE⟩ := q; exact ⟨q0, q1, qP, va_K.moved (u := U) (U := U.calling g mk a) (Vm.Alike.refl U.vm) qK, qD, zE.same rfl qE⟩, va_recv hKc hPc (ci := 15) (q0 := 0) rfl rfl, fun U hU hW => ⟨rfl, by rw [hU], by rw [hU]; exact hPc, va_K.moved hW.alike hKc, hDc.weaken (fun _ _ _ _ => trivial), by rw [hU]; exact zE.warm hW hEc⟩⟩ rfl rfl hl.1 rfl (lv_room (Nat.le_of_ble_eq_true rfl)) dX10_areKin__2 ⟨Nat.le_of_ble_eq_true rfl, Nat.le_of_ble_eq_true rfl⟩) hS (fun q _ h => hFc q h) hFc (fun r1 u t H1 locs ht hvm hw hB hz1 hk1 hS => ?_)
  obtain ⟨hP1, hK1, hD1⟩ := hB
  rw [ht] at hP1
  obtain ⟨hP, hD⟩ := va_join (wr := [((b 0), .inr (4, [.int 0, .ref e0, .int 0])), ((b 1), .inr (4, [.int 0, .ref e0, .int 0])), ((b 2), .inr (4, [.int 0, .ref e0, .int 0]))]) (w1 := [(h0, .inr (15, zM th b)), ((b 3), .inr (4, [.int 0, .ref e0, .int 0]))]) hP hD [0, 4] [1, 2, 3] rfl rfl (by decide) (by decide) hk1 hFc hP1 hD1
  generalize H1 = H at hP hS ⊢
  have hP : va_P (dC, dI) vwCl [((b 0), .inr (4, [.int 0, .ref e0, .int 0])), ((b 1), .inr (4, [.int 0, .ref e0, .int 0])), ((b 2), .inr (4, [.int 0, .ref e0, .int 0])), (h0, .inr (15, zM th b)), ((b 3), .inr (4, [.int 0, .ref e0, .int 0]))] H := hP
  have hD : va_D A [((b 0), .inr (4, [.int 0, .ref e0, .int 0])), ((b 1), .inr (4, [.int 0, .ref e0, .int 0])), ((b 2), .inr (4, [.int 0, .ref e0, .int 0])), (h0, .inr (15, zM th b)), ((b 3), .inr (4, [.int 0, .ref e0, .int 0]))] := hD
  obtain rfl : r1 = 0 := hw
  refine lv_if_eq (tgt := 20) hx hb dX10_areKin__5 (by decide) (fun _ => ?_) (fun c2 => absurd (by decide) c2)
  refine lv_iconst (v := 0) hx hb dX10_areKin__20 (by decide) ?_
  refine lv_istore_n (lv' := [(3, .int 0), (0, .ref h0), (1, .int p0), (2, .int p1)]) hx hb dX10_areKin__21 rfl hl (by decide) rfl (fun ls hl => ?_)
  refine lv_aload_n hx hb dX10_areKin__22 rfl (lv_at hl 1 rfl) ?_
  refine lv_iload_n hx hb dX10_areKin__23 rfl (lv_at hl 0 rfl) ?_
  refine lv_if_eq (tgt := 31) hx hb dX10_areKin__24 (by decide) (fun _ => ?_) (fun c3 => absurd (by decide) c3)
  refine lv_iconst (v := 1) hx hb dX10_areKin__31 (by decide) ?_
  have hPc := hP.sub (ws' := [(h0, .inr (15, zM th b))]) [3] rfl
  have hDc := hD.sub (ws' := [(h0, .inr (15, zM th b))]) [3] (by decide) rfl
  have hKc := hK.sub (tys' := []) [] rfl
  have hFc := va_free (wc := [(h0, .inr (15, zM th b))]) hD hS hA [3] rfl
  refine va_calli (va_runV (As := [.int 1]) (rest := []) ⟨hx, hb, hml, hown, hts⟩ (c_X10_goesOn l htr dC dI e0 H.size h0 th b 1) (cwV 1 hts gX10_areKin__X10_goesOn rfl rfl rfl (by decide +kernel) ⟨Nat.le_of_ble_eq_true rfl, Nat.le_of_ble_eq_true rfl⟩) ⟨fun a U g mk q => by obtain ⟨q0, q1, qP, qK, qD⟩ := q; exact ⟨q0, q1, qP, va_K.moved (u := U) (U := U.calling g mk a) (Vm.Alike.refl U.vm) qK, qD⟩, va_recv hKc hPc (ci := 15) (q0 := 0) rfl rfl, fun U hU hW => ⟨rfl, by rw [hU], by rw [hU]; exact hPc, va_K.moved hW.alike hKc, hDc.weaken (fun _ _ _ _ => trivial)⟩⟩ rfl rfl hl.1 rfl (lv_room (Nat.le_of_ble_eq_true rfl)) dX10_areKin__32 ⟨Nat.le_of_ble_eq_true rfl, Nat.le_of_ble_eq_true rfl⟩) hS (fun q _ h => hFc q h) hFc (fun r4 u t H1 locs ht hvm hw hB hz1 hk1 hS => ?_)
  obtain ⟨hP1, hK1, hD1⟩ := hB
  rw [ht] at hP1
  obtain ⟨hP, hD⟩ := va_join (wr := [((b 0), .inr (4, [.int 0, .ref e0, .int 0])), ((b 1), .inr (4, [.int 0, .ref e0, .int 0])), ((b 2), .inr (4, [.int 0, .ref e0, .int 0])), ((b 3), .inr (4, [.int 0, .ref e0, .int 0]))]) (w1 := [(h0, .inr (15, zM 1 b))]) hP hD [3] [0, 1, 2, 4] rfl rfl (by decide) (by decide) hk1 hFc hP1 hD1
  generalize H1 = H at hP hS ⊢
  have hP : va_P (dC, dI) vwCl [((b 0), .inr (4, [.int 0, .ref e0, .int 0])), ((b 1), .inr (4, [.int 0, .ref e0, .int 0])), ((b 2), .inr (4, [.int 0, .ref e0, .int 0])), ((b 3), .inr (4, [.int 0, .ref e0, .int 0])), (h0, .inr (15, zM 1 b))] H := hP
  have hD : va_D A [((b 0), .inr (4, [.int 0, .ref e0, .int 0])), ((b 1), .inr (4, [.int 0, .ref e0, .int 0])), ((b 2), .inr (4, [.int 0, .ref e0, .int 0])), ((b 3), .inr (4, [.int 0, .ref e0, .int 0])), (h0, .inr (15, zM 1 b))] := hD
  obtain rfl : r4 = 0 := hw.trans (by decide)
  refine lv_if_eq (tgt := 74) hx hb dX10_areKin__35 (by decide) (fun _ => ?_) (fun c5 => absurd (by decide) c5)
  refine lv_iconst (v := 0) hx hb dX10_areKin__74 (by decide) ?_
  have hP9 := hP.sub (ws' := [(h0, .inr (15, zM 1 b))]) [4] rfl
  have hD9 := hD.sub (ws' := [(h0, .inr (15, zM 1 b))]) [4] (by decide) rfl
  have hK9 := hK.sub (tys' := []) [] rfl
  exact W.zret (v := 0) hx hb hr (by decide) (fun t ht hW => ⟨⟨0, (), rfl, rfl, ⟨by rw [ht]; exact hP9, va_K.moved hW.alike hK9, hD9⟩⟩, hS.F ht⟩) hS.2.2 dX10_areKin__75

set_option maxRecDepth 20000 in
theorem ggX10_train_X10_goesOn : GoodIn wsX10_train wsX10_goesOn := goodIn_r _ [42, 43, 44, 45, 46, 47, 48, 49, 50, 51, 52, 53, 54] (by decide +kernel) (by decide +kernel)
set_option maxRecDepth 20000 in
theorem gX10_train_X10_goesOn : GoodIn wsX10_train (wsV RX10 78 RX10 yX10_goesOn wsX10_goesOn) := goodIn_app (goodIn_of _ (by decide +kernel)) ggX10_train_X10_goesOn
set_option maxRecDepth 20000 in
theorem ggX10_train_X10_isDog : GoodIn wsX10_train wsX10_isDog := goodIn_r _ [12, 1, 13, 14, 15, 16, 17, 18, 19, 20, 11, 21, 44, 45, 46, 47, 48, 49, 50, 51, 52, 53, 54, 72, 73, 74] (by decide +kernel) (by decide +kernel)
set_option maxRecDepth 20000 in
theorem gX10_train_X10_isDog : GoodIn wsX10_train (wsV RX10 119 RX10 yX10_isDog wsX10_isDog) := goodIn_app (goodIn_of _ (by decide +kernel)) ggX10_train_X10_isDog
theorem dX10_train_0 : decode cX10_train 0 = .ok (.aload_n 0, 1) := by decide +kernel
theorem dX10_train_1 : decode cX10_train 1 = .ok (.iload_n 1, 1) := by decide +kernel
theorem dX10_train_2 : decode cX10_train 2 = .ok (.invokevirtual 119, 3) := by decide +kernel
theorem dX10_train_5 : decode cX10_train 5 = .ok (.istore_n 3, 1) := by decide +kernel
theorem dX10_train_6 : decode cX10_train 6 = .ok (.iload_n 3, 1) := by decide +kernel
theorem dX10_train_7 : decode cX10_train 7 = .ok (.ifCond .eq 66, 3) := by decide +kernel
theorem dX10_train_73 : decode cX10_train 73 = .ok (.iconst 0, 1) := by decide +kernel
theorem dX10_train_74 : decode cX10_train 74 = .ok (.istore 4, 2) := by decide +kernel
theorem dX10_train_76 : decode cX10_train 76 = .ok (.aload_n 0, 1) := by decide +kernel
theorem dX10_train_77 : decode cX10_train 77 = .ok (.iload_n 3, 1) := by decide +kernel
theorem dX10_train_78 : decode cX10_train 78 = .ok (.ifCond .ne 7, 3) := by decide +kernel
theorem dX10_train_81 : decode cX10_train 81 = .ok (.iconst 1, 1) := by decide +kernel
theorem dX10_train_82 : decode cX10_train 82 = .ok (.goto 29, 3) := by decide +kernel
theorem dX10_train_111 : decode cX10_train 111 = .ok (.invokevirtual 78, 3) := by decide +kernel
theorem dX10_train_114 : decode cX10_train 114 = .ok (.ifCond .ne 5, 3) := by decide +kernel
theorem dX10_train_117 : decode cX10_train 117 = .ok (.iconst 0, 1) := by decide +kernel
theorem dX10_train_118 : decode cX10_train 118 = .ok (.ireturn, 1) := by decide +kernel
set_option maxHeartbeats 4000000 in
set_option maxRecDepth 100000 in
theorem c_X10_train (l : Launch) (htr : l.stackTraces = false) (dC : Nat → ClassId) (dI : Nat → Nat → Nat) (e0 sz : Nat) (h0 : Nat) (th : Int32) (b : Nat → Nat) (p0 : Int32) (p1 : Int32) : Met l yX10_train wsX10_train ({ frames := 2, cells := 0, slots := 0, locals := 46 }) (va_Pc [.ref h0, .int p0, .int p1] (fun U => U.heap.size = sz ∧ va_P (dC, dI) vwCl [(h0, .inr (15, zM th b)), ((b 0), .inr (4, [.int 0, .ref e0, .int 0])), ((b 1), .inr (4, [.int 0, .ref e0, .int 0])), ((b 2), .inr (4, [.int 0, .ref e0, .int 0])), ((b 3), .inr (4, [.int 0, .ref e0, .int 0]))] U.heap ∧ va_K (dC, dI) vwCl [] U ∧ va_D (fun _ => True) [(h0, .inr (15, zM th b)), ((b 0), .inr (4, [.int 0, .ref e0, .int 0])), ((b 1), .inr (4, [.int 0, .ref e0, .int 0])), ((b 2), .inr (4, [.int 0, .ref e0, .int 0])), ((b 3), .inr (4, [.int 0, .ref e0, .int 0]))] ∧ zE e0 (va_A [(h0, .inr (15, zM th b)), ((b 0), .inr (4, [.int 0, .ref e0, .int 0])), ((b 1), .inr (4, [.int 0, .ref e0, .int 0])), ((b 2), .inr (4, [.int 0, .ref e0, .int 0])), ((b 3), .inr (4, [.int 0, .ref e0, .int 0]))] sz) U U.heap)) (va_Qi (fun (r : Int32) (_ : Unit) => r = 0) (fun _ t => va_P (dC, dI) vwCl [(h0, .inr (15, zM 1 b))] t.heap ∧ va_K (dC, dI) vwCl [] t ∧ va_D (va_A [(h0, .inr (15, zM th b)), ((b 0), .inr (4, [.int 0, .ref e0, .int 0])), ((b 1), .inr (4, [.int 0, .ref e0, .int 0])), ((b 2), .inr (4, [.int 0, .ref e0, .int 0])), ((b 3), .inr (4, [.int 0, .ref e0, .int 0]))] sz) [(h0, .inr (15, zM 1 b))]) (va_A [(h0, .inr (15, zM th b)), ((b 0), .inr (4, [.int 0, .ref e0, .int 0])), ((b 1), .inr (4, [.int 0, .ref e0, .int 0])), ((b 2), .inr (4, [.int 0, .ref e0, .int 0])), ((b 3), .inr (4, [.int 0, .ref e0, .int 0]))] sz)) 0 0 (va_A [(h0, .inr (15, zM th b)), ((b 0), .inr (4, [.int 0, .ref e0, .int 0])), ((b 1), .inr (4, [.int 0, .ref e0, .int 0])), ((b 2), .inr (4, [.int 0, .ref e0, .int 0])), ((b 3), .inr (4, [.int 0, .ref e0, .int 0]))] sz) := by
  refine Met.ofW (cc := cX10_train) (maxL := 7) (ret := (some .int)) (by decide) rfl ?_
  intro p e s m args below meth c s₁ B hml hv
  obtain ⟨rfl, hsz, hP, hK, hD0, hE⟩ := hv
  have hx := B.exec
  have hb := B.bytes
  have hr := B.returns
  have hts := atoms_spec (ws := wsX10_train) B.pre
  have hown : s.vm.findClass RX10 = some m.cls := findClass_of_methodNamed B.named
  have hlocks := B.notSynchronized
  subst hsz
  have hD := hD0.self (sz := s.heap.size)
  generalize hAe : va_A [(h0, .inr (15, zM th b)), ((b 0), .inr (4, [.int 0, .ref e0, .int 0])), ((b 1), .inr (4, [.int 0, .ref e0, .int 0])), ((b 2), .inr (4, [.int 0, .ref e0, .int 0])), ((b 3), .inr (4, [.int 0, .ref e0, .int 0]))] s.heap.size = A at hD hE ⊢
  have hA : ∀ q : Nat, s.heap.size ≤ q → A q := fun q h => by rw [← hAe]; exact Or.inr h
  have hS : va_S A s.heap s.heap [] := va_S.rf
  have hl := lv_entry ([.ref h0, .int p0, .int p1]) (n := 7) (Nat.le_of_ble_eq_true rfl)
  rw [lg_entry_eq]
  generalize (lg_sl ([.ref h0, .int p0, .int p1]) ++ List.replicate (7 - (lg_sl ([.ref h0, .int p0, .int p1])).length) Slot.unset).toArray = ls at hl ⊢
  have hl : lv_has ls 7 [(0, .ref h0), (1, .int p0), (2, .int p1)] := hl
  refine lv_aload_n hx hb dX10_train_0 rfl (lv_at hl 0 rfl) ?_
  refine lv_iload_n hx hb dX10_train_1 rfl (lv_at hl 1 rfl) ?_
  have hPc := hP.sub (ws' := [(h0, .inr (15, zM th b)), ((b 3), .inr (4, [.int 0, .ref e0, .int 0]))]) [0, 4] rfl
  have hDc := hD.sub (ws' := [(h0, .inr (15, zM th b)), ((b 3), .inr (4, [.int 0, .ref e0, .int 0]))]) [0, 4] (by decide) rfl
  have hKc := hK.sub (tys' := []) [] rfl
  have hFc := va_free (wc := [(h0, .inr (15, zM th b)), ((b 3), .inr (4, [.int 0, .ref e0, .int 0]))]) hD hS hA [0, 4] rfl
  have hEc := (hE.kept hS.2.1).narrow hFc
  refine va_calli (va_runV (As := [.int p0]) (rest := []) ⟨hx, hb, hml, hown, hts⟩ (c_X10_isDog l htr dC dI e0 s.heap.size h0 th b p0) (cwV 1 hts gX10_train_X10_isDog rfl rfl rfl (by decide +kernel) ⟨Nat.le_of_ble_eq_true rfl, Nat.le_of_ble_eq_true rfl⟩) ⟨fun a U g mk q => by obtain ⟨q0, q1, qP, qK, qD, qE⟩ := q; exact ⟨q0, q1, qP, va_K.moved (u := U) (U := U.calling g mk a) (Vm.Alike.refl U.vm) qK, qD, zE.same rfl qE⟩, va_recv hKc hPc (ci := 15) (q0 := 0) rfl rfl, fun U hU hW => ⟨rfl, by rw [hU], by rw [hU]; exact hPc, va_K.moved hW.alike hKc, hDc.weaken (fun _ _ _ _ => trivial), by rw [hU]; exact zE.warm hW hEc⟩⟩ rfl rfl hl.1 rfl (lv_room (Nat.le_of_ble_eq_true rfl)) dX10_train_2 ⟨Nat.le_of_ble_eq_true rfl, Nat.le_of_ble_eq_true rfl⟩) hS (fun q _ h => hFc q h) hFc (fun r1 u t H1 locs ht hvm hw hB hz1 hk1 hS => ?_)
  obtain ⟨hP1, hK1, hD1⟩ := hB
  rw [ht] at hP1
  obtain ⟨hP, hD⟩ := va_join (wr := [((b 0), .inr (4, [.int 0, .ref e0, .int 0])), ((b 1), .inr (4, [.int 0, .ref e0, .int 0])), ((b 2), .inr (4, [.int 0, .ref e0, .int 0]))]) (w1 := [(h0, .inr (15, zM th b)), ((b 3), .inr (4, [.int 0, .ref e0, .int 0]))]) hP hD [0, 4] [1, 2, 3] rfl rfl (by decide) (by decide) hk1 hFc hP1 hD1
  generalize H1 = H at hP hS ⊢
  have hP : va_P (dC, dI) vwCl [((b 0), .inr (4, [.int 0, .ref e0, .int 0])), ((b 1), .inr (4, [.int 0, .ref e0, .int 0])), ((b 2), .inr (4, [.int 0, .ref e0, .int 0])), (h0, .inr (15, zM th b)), ((b 3), .inr (4, [.int 0, .ref e0, .int 0]))] H := hP
  have hD : va_D A [((b 0), .inr (4, [.int 0, .ref e0, .int 0])), ((b 1), .inr (4, [.int 0, .ref e0, .int 0])), ((b 2), .inr (4, [.int 0, .ref e0, .int 0])), (h0, .inr (15, zM th b)), ((b 3), .inr (4, [.int 0, .ref e0, .int 0]))] := hD
  obtain rfl : r1 = 0 := hw
  refine lv_istore_n (lv' := [(3, .int 0), (0, .ref h0), (1, .int p0), (2, .int p1)]) hx hb dX10_train_5 rfl hl (by decide) rfl (fun ls hl => ?_)
  refine lv_iload_n hx hb dX10_train_6 rfl (lv_at hl 0 rfl) ?_
  refine lv_if_eq (tgt := 73) hx hb dX10_train_7 (by decide) (fun _ => ?_) (fun c2 => absurd (by decide) c2)
  refine lv_iconst (v := 0) hx hb dX10_train_73 (by decide) ?_
  refine lv_istore (lv' := [(4, .int 0), (3, .int 0), (0, .ref h0), (1, .int p0), (2, .int p1)]) hx hb dX10_train_74 hl (by decide) rfl (fun ls hl => ?_)
  refine lv_aload_n hx hb dX10_train_76 rfl (lv_at hl 2 rfl) ?_
  refine lv_iload_n hx hb dX10_train_77 rfl (lv_at hl 1 rfl) ?_
  refine lv_if_ne (tgt := 85) hx hb dX10_train_78 (by decide) (fun c3 => absurd (by decide) c3) (fun _ => ?_)
  refine lv_iconst (v := 1) hx hb dX10_train_81 (by decide) ?_
  refine lv_goto (tgt := 111) hx hb dX10_train_82 (by decide) ?_
  have hPc := hP.sub (ws' := [(h0, .inr (15, zM th b))]) [3] rfl
  have hDc := hD.sub (ws' := [(h0, .inr (15, zM th b))]) [3] (by decide) rfl
  have hKc := hK.sub (tys' := []) [] rfl
  have hFc := va_free (wc := [(h0, .inr (15, zM th b))]) hD hS hA [3] rfl
  refine va_calli (va_runV (As := [.int 1]) (rest := []) ⟨hx, hb, hml, hown, hts⟩ (c_X10_goesOn l htr dC dI e0 H.size h0 th b 1) (cwV 1 hts gX10_train_X10_goesOn rfl rfl rfl (by decide +kernel) ⟨Nat.le_of_ble_eq_true rfl, Nat.le_of_ble_eq_true rfl⟩) ⟨fun a U g mk q => by obtain ⟨q0, q1, qP, qK, qD⟩ := q; exact ⟨q0, q1, qP, va_K.moved (u := U) (U := U.calling g mk a) (Vm.Alike.refl U.vm) qK, qD⟩, va_recv hKc hPc (ci := 15) (q0 := 0) rfl rfl, fun U hU hW => ⟨rfl, by rw [hU], by rw [hU]; exact hPc, va_K.moved hW.alike hKc, hDc.weaken (fun _ _ _ _ => trivial)⟩⟩ rfl rfl hl.1 rfl (lv_room (Nat.le_of_ble_eq_true rfl)) dX10_train_111 ⟨Nat.le_of_ble_eq_true rfl, Nat.le_of_ble_eq_true rfl⟩) hS (fun q _ h => hFc q h) hFc (fun r4 u t H1 locs ht hvm hw hB hz1 hk1 hS => ?_)
  obtain ⟨hP1, hK1, hD1⟩ := hB
  rw [ht] at hP1
  obtain ⟨hP, hD⟩ := va_join (wr := [((b 0), .inr (4, [.int 0, .ref e0, .int 0])), ((b 1), .inr (4, [.int 0, .ref e0, .int 0])), ((b 2), .inr (4, [.int 0, .ref e0, .int 0])), ((b 3), .inr (4, [.int 0, .ref e0, .int 0]))]) (w1 := [(h0, .inr (15, zM 1 b))]) hP hD [3] [0, 1, 2, 4] rfl rfl (by decide) (by decide) hk1 hFc hP1 hD1
  generalize H1 = H at hP hS ⊢
  have hP : va_P (dC, dI) vwCl [((b 0), .inr (4, [.int 0, .ref e0, .int 0])), ((b 1), .inr (4, [.int 0, .ref e0, .int 0])), ((b 2), .inr (4, [.int 0, .ref e0, .int 0])), ((b 3), .inr (4, [.int 0, .ref e0, .int 0])), (h0, .inr (15, zM 1 b))] H := hP
  have hD : va_D A [((b 0), .inr (4, [.int 0, .ref e0, .int 0])), ((b 1), .inr (4, [.int 0, .ref e0, .int 0])), ((b 2), .inr (4, [.int 0, .ref e0, .int 0])), ((b 3), .inr (4, [.int 0, .ref e0, .int 0])), (h0, .inr (15, zM 1 b))] := hD
  obtain rfl : r4 = 0 := hw.trans (by decide)
  refine lv_if_ne (tgt := 119) hx hb dX10_train_114 (by decide) (fun c5 => absurd (by decide) c5) (fun _ => ?_)
  refine lv_iconst (v := 0) hx hb dX10_train_117 (by decide) ?_
  have hP9 := hP.sub (ws' := [(h0, .inr (15, zM 1 b))]) [4] rfl
  have hD9 := hD.sub (ws' := [(h0, .inr (15, zM 1 b))]) [4] (by decide) rfl
  have hK9 := hK.sub (tys' := []) [] rfl
  exact W.iret (v := 0) hx hb hr (fun t ht hW => ⟨⟨0, (), rfl, rfl, ⟨by rw [ht]; exact hP9, va_K.moved hW.alike hK9, hD9⟩⟩, hS.F ht⟩) hS.2.2 dX10_train_118

set_option maxRecDepth 20000 in
theorem ggX10_cold_Jx4a65c_size_8abf5 : GoodIn wsX10_cold wsJx4a65c_size_8abf5 := goodIn_r _ [9, 10, 53, 54, 55] (by decide +kernel) (by decide +kernel)
set_option maxRecDepth 20000 in
theorem gX10_cold_Jx4a65c_size_8abf5_f59Jx4a65c : GoodIn wsX10_cold (va_wsF RX10 59 RJx4a65c ⟨"java/util/List", "size", "()I"⟩ yJx4a65c_size_8abf5 wsJx4a65c_size_8abf5) := goodIn_app (goodIn_of _ (by decide +kernel)) ggX10_cold_Jx4a65c_size_8abf5
set_option maxRecDepth 20000 in
theorem ggX10_cold_X10_goesOn : GoodIn wsX10_cold wsX10_goesOn := goodIn_r _ [18, 19, 37, 38, 39, 40, 41, 42, 43, 44, 45, 46, 47] (by decide +kernel) (by decide +kernel)
set_option maxRecDepth 20000 in
theorem gX10_cold_X10_goesOn : GoodIn wsX10_cold (wsV RX10 78 RX10 yX10_goesOn wsX10_goesOn) := goodIn_app (goodIn_of _ (by decide +kernel)) ggX10_cold_X10_goesOn
set_option maxRecDepth 20000 in
theorem ggX10_cold_X10_in : GoodIn wsX10_cold wsX10_in := goodIn_r _ [14] (by decide +kernel) (by decide +kernel)
set_option maxRecDepth 20000 in
theorem gX10_cold_X10_in : GoodIn wsX10_cold (va_wsS RX10 63 yX10_in wsX10_in) := goodIn_app (goodIn_of _ (by decide +kernel)) ggX10_cold_X10_in
theorem dX10_cold_0 : decode cX10_cold 0 = .ok (.iload_n 1, 1) := by decide +kernel
theorem dX10_cold_1 : decode cX10_cold 1 = .ok (.i2l, 1) := by decide +kernel
theorem dX10_cold_2 : decode cX10_cold 2 = .ok (.lconst 0, 1) := by decide +kernel
theorem dX10_cold_3 : decode cX10_cold 3 = .ok (.aload_n 0, 1) := by decide +kernel
theorem dX10_cold_4 : decode cX10_cold 4 = .ok (.getfield 10, 3) := by decide +kernel
theorem dX10_cold_7 : decode cX10_cold 7 = .ok (.invokeinterface 59 1, 5) := by decide +kernel
theorem dX10_cold_12 : decode cX10_cold 12 = .ok (.iconst 1, 1) := by decide +kernel
theorem dX10_cold_13 : decode cX10_cold 13 = .ok (.isub, 1) := by decide +kernel
theorem dX10_cold_14 : decode cX10_cold 14 = .ok (.i2l, 1) := by decide +kernel
theorem dX10_cold_15 : decode cX10_cold 15 = .ok (.invokestatic 63, 3) := by decide +kernel
theorem dX10_cold_18 : decode cX10_cold 18 = .ok (.istore_n 3, 1) := by decide +kernel
theorem dX10_cold_19 : decode cX10_cold 19 = .ok (.aload_n 0, 1) := by decide +kernel
theorem dX10_cold_20 : decode cX10_cold 20 = .ok (.iload_n 3, 1) := by decide +kernel
theorem dX10_cold_21 : decode cX10_cold 21 = .ok (.ifCond .ne 7, 3) := by decide +kernel
theorem dX10_cold_24 : decode cX10_cold 24 = .ok (.iconst 1, 1) := by decide +kernel
theorem dX10_cold_25 : decode cX10_cold 25 = .ok (.goto 22, 3) := by decide +kernel
theorem dX10_cold_47 : decode cX10_cold 47 = .ok (.invokevirtual 78, 3) := by decide +kernel
theorem dX10_cold_50 : decode cX10_cold 50 = .ok (.ifCond .ne 5, 3) := by decide +kernel
theorem dX10_cold_53 : decode cX10_cold 53 = .ok (.iconst 0, 1) := by decide +kernel
theorem dX10_cold_54 : decode cX10_cold 54 = .ok (.ireturn, 1) := by decide +kernel
set_option maxHeartbeats 4000000 in
set_option maxRecDepth 100000 in
theorem c_X10_cold (l : Launch) (htr : l.stackTraces = false) (dC : Nat → ClassId) (dI : Nat → Nat → Nat) (e0 sz : Nat) (h0 : Nat) (th : Int32) (b : Nat → Nat) (p0 : Int32) (p1 : Int32) : Met l yX10_cold wsX10_cold ({ frames := 1, cells := 0, slots := 0, locals := 25 }) (va_Pc [.ref h0, .int p0, .int p1] (fun U => U.heap.size = sz ∧ va_P (dC, dI) vwCl [(h0, .inr (15, zM th b)), ((b 0), .inr (4, [.int 0, .ref e0, .int 0])), ((b 1), .inr (4, [.int 0, .ref e0, .int 0])), ((b 2), .inr (4, [.int 0, .ref e0, .int 0])), ((b 3), .inr (4, [.int 0, .ref e0, .int 0]))] U.heap ∧ va_K (dC, dI) vwCl [] U ∧ va_D (fun _ => True) [(h0, .inr (15, zM th b)), ((b 0), .inr (4, [.int 0, .ref e0, .int 0])), ((b 1), .inr (4, [.int 0, .ref e0, .int 0])), ((b 2), .inr (4, [.int 0, .ref e0, .int 0])), ((b 3), .inr (4, [.int 0, .ref e0, .int 0]))] ∧ zE e0 (va_A [(h0, .inr (15, zM th b)), ((b 0), .inr (4, [.int 0, .ref e0, .int 0])), ((b 1), .inr (4, [.int 0, .ref e0, .int 0])), ((b 2), .inr (4, [.int 0, .ref e0, .int 0])), ((b 3), .inr (4, [.int 0, .ref e0, .int 0]))] sz) U U.heap)) (va_Qi (fun (r : Int32) (_ : Unit) => r = 0) (fun _ t => va_P (dC, dI) vwCl [(h0, .inr (15, zM 1 b))] t.heap ∧ va_K (dC, dI) vwCl [] t ∧ va_D (va_A [(h0, .inr (15, zM th b)), ((b 0), .inr (4, [.int 0, .ref e0, .int 0])), ((b 1), .inr (4, [.int 0, .ref e0, .int 0])), ((b 2), .inr (4, [.int 0, .ref e0, .int 0])), ((b 3), .inr (4, [.int 0, .ref e0, .int 0]))] sz) [(h0, .inr (15, zM 1 b))]) (va_A [(h0, .inr (15, zM th b)), ((b 0), .inr (4, [.int 0, .ref e0, .int 0])), ((b 1), .inr (4, [.int 0, .ref e0, .int 0])), ((b 2), .inr (4, [.int 0, .ref e0, .int 0])), ((b 3), .inr (4, [.int 0, .ref e0, .int 0]))] sz)) 0 0 (va_A [(h0, .inr (15, zM th b)), ((b 0), .inr (4, [.int 0, .ref e0, .int 0])), ((b 1), .inr (4, [.int 0, .ref e0, .int 0])), ((b 2), .inr (4, [.int 0, .ref e0, .int 0])), ((b 3), .inr (4, [.int 0, .ref e0, .int 0]))] sz) := by
  refine Met.ofW (cc := cX10_cold) (maxL := 5) (ret := (some .int)) (by decide) rfl ?_
  intro p e s m args below meth c s₁ B hml hv
  obtain ⟨rfl, hsz, hP, hK, hD0, hE⟩ := hv
  have hx := B.exec
  have hb := B.bytes
  have hr := B.returns
  have hts := atoms_spec (ws := wsX10_cold) B.pre
  have hown : s.vm.findClass RX10 = some m.cls := findClass_of_methodNamed B.named
  have hlocks := B.notSynchronized
  subst hsz
  have hD := hD0.self (sz := s.heap.size)
  generalize hAe : va_A [(h0, .inr (15, zM th b)), ((b 0), .inr (4, [.int 0, .ref e0, .int 0])), ((b 1), .inr (4, [.int 0, .ref e0, .int 0])), ((b 2), .inr (4, [.int 0, .ref e0, .int 0])), ((b 3), .inr (4, [.int 0, .ref e0, .int 0]))] s.heap.size = A at hD hE ⊢
  have hA : ∀ q : Nat, s.heap.size ≤ q → A q := fun q h => by rw [← hAe]; exact Or.inr h
  have hS : va_S A s.heap s.heap [] := va_S.rf
  have hl := lv_entry ([.ref h0, .int p0, .int p1]) (n := 5) (Nat.le_of_ble_eq_true rfl)
  rw [lg_entry_eq]
  generalize (lg_sl ([.ref h0, .int p0, .int p1]) ++ List.replicate (5 - (lg_sl ([.ref h0, .int p0, .int p1])).length) Slot.unset).toArray = ls at hl ⊢
  have hl : lv_has ls 5 [(0, .ref h0), (1, .int p0), (2, .int p1)] := hl
  refine lv_iload_n hx hb dX10_cold_0 rfl (lv_at hl 1 rfl) ?_
  refine lv_i2l (v := (p0).toInt64) hx hb dX10_cold_1 rfl ?_
  refine lv_lconst (v := 0) hx hb dX10_cold_2 (by decide) ?_
  refine lv_aload_n hx hb dX10_cold_3 rfl (lv_at hl 0 rfl) ?_
  refine va_get (D := (dC, dI)) (ci := 15) (v := .ref (b 0)) (C := RX10) (T := TX10) (N := 11) hx hb hts (by decide +kernel) hown hK hP 0 rfl rfl 1 (by decide) (hts (.fieldLink RX10 10 "GanglineModel" "legs" "Ljava/util/List;") (by decide +kernel)) (fun _ h9 => h9) rfl dX10_cold_4 ?_
  have hPc := hP.sub (ws' := [((b 0), .inr (4, [.int 0, .ref e0, .int 0]))]) [1] rfl
  have hDc := hD.sub (ws' := [((b 0), .inr (4, [.int 0, .ref e0, .int 0]))]) [1] (by decide) rfl
  have hKc := hK.sub (tys' := []) [] rfl
  have hFc := va_free (wc := [((b 0), .inr (4, [.int 0, .ref e0, .int 0]))]) hD hS hA [1] rfl
  refine va_callFi (va_runF (As := []) (rest := [.long 0, .long (p0).toInt64]) (hK.1 4 _ rfl).2 ⟨hx, hb, hml, hown, hts⟩ (c_Jx4a65c_size_8abf5 l htr dC dI e0 s.heap.size (b 0) 0 e0 0) (va_cwF 0 hts gX10_cold_Jx4a65c_size_8abf5_f59Jx4a65c rfl rfl rfl (zV_W_size hE.v) (by decide +kernel) ⟨Nat.le_of_ble_eq_true rfl, Nat.le_of_ble_eq_true rfl⟩) ⟨fun a U g mk q => by obtain ⟨q0, q1, qP, qK, qD⟩ := q; exact ⟨q0, q1, qP, va_K.moved (u := U) (U := U.calling g mk a) (Vm.Alike.refl U.vm) qK, qD⟩, va_recv hKc hPc (ci := 4) (q0 := 0) rfl rfl, fun U hU hW => ⟨rfl, by rw [hU], by rw [hU]; exact hPc, va_K.moved hW.alike hKc, hDc.weaken (fun _ _ _ _ => trivial)⟩⟩ rfl rfl hl.1 rfl (lv_room (Nat.le_of_ble_eq_true rfl)) dX10_cold_7 ⟨Nat.le_of_ble_eq_true rfl, Nat.le_of_ble_eq_true rfl⟩) hS (fun q _ h => hFc q h) hFc (fun r1 u t H1 locs ht hvm hw hB hz1 hk1 hS => ?_)
  obtain ⟨hP1, hK1, hD1⟩ := hB
  rw [ht] at hP1
  obtain ⟨hP, hD⟩ := va_join (wr := [(h0, .inr (15, zM th b)), ((b 1), .inr (4, [.int 0, .ref e0, .int 0])), ((b 2), .inr (4, [.int 0, .ref e0, .int 0])), ((b 3), .inr (4, [.int 0, .ref e0, .int 0]))]) (w1 := [((b 0), .inr (4, [.int 0, .ref e0, .int 0]))]) hP hD [1] [0, 2, 3, 4] rfl rfl (by decide) (by decide) hk1 hFc hP1 hD1
  generalize H1 = H at hP hS ⊢
  have hP : va_P (dC, dI) vwCl [(h0, .inr (15, zM th b)), ((b 1), .inr (4, [.int 0, .ref e0, .int 0])), ((b 2), .inr (4, [.int 0, .ref e0, .int 0])), ((b 3), .inr (4, [.int 0, .ref e0, .int 0])), ((b 0), .inr (4, [.int 0, .ref e0, .int 0]))] H := hP
  have hD : va_D A [(h0, .inr (15, zM th b)), ((b 1), .inr (4, [.int 0, .ref e0, .int 0])), ((b 2), .inr (4, [.int 0, .ref e0, .int 0])), ((b 3), .inr (4, [.int 0, .ref e0, .int 0])), ((b 0), .inr (4, [.int 0, .ref e0, .int 0]))] := hD
  obtain rfl : r1 = 0 := hw
  refine lv_iconst (v := 1) hx hb dX10_cold_12 (by decide) ?_
  refine lv_isub hx hb dX10_cold_13 ?_
  refine lv_topi (fun y2 e3 => ?_)
  obtain rfl : y2 = (-1) := e3.trans (by decide)
  refine lv_i2l (v := (-1)) hx hb dX10_cold_14 (by decide) ?_
  have hPc := hP.sub (ws' := []) [] rfl
  have hDc := hD.sub (ws' := []) [] (by decide) rfl
  have hKc := hK.sub (tys' := []) [] rfl
  have hFc := va_free (wc := []) hD hS hA [] rfl
  refine va_calli (va_runS (As := [.long (p0).toInt64, .long 0, .long (-1)]) (rest := []) ⟨hx, hb, hml, hown, hts⟩ (c_X10_in l htr dC dI e0 H.size ((p0).toInt64) 0 (-1)) (va_cwS 3 hts gX10_cold_X10_in rfl rfl rfl (by decide +kernel) ⟨Nat.le_of_ble_eq_true rfl, Nat.le_of_ble_eq_true rfl⟩) ⟨fun a U g mk q => by obtain ⟨q0, q1, qP, qK, qD⟩ := q; exact ⟨q0, q1, qP, va_K.moved (u := U) (U := U.calling g mk a) (Vm.Alike.refl U.vm) qK, qD⟩, fun U hU hW => ⟨rfl, by rw [hU], by rw [hU]; exact hPc, va_K.moved hW.alike hKc, hDc.weaken (fun _ _ _ _ => trivial)⟩⟩ rfl rfl hl.1 rfl (lv_room (Nat.le_of_ble_eq_true rfl)) dX10_cold_15 ⟨Nat.le_of_ble_eq_true rfl, Nat.le_of_ble_eq_true rfl⟩) hS (fun q _ h => hFc q h) hFc (fun r4 u t H1 locs ht hvm hw hB hz1 hk1 hS => ?_)
  have hP1 : va_P (dC, dI) vwCl [] H1 := fun k q h => by simp at h
  have hD1 : va_D (va_A [] H.size) [] := ⟨fun i j p q h => by simp at h, fun k q h => by simp at h⟩
  obtain ⟨hP, hD⟩ := va_join (wr := [(h0, .inr (15, zM th b)), ((b 1), .inr (4, [.int 0, .ref e0, .int 0])), ((b 2), .inr (4, [.int 0, .ref e0, .int 0])), ((b 3), .inr (4, [.int 0, .ref e0, .int 0])), ((b 0), .inr (4, [.int 0, .ref e0, .int 0]))]) (w1 := []) hP hD [] [0, 1, 2, 3, 4] rfl rfl (by decide) (by decide) hk1 hFc hP1 hD1
  generalize H1 = H at hP hS ⊢
  have hP : va_P (dC, dI) vwCl [(h0, .inr (15, zM th b)), ((b 1), .inr (4, [.int 0, .ref e0, .int 0])), ((b 2), .inr (4, [.int 0, .ref e0, .int 0])), ((b 3), .inr (4, [.int 0, .ref e0, .int 0])), ((b 0), .inr (4, [.int 0, .ref e0, .int 0]))] H := hP
  have hD : va_D A [(h0, .inr (15, zM th b)), ((b 1), .inr (4, [.int 0, .ref e0, .int 0])), ((b 2), .inr (4, [.int 0, .ref e0, .int 0])), ((b 3), .inr (4, [.int 0, .ref e0, .int 0])), ((b 0), .inr (4, [.int 0, .ref e0, .int 0]))] := hD
  obtain rfl : r4 = 0 := hw.trans (if_neg (fun h => absurd (Int64.le_trans h.1 h.2) (by decide)))
  refine lv_istore_n (lv' := [(3, .int 0), (0, .ref h0), (1, .int p0), (2, .int p1)]) hx hb dX10_cold_18 rfl hl (by decide) rfl (fun ls hl => ?_)
  refine lv_aload_n hx hb dX10_cold_19 rfl (lv_at hl 1 rfl) ?_
  refine lv_iload_n hx hb dX10_cold_20 rfl (lv_at hl 0 rfl) ?_
  refine lv_if_ne (tgt := 28) hx hb dX10_cold_21 (by decide) (fun c5 => absurd (by decide) c5) (fun _ => ?_)
  refine lv_iconst (v := 1) hx hb dX10_cold_24 (by decide) ?_
  refine lv_goto (tgt := 47) hx hb dX10_cold_25 (by decide) ?_
  have hPc := hP.sub (ws' := [(h0, .inr (15, zM th b))]) [0] rfl
  have hDc := hD.sub (ws' := [(h0, .inr (15, zM th b))]) [0] (by decide) rfl
  have hKc := hK.sub (tys' := []) [] rfl
  have hFc := va_free (wc := [(h0, .inr (15, zM th b))]) hD hS hA [0] rfl
  refine va_calli (va_runV (As := [.int 1]) (rest := []) ⟨hx, hb, hml, hown, hts⟩ (c_X10_goesOn l htr dC dI e0 H.size h0 th b 1) (cwV 1 hts gX10_cold_X10_goesOn rfl rfl rfl (by decide +kernel) ⟨Nat.le_of_ble_eq_true rfl, Nat.le_of_ble_eq_true rfl⟩) ⟨fun a U g mk q => by obtain ⟨q0, q1, qP, qK, qD⟩ := q; exact ⟨q0, q1, qP, va_K.moved (u := U) (U := U.calling g mk a) (Vm.Alike.refl U.vm) qK, qD⟩, va_recv hKc hPc (ci := 15) (q0 := 0) rfl rfl, fun U hU hW => ⟨rfl, by rw [hU], by rw [hU]; exact hPc, va_K.moved hW.alike hKc, hDc.weaken (fun _ _ _ _ => trivial)⟩⟩ rfl rfl hl.1 rfl (lv_room (Nat.le_of_ble_eq_true rfl)) dX10_cold_47 ⟨Nat.le_of_ble_eq_true rfl, Nat.le_of_ble_eq_true rfl⟩) hS (fun q _ h => hFc q h) hFc (fun r6 u t H1 locs ht hvm hw hB hz1 hk1 hS => ?_)
  obtain ⟨hP1, hK1, hD1⟩ := hB
  rw [ht] at hP1
  obtain ⟨hP, hD⟩ := va_join (wr := [((b 1), .inr (4, [.int 0, .ref e0, .int 0])), ((b 2), .inr (4, [.int 0, .ref e0, .int 0])), ((b 3), .inr (4, [.int 0, .ref e0, .int 0])), ((b 0), .inr (4, [.int 0, .ref e0, .int 0]))]) (w1 := [(h0, .inr (15, zM 1 b))]) hP hD [0] [1, 2, 3, 4] rfl rfl (by decide) (by decide) hk1 hFc hP1 hD1
  generalize H1 = H at hP hS ⊢
  have hP : va_P (dC, dI) vwCl [((b 1), .inr (4, [.int 0, .ref e0, .int 0])), ((b 2), .inr (4, [.int 0, .ref e0, .int 0])), ((b 3), .inr (4, [.int 0, .ref e0, .int 0])), ((b 0), .inr (4, [.int 0, .ref e0, .int 0])), (h0, .inr (15, zM 1 b))] H := hP
  have hD : va_D A [((b 1), .inr (4, [.int 0, .ref e0, .int 0])), ((b 2), .inr (4, [.int 0, .ref e0, .int 0])), ((b 3), .inr (4, [.int 0, .ref e0, .int 0])), ((b 0), .inr (4, [.int 0, .ref e0, .int 0])), (h0, .inr (15, zM 1 b))] := hD
  obtain rfl : r6 = 0 := hw.trans (by decide)
  refine lv_if_ne (tgt := 55) hx hb dX10_cold_50 (by decide) (fun c7 => absurd (by decide) c7) (fun _ => ?_)
  refine lv_iconst (v := 0) hx hb dX10_cold_53 (by decide) ?_
  have hP9 := hP.sub (ws' := [(h0, .inr (15, zM 1 b))]) [4] rfl
  have hD9 := hD.sub (ws' := [(h0, .inr (15, zM 1 b))]) [4] (by decide) rfl
  have hK9 := hK.sub (tys' := []) [] rfl
  exact W.iret (v := 0) hx hb hr (fun t ht hW => ⟨⟨0, (), rfl, rfl, ⟨by rw [ht]; exact hP9, va_K.moved hW.alike hK9, hD9⟩⟩, hS.F ht⟩) hS.2.2 dX10_cold_54

set_option maxRecDepth 20000 in
theorem ggX10_storm_Jx4a65c_size_8abf5 : GoodIn wsX10_storm wsJx4a65c_size_8abf5 := goodIn_r _ [14, 15, 86, 87, 88] (by decide +kernel) (by decide +kernel)
set_option maxRecDepth 20000 in
theorem gX10_storm_Jx4a65c_size_8abf5_f59Jx4a65c : GoodIn wsX10_storm (va_wsF RX10 59 RJx4a65c ⟨"java/util/List", "size", "()I"⟩ yJx4a65c_size_8abf5 wsJx4a65c_size_8abf5) := goodIn_app (goodIn_of _ (by decide +kernel)) ggX10_storm_Jx4a65c_size_8abf5
set_option maxRecDepth 20000 in
theorem ggX10_storm_X10_goesOn : GoodIn wsX10_storm wsX10_goesOn := goodIn_r _ [19, 20, 75, 76, 77, 78, 79, 80, 81, 82, 83, 84, 85] (by decide +kernel) (by decide +kernel)
set_option maxRecDepth 20000 in
theorem gX10_storm_X10_goesOn : GoodIn wsX10_storm (wsV RX10 78 RX10 yX10_goesOn wsX10_goesOn) := goodIn_app (goodIn_of _ (by decide +kernel)) ggX10_storm_X10_goesOn
set_option maxRecDepth 20000 in
theorem ggX10_storm_X10_in : GoodIn wsX10_storm wsX10_in := goodIn_r _ [9] (by decide +kernel) (by decide +kernel)
set_option maxRecDepth 20000 in
theorem gX10_storm_X10_in : GoodIn wsX10_storm (va_wsS RX10 63 yX10_in wsX10_in) := goodIn_app (goodIn_of _ (by decide +kernel)) ggX10_storm_X10_in
theorem dX10_storm_0 : decode cX10_storm 0 = .ok (.iload_n 2, 1) := by decide +kernel
theorem dX10_storm_1 : decode cX10_storm 1 = .ok (.i2l, 1) := by decide +kernel
theorem dX10_storm_2 : decode cX10_storm 2 = .ok (.lconst 0, 1) := by decide +kernel
theorem dX10_storm_3 : decode cX10_storm 3 = .ok (.ldc2_w 102, 3) := by decide +kernel
theorem dX10_storm_6 : decode cX10_storm 6 = .ok (.invokestatic 63, 3) := by decide +kernel
theorem dX10_storm_9 : decode cX10_storm 9 = .ok (.ifCond .eq 33, 3) := by decide +kernel
theorem dX10_storm_12 : decode cX10_storm 12 = .ok (.iload_n 3, 1) := by decide +kernel
theorem dX10_storm_13 : decode cX10_storm 13 = .ok (.i2l, 1) := by decide +kernel
theorem dX10_storm_14 : decode cX10_storm 14 = .ok (.iload_n 2, 1) := by decide +kernel
theorem dX10_storm_15 : decode cX10_storm 15 = .ok (.i2l, 1) := by decide +kernel
theorem dX10_storm_16 : decode cX10_storm 16 = .ok (.ldc2_w 102, 3) := by decide +kernel
theorem dX10_storm_19 : decode cX10_storm 19 = .ok (.invokestatic 63, 3) := by decide +kernel
theorem dX10_storm_22 : decode cX10_storm 22 = .ok (.ifCond .eq 20, 3) := by decide +kernel
theorem dX10_storm_25 : decode cX10_storm 25 = .ok (.iload 4, 2) := by decide +kernel
theorem dX10_storm_27 : decode cX10_storm 27 = .ok (.i2l, 1) := by decide +kernel
theorem dX10_storm_28 : decode cX10_storm 28 = .ok (.lconst 1, 1) := by decide +kernel
theorem dX10_storm_29 : decode cX10_storm 29 = .ok (.ldc2_w 71, 3) := by decide +kernel
theorem dX10_storm_32 : decode cX10_storm 32 = .ok (.invokestatic 63, 3) := by decide +kernel
theorem dX10_storm_35 : decode cX10_storm 35 = .ok (.ifCond .eq 7, 3) := by decide +kernel
theorem dX10_storm_38 : decode cX10_storm 38 = .ok (.iconst 1, 1) := by decide +kernel
theorem dX10_storm_39 : decode cX10_storm 39 = .ok (.goto 4, 3) := by decide +kernel
theorem dX10_storm_42 : decode cX10_storm 42 = .ok (.iconst 0, 1) := by decide +kernel
theorem dX10_storm_43 : decode cX10_storm 43 = .ok (.istore 5, 2) := by decide +kernel
theorem dX10_storm_45 : decode cX10_storm 45 = .ok (.aload_n 0, 1) := by decide +kernel
theorem dX10_storm_46 : decode cX10_storm 46 = .ok (.iload_n 1, 1) := by decide +kernel
theorem dX10_storm_47 : decode cX10_storm 47 = .ok (.i2l, 1) := by decide +kernel
theorem dX10_storm_48 : decode cX10_storm 48 = .ok (.lconst 0, 1) := by decide +kernel
theorem dX10_storm_49 : decode cX10_storm 49 = .ok (.aload_n 0, 1) := by decide +kernel
theorem dX10_storm_50 : decode cX10_storm 50 = .ok (.getfield 10, 3) := by decide +kernel
theorem dX10_storm_53 : decode cX10_storm 53 = .ok (.invokeinterface 59 1, 5) := by decide +kernel
theorem dX10_storm_58 : decode cX10_storm 58 = .ok (.iconst 1, 1) := by decide +kernel
theorem dX10_storm_59 : decode cX10_storm 59 = .ok (.isub, 1) := by decide +kernel
theorem dX10_storm_60 : decode cX10_storm 60 = .ok (.i2l, 1) := by decide +kernel
theorem dX10_storm_61 : decode cX10_storm 61 = .ok (.invokestatic 63, 3) := by decide +kernel
theorem dX10_storm_64 : decode cX10_storm 64 = .ok (.ifCond .ne 7, 3) := by decide +kernel
theorem dX10_storm_67 : decode cX10_storm 67 = .ok (.iconst 1, 1) := by decide +kernel
theorem dX10_storm_68 : decode cX10_storm 68 = .ok (.goto 31, 3) := by decide +kernel
theorem dX10_storm_99 : decode cX10_storm 99 = .ok (.invokevirtual 78, 3) := by decide +kernel
theorem dX10_storm_102 : decode cX10_storm 102 = .ok (.ifCond .ne 5, 3) := by decide +kernel
theorem dX10_storm_105 : decode cX10_storm 105 = .ok (.iconst 0, 1) := by decide +kernel
theorem dX10_storm_106 : decode cX10_storm 106 = .ok (.ireturn, 1) := by decide +kernel
set_option maxHeartbeats 4000000 in
set_option maxRecDepth 100000 in
theorem c_X10_storm (l : Launch) (htr : l.stackTraces = false) (dC : Nat → ClassId) (dI : Nat → Nat → Nat) (e0 sz : Nat) (h0 : Nat) (th : Int32) (b : Nat → Nat) (p0 : Int32) (p1 : Int32) (p2 : Int32) (p3 : Int32) : Met l yX10_storm wsX10_storm ({ frames := 1, cells := 0, slots := 0, locals := 25 }) (va_Pc [.ref h0, .int p0, .int p1, .int p2, .int p3] (fun U => U.heap.size = sz ∧ va_P (dC, dI) vwCl [(h0, .inr (15, zM th b)), ((b 0), .inr (4, [.int 0, .ref e0, .int 0])), ((b 1), .inr (4, [.int 0, .ref e0, .int 0])), ((b 2), .inr (4, [.int 0, .ref e0, .int 0])), ((b 3), .inr (4, [.int 0, .ref e0, .int 0]))] U.heap ∧ va_K (dC, dI) vwCl [] U ∧ va_D (fun _ => True) [(h0, .inr (15, zM th b)), ((b 0), .inr (4, [.int 0, .ref e0, .int 0])), ((b 1), .inr (4, [.int 0, .ref e0, .int 0])), ((b 2), .inr (4, [.int 0, .ref e0, .int 0])), ((b 3), .inr (4, [.int 0, .ref e0, .int 0]))] ∧ zE e0 (va_A [(h0, .inr (15, zM th b)), ((b 0), .inr (4, [.int 0, .ref e0, .int 0])), ((b 1), .inr (4, [.int 0, .ref e0, .int 0])), ((b 2), .inr (4, [.int 0, .ref e0, .int 0])), ((b 3), .inr (4, [.int 0, .ref e0, .int 0]))] sz) U U.heap)) (va_Qi (fun (r : Int32) (_ : Unit) => r = 0) (fun _ t => va_P (dC, dI) vwCl [(h0, .inr (15, zM 1 b))] t.heap ∧ va_K (dC, dI) vwCl [] t ∧ va_D (va_A [(h0, .inr (15, zM th b)), ((b 0), .inr (4, [.int 0, .ref e0, .int 0])), ((b 1), .inr (4, [.int 0, .ref e0, .int 0])), ((b 2), .inr (4, [.int 0, .ref e0, .int 0])), ((b 3), .inr (4, [.int 0, .ref e0, .int 0]))] sz) [(h0, .inr (15, zM 1 b))]) (va_A [(h0, .inr (15, zM th b)), ((b 0), .inr (4, [.int 0, .ref e0, .int 0])), ((b 1), .inr (4, [.int 0, .ref e0, .int 0])), ((b 2), .inr (4, [.int 0, .ref e0, .int 0])), ((b 3), .inr (4, [.int 0, .ref e0, .int 0]))] sz)) 0 0 (va_A [(h0, .inr (15, zM th b)), ((b 0), .inr (4, [.int 0, .ref e0, .int 0])), ((b 1), .inr (4, [.int 0, .ref e0, .int 0])), ((b 2), .inr (4, [.int 0, .ref e0, .int 0])), ((b 3), .inr (4, [.int 0, .ref e0, .int 0]))] sz) := by
  refine Met.ofW (cc := cX10_storm) (maxL := 6) (ret := (some .int)) (by decide) rfl ?_
  intro p e s m args below meth c s₁ B hml hv
  obtain ⟨rfl, hsz, hP, hK, hD0, hE⟩ := hv
  have hx := B.exec
  have hb := B.bytes
  have hr := B.returns
  have hts := atoms_spec (ws := wsX10_storm) B.pre
  have hown : s.vm.findClass RX10 = some m.cls := findClass_of_methodNamed B.named
  have hlocks := B.notSynchronized
  subst hsz
  have hD := hD0.self (sz := s.heap.size)
  generalize hAe : va_A [(h0, .inr (15, zM th b)), ((b 0), .inr (4, [.int 0, .ref e0, .int 0])), ((b 1), .inr (4, [.int 0, .ref e0, .int 0])), ((b 2), .inr (4, [.int 0, .ref e0, .int 0])), ((b 3), .inr (4, [.int 0, .ref e0, .int 0]))] s.heap.size = A at hD hE ⊢
  have hA : ∀ q : Nat, s.heap.size ≤ q → A q := fun q h => by rw [← hAe]; exact Or.inr h
  have hS : va_S A s.heap s.heap [] := va_S.rf
  have hl := lv_entry ([.ref h0, .int p0, .int p1, .int p2, .int p3]) (n := 6) (Nat.le_of_ble_eq_true rfl)
  rw [lg_entry_eq]
  generalize (lg_sl ([.ref h0, .int p0, .int p1, .int p2, .int p3]) ++ List.replicate (6 - (lg_sl ([.ref h0, .int p0, .int p1, .int p2, .int p3])).length) Slot.unset).toArray = ls at hl ⊢
  have hl : lv_has ls 6 [(0, .ref h0), (1, .int p0), (2, .int p1), (3, .int p2), (4, .int p3)] := hl
  refine lv_iload_n hx hb dX10_storm_0 rfl (lv_at hl 2 rfl) ?_
  refine lv_i2l (v := (p1).toInt64) hx hb dX10_storm_1 rfl ?_
  refine lv_lconst (v := 0) hx hb dX10_storm_2 (by decide) ?_
  refine lv_ldc2 hx hb hown (hts (.constantLong RX10 102 (9999)) (by decide +kernel)) dX10_storm_3 ?_
  have hPc := hP.sub (ws' := []) [] rfl
  have hDc := hD.sub (ws' := []) [] (by decide) rfl
  have hKc := hK.sub (tys' := []) [] rfl
  have hFc := va_free (wc := []) hD hS hA [] rfl
  refine va_calli (va_runS (As := [.long (p1).toInt64, .long 0, .long (9999)]) (rest := []) ⟨hx, hb, hml, hown, hts⟩ (c_X10_in l htr dC dI e0 s.heap.size ((p1).toInt64) 0 (9999)) (va_cwS 3 hts gX10_storm_X10_in rfl rfl rfl (by decide +kernel) ⟨Nat.le_of_ble_eq_true rfl, Nat.le_of_ble_eq_true rfl⟩) ⟨fun a U g mk q => by obtain ⟨q0, q1, qP, qK, qD⟩ := q; exact ⟨q0, q1, qP, va_K.moved (u := U) (U := U.calling g mk a) (Vm.Alike.refl U.vm) qK, qD⟩, fun U hU hW => ⟨rfl, by rw [hU], by rw [hU]; exact hPc, va_K.moved hW.alike hKc, hDc.weaken (fun _ _ _ _ => trivial)⟩⟩ rfl rfl hl.1 rfl (lv_room (Nat.le_of_ble_eq_true rfl)) dX10_storm_6 ⟨Nat.le_of_ble_eq_true rfl, Nat.le_of_ble_eq_true rfl⟩) hS (fun q _ h => hFc q h) hFc (fun r1 u t H1 locs ht hvm hw hB hz1 hk1 hS => ?_)
  have hP1 : va_P (dC, dI) vwCl [] H1 := fun k q h => by simp at h
  have hD1 : va_D (va_A [] s.heap.size) [] := ⟨fun i j p q h => by simp at h, fun k q h => by simp at h⟩
  obtain ⟨hP, hD⟩ := va_join (wr := [(h0, .inr (15, zM th b)), ((b 0), .inr (4, [.int 0, .ref e0, .int 0])), ((b 1), .inr (4, [.int 0, .ref e0, .int 0])), ((b 2), .inr (4, [.int 0, .ref e0, .int 0])), ((b 3), .inr (4, [.int 0, .ref e0, .int 0]))]) (w1 := []) hP hD [] [0, 1, 2, 3, 4] rfl rfl (by decide) (by decide) hk1 hFc hP1 hD1
  generalize H1 = H at hP hS ⊢
  have hP : va_P (dC, dI) vwCl [(h0, .inr (15, zM th b)), ((b 0), .inr (4, [.int 0, .ref e0, .int 0])), ((b 1), .inr (4, [.int 0, .ref e0, .int 0])), ((b 2), .inr (4, [.int 0, .ref e0, .int 0])), ((b 3), .inr (4, [.int 0, .ref e0, .int 0]))] H := hP
  have hD : va_D A [(h0, .inr (15, zM th b)), ((b 0), .inr (4, [.int 0, .ref e0, .int 0])), ((b 1), .inr (4, [.int 0, .ref e0, .int 0])), ((b 2), .inr (4, [.int 0, .ref e0, .int 0])), ((b 3), .inr (4, [.int 0, .ref e0, .int 0]))] := hD
  have hr1 : r1 = (if 0 ≤ ((p1).toInt64) ∧ ((p1).toInt64) ≤ (9999) then 1 else 0) := hw
  refine lv_if_eq (tgt := 42) hx hb dX10_storm_9 (by decide) (fun c2 => ?_) (fun c2 => ?_)
  · refine lv_iconst (v := 0) hx hb dX10_storm_42 (by decide) ?_
    refine lv_istore (lv' := [(5, .int 0), (0, .ref h0), (1, .int p0), (2, .int p1), (3, .int p2), (4, .int p3)]) hx hb dX10_storm_43 hl (by decide) rfl (fun ls hl => ?_)
    refine lv_aload_n hx hb dX10_storm_45 rfl (lv_at hl 1 rfl) ?_
    refine lv_iload_n hx hb dX10_storm_46 rfl (lv_at hl 2 rfl) ?_
    refine lv_i2l (v := (p0).toInt64) hx hb dX10_storm_47 rfl ?_
    refine lv_lconst (v := 0) hx hb dX10_storm_48 (by decide) ?_
    refine lv_aload_n hx hb dX10_storm_49 rfl (lv_at hl 1 rfl) ?_
    refine va_get (D := (dC, dI)) (ci := 15) (v := .ref (b 0)) (C := RX10) (T := TX10) (N := 11) hx hb hts (by decide +kernel) hown hK hP 0 rfl rfl 1 (by decide) (hts (.fieldLink RX10 10 "GanglineModel" "legs" "Ljava/util/List;") (by decide +kernel)) (fun _ h9 => h9) rfl dX10_storm_50 ?_
    have hPc := hP.sub (ws' := [((b 0), .inr (4, [.int 0, .ref e0, .int 0]))]) [1] rfl
    have hDc := hD.sub (ws' := [((b 0), .inr (4, [.int 0, .ref e0, .int 0]))]) [1] (by decide) rfl
    have hKc := hK.sub (tys' := []) [] rfl
    have hFc := va_free (wc := [((b 0), .inr (4, [.int 0, .ref e0, .int 0]))]) hD hS hA [1] rfl
    refine va_callFi (va_runF (As := []) (rest := [.long 0, .long (p0).toInt64, .ref h0]) (hK.1 4 _ rfl).2 ⟨hx, hb, hml, hown, hts⟩ (c_Jx4a65c_size_8abf5 l htr dC dI e0 H.size (b 0) 0 e0 0) (va_cwF 0 hts gX10_storm_Jx4a65c_size_8abf5_f59Jx4a65c rfl rfl rfl (zV_W_size hE.v) (by decide +kernel) ⟨Nat.le_of_ble_eq_true rfl, Nat.le_of_ble_eq_true rfl⟩) ⟨fun a U g mk q => by obtain ⟨q0, q1, qP, qK, qD⟩ := q; exact ⟨q0, q1, qP, va_K.moved (u := U) (U := U.calling g mk a) (Vm.Alike.refl U.vm) qK, qD⟩, va_recv hKc hPc (ci := 4) (q0 := 0) rfl rfl, fun U hU hW => ⟨rfl, by rw [hU], by rw [hU]; exact hPc, va_K.moved hW.alike hKc, hDc.weaken (fun _ _ _ _ => trivial)⟩⟩ rfl rfl hl.1 rfl (lv_room (Nat.le_of_ble_eq_true rfl)) dX10_storm_53 ⟨Nat.le_of_ble_eq_true rfl, Nat.le_of_ble_eq_true rfl⟩) hS (fun q _ h => hFc q h) hFc (fun r3 u t H1 locs ht hvm hw hB hz1 hk1 hS => ?_)
    obtain ⟨hP1, hK1, hD1⟩ := hB
    rw [ht] at hP1
    obtain ⟨hP, hD⟩ := va_join (wr := [(h0, .inr (15, zM th b)), ((b 1), .inr (4, [.int 0, .ref e0, .int 0])), ((b 2), .inr (4, [.int 0, .ref e0, .int 0])), ((b 3), .inr (4, [.int 0, .ref e0, .int 0]))]) (w1 := [((b 0), .inr (4, [.int 0, .ref e0, .int 0]))]) hP hD [1] [0, 2, 3, 4] rfl rfl (by decide) (by decide) hk1 hFc hP1 hD1
    generalize H1 = H at hP hS ⊢
    have hP : va_P (dC, dI) vwCl [(h0, .inr (15, zM th b)), ((b 1), .inr (4, [.int 0, .ref e0, .int 0])), ((b 2), .inr (4, [.int 0, .ref e0, .int 0])), ((b 3), .inr (4, [.int 0, .ref e0, .int 0])), ((b 0), .inr (4, [.int 0, .ref e0, .int 0]))] H := hP
    have hD : va_D A [(h0, .inr (15, zM th b)), ((b 1), .inr (4, [.int 0, .ref e0, .int 0])), ((b 2), .inr (4, [.int 0, .ref e0, .int 0])), ((b 3), .inr (4, [.int 0, .ref e0, .int 0])), ((b 0), .inr (4, [.int 0, .ref e0, .int 0]))] := hD
    obtain rfl : r3 = 0 := hw
    refine lv_iconst (v := 1) hx hb dX10_storm_58 (by decide) ?_
    refine lv_isub hx hb dX10_storm_59 ?_
    refine lv_topi (fun y4 e5 => ?_)
    obtain rfl : y4 = (-1) := e5.trans (by decide)
    refine lv_i2l (v := (-1)) hx hb dX10_storm_60 (by decide) ?_
    have hPc := hP.sub (ws' := []) [] rfl
    have hDc := hD.sub (ws' := []) [] (by decide) rfl
    have hKc := hK.sub (tys' := []) [] rfl
    have hFc := va_free (wc := []) hD hS hA [] rfl
    refine va_calli (va_runS (As := [.long (p0).toInt64, .long 0, .long (-1)]) (rest := [.ref h0]) ⟨hx, hb, hml, hown, hts⟩ (c_X10_in l htr dC dI e0 H.size ((p0).toInt64) 0 (-1)) (va_cwS 3 hts gX10_storm_X10_in rfl rfl rfl (by decide +kernel) ⟨Nat.le_of_ble_eq_true rfl, Nat.le_of_ble_eq_true rfl⟩) ⟨fun a U g mk q => by obtain ⟨q0, q1, qP, qK, qD⟩ := q; exact ⟨q0, q1, qP, va_K.moved (u := U) (U := U.calling g mk a) (Vm.Alike.refl U.vm) qK, qD⟩, fun U hU hW => ⟨rfl, by rw [hU], by rw [hU]; exact hPc, va_K.moved hW.alike hKc, hDc.weaken (fun _ _ _ _ => trivial)⟩⟩ rfl rfl hl.1 rfl (lv_room (Nat.le_of_ble_eq_true rfl)) dX10_storm_61 ⟨Nat.le_of_ble_eq_true rfl, Nat.le_of_ble_eq_true rfl⟩) hS (fun q _ h => hFc q h) hFc (fun r6 u t H1 locs ht hvm hw hB hz1 hk1 hS => ?_)
    have hP1 : va_P (dC, dI) vwCl [] H1 := fun k q h => by simp at h
    have hD1 : va_D (va_A [] H.size) [] := ⟨fun i j p q h => by simp at h, fun k q h => by simp at h⟩
    obtain ⟨hP, hD⟩ := va_join (wr := [(h0, .inr (15, zM th b)), ((b 1), .inr (4, [.int 0, .ref e0, .int 0])), ((b 2), .inr (4, [.int 0, .ref e0, .int 0])), ((b 3), .inr (4, [.int 0, .ref e0, .int 0])), ((b 0), .inr (4, [.int 0, .ref e0, .int 0]))]) (w1 := []) hP hD [] [0, 1, 2, 3, 4] rfl rfl (by decide) (by decide) hk1 hFc hP1 hD1
    generalize H1 = H at hP hS ⊢
    have hP : va_P (dC, dI) vwCl [(h0, .inr (15, zM th b)), ((b 1), .inr (4, [.int 0, .ref e0, .int 0])), ((b 2), .inr (4, [.int 0, .ref e0, .int 0])), ((b 3), .inr (4, [.int 0, .ref e0, .int 0])), ((b 0), .inr (4, [.int 0, .ref e0, .int 0]))] H := hP
    have hD : va_D A [(h0, .inr (15, zM th b)), ((b 1), .inr (4, [.int 0, .ref e0, .int 0])), ((b 2), .inr (4, [.int 0, .ref e0, .int 0])), ((b 3), .inr (4, [.int 0, .ref e0, .int 0])), ((b 0), .inr (4, [.int 0, .ref e0, .int 0]))] := hD
    obtain rfl : r6 = 0 := hw.trans (if_neg (fun h => absurd (Int64.le_trans h.1 h.2) (by decide)))
    refine lv_if_ne (tgt := 71) hx hb dX10_storm_64 (by decide) (fun c7 => absurd (by decide) c7) (fun _ => ?_)
    refine lv_iconst (v := 1) hx hb dX10_storm_67 (by decide) ?_
    refine lv_goto (tgt := 99) hx hb dX10_storm_68 (by decide) ?_
    have hPc := hP.sub (ws' := [(h0, .inr (15, zM th b))]) [0] rfl
    have hDc := hD.sub (ws' := [(h0, .inr (15, zM th b))]) [0] (by decide) rfl
    have hKc := hK.sub (tys' := []) [] rfl
    have hFc := va_free (wc := [(h0, .inr (15, zM th b))]) hD hS hA [0] rfl
    refine va_calli (va_runV (As := [.int 1]) (rest := []) ⟨hx, hb, hml, hown, hts⟩ (c_X10_goesOn l htr dC dI e0 H.size h0 th b 1) (cwV 1 hts gX10_storm_X10_goesOn rfl rfl rfl (by decide +kernel) ⟨Nat.le_of_ble_eq_true rfl, Nat.le_of_ble_eq_true rfl⟩) ⟨fun a U g mk q => by obtain ⟨q0, q1, qP, qK, qD⟩ := q; exact ⟨q0, q1, qP, va_K.moved (u := U) (U := U.calling g mk a) (Vm.Alike.refl U.vm) qK, qD⟩, va_recv hKc hPc (ci := 15) (q0 := 0) rfl rfl, fun U hU hW => ⟨rfl, by rw [hU], by rw [hU]; exact hPc, va_K.moved hW.alike hKc, hDc.weaken (fun _ _ _ _ => trivial)⟩⟩ rfl rfl hl.1 rfl (lv_room (Nat.le_of_ble_eq_true rfl)) dX10_storm_99 ⟨Nat.le_of_ble_eq_true rfl, Nat.le_of_ble_eq_true rfl⟩) hS (fun q _ h => hFc q h) hFc (fun r8 u t H1 locs ht hvm hw hB hz1 hk1 hS => ?_)
    obtain ⟨hP1, hK1, hD1⟩ := hB
    rw [ht] at hP1
    obtain ⟨hP, hD⟩ := va_join (wr := [((b 1), .inr (4, [.int 0, .ref e0, .int 0])), ((b 2), .inr (4, [.int 0, .ref e0, .int 0])), ((b 3), .inr (4, [.int 0, .ref e0, .int 0])), ((b 0), .inr (4, [.int 0, .ref e0, .int 0]))]) (w1 := [(h0, .inr (15, zM 1 b))]) hP hD [0] [1, 2, 3, 4] rfl rfl (by decide) (by decide) hk1 hFc hP1 hD1
    generalize H1 = H at hP hS ⊢
    have hP : va_P (dC, dI) vwCl [((b 1), .inr (4, [.int 0, .ref e0, .int 0])), ((b 2), .inr (4, [.int 0, .ref e0, .int 0])), ((b 3), .inr (4, [.int 0, .ref e0, .int 0])), ((b 0), .inr (4, [.int 0, .ref e0, .int 0])), (h0, .inr (15, zM 1 b))] H := hP
    have hD : va_D A [((b 1), .inr (4, [.int 0, .ref e0, .int 0])), ((b 2), .inr (4, [.int 0, .ref e0, .int 0])), ((b 3), .inr (4, [.int 0, .ref e0, .int 0])), ((b 0), .inr (4, [.int 0, .ref e0, .int 0])), (h0, .inr (15, zM 1 b))] := hD
    obtain rfl : r8 = 0 := hw.trans (by decide)
    refine lv_if_ne (tgt := 107) hx hb dX10_storm_102 (by decide) (fun c9 => absurd (by decide) c9) (fun _ => ?_)
    refine lv_iconst (v := 0) hx hb dX10_storm_105 (by decide) ?_
    have hP9 := hP.sub (ws' := [(h0, .inr (15, zM 1 b))]) [4] rfl
    have hD9 := hD.sub (ws' := [(h0, .inr (15, zM 1 b))]) [4] (by decide) rfl
    have hK9 := hK.sub (tys' := []) [] rfl
    exact W.iret (v := 0) hx hb hr (fun t ht hW => ⟨⟨0, (), rfl, rfl, ⟨by rw [ht]; exact hP9, va_K.moved hW.alike hK9, hD9⟩⟩, hS.F ht⟩) hS.2.2 dX10_storm_106
  · refine lv_iload_n hx hb dX10_storm_12 rfl (lv_at hl 3 rfl) ?_
    refine lv_i2l (v := (p2).toInt64) hx hb dX10_storm_13 rfl ?_
    refine lv_iload_n hx hb dX10_storm_14 rfl (lv_at hl 2 rfl) ?_
    refine lv_i2l (v := (p1).toInt64) hx hb dX10_storm_15 rfl ?_
    refine lv_ldc2 hx hb hown (hts (.constantLong RX10 102 (9999)) (by decide +kernel)) dX10_storm_16 ?_
    have hPc := hP.sub (ws' := []) [] rfl
    have hDc := hD.sub (ws' := []) [] (by decide) rfl
    have hKc := hK.sub (tys' := []) [] rfl
    have hFc := va_free (wc := []) hD hS hA [] rfl
    refine va_calli (va_runS (As := [.long (p2).toInt64, .long (p1).toInt64, .long (9999)]) (rest := []) ⟨hx, hb, hml, hown, hts⟩ (c_X10_in l htr dC dI e0 H.size ((p2).toInt64) ((p1).toInt64) (9999)) (va_cwS 3 hts gX10_storm_X10_in rfl rfl rfl (by decide +kernel) ⟨Nat.le_of_ble_eq_true rfl, Nat.le_of_ble_eq_true rfl⟩) ⟨fun a U g mk q => by obtain ⟨q0, q1, qP, qK, qD⟩ := q; exact ⟨q0, q1, qP, va_K.moved (u := U) (U := U.calling g mk a) (Vm.Alike.refl U.vm) qK, qD⟩, fun U hU hW => ⟨rfl, by rw [hU], by rw [hU]; exact hPc, va_K.moved hW.alike hKc, hDc.weaken (fun _ _ _ _ => trivial)⟩⟩ rfl rfl hl.1 rfl (lv_room (Nat.le_of_ble_eq_true rfl)) dX10_storm_19 ⟨Nat.le_of_ble_eq_true rfl, Nat.le_of_ble_eq_true rfl⟩) hS (fun q _ h => hFc q h) hFc (fun r10 u t H1 locs ht hvm hw hB hz1 hk1 hS => ?_)
    have hP1 : va_P (dC, dI) vwCl [] H1 := fun k q h => by simp at h
    have hD1 : va_D (va_A [] H.size) [] := ⟨fun i j p q h => by simp at h, fun k q h => by simp at h⟩
    obtain ⟨hP, hD⟩ := va_join (wr := [(h0, .inr (15, zM th b)), ((b 0), .inr (4, [.int 0, .ref e0, .int 0])), ((b 1), .inr (4, [.int 0, .ref e0, .int 0])), ((b 2), .inr (4, [.int 0, .ref e0, .int 0])), ((b 3), .inr (4, [.int 0, .ref e0, .int 0]))]) (w1 := []) hP hD [] [0, 1, 2, 3, 4] rfl rfl (by decide) (by decide) hk1 hFc hP1 hD1
    generalize H1 = H at hP hS ⊢
    have hP : va_P (dC, dI) vwCl [(h0, .inr (15, zM th b)), ((b 0), .inr (4, [.int 0, .ref e0, .int 0])), ((b 1), .inr (4, [.int 0, .ref e0, .int 0])), ((b 2), .inr (4, [.int 0, .ref e0, .int 0])), ((b 3), .inr (4, [.int 0, .ref e0, .int 0]))] H := hP
    have hD : va_D A [(h0, .inr (15, zM th b)), ((b 0), .inr (4, [.int 0, .ref e0, .int 0])), ((b 1), .inr (4, [.int 0, .ref e0, .int 0])), ((b 2), .inr (4, [.int 0, .ref e0, .int 0])), ((b 3), .inr (4, [.int 0, .ref e0, .int 0]))] := hD
    have hr10 : r10 = (if ((p1).toInt64) ≤ ((p2).toInt64) ∧ ((p2).toInt64) ≤ (9999) then 1 else 0) := hw
    refine lv_if_eq (tgt := 42) hx hb dX10_storm_22 (by decide) (fun c11 => ?_) (fun c11 => ?_)
    · refine lv_iconst (v := 0) hx hb dX10_storm_42 (by decide) ?_
      refine lv_istore (lv' := [(5, .int 0), (0, .ref h0), (1, .int p0), (2, .int p1), (3, .int p2), (4, .int p3)]) hx hb dX10_storm_43 hl (by decide) rfl (fun ls hl => ?_)
      refine lv_aload_n hx hb dX10_storm_45 rfl (lv_at hl 1 rfl) ?_
      refine lv_iload_n hx hb dX10_storm_46 rfl (lv_at hl 2 rfl) ?_
      refine lv_i2l (v := (p0).toInt64) hx hb dX10_storm_47 rfl ?_
      refine lv_lconst (v := 0) hx hb dX10_storm_48 (by decide) ?_
      refine lv_aload_n hx hb dX10_storm_49 rfl (lv_at hl 1 rfl) ?_
      refine va_get (D := (dC, dI)) (ci := 15) (v := .ref (b 0)) (C := RX10) (T := TX10) (N := 11) hx hb hts (by decide +kernel) hown hK hP 0 rfl rfl 1 (by decide) (hts (.fieldLink RX10 10 "GanglineModel" "legs" "Ljava/util/List;") (by decide +kernel)) (fun _ h9 => h9) rfl dX10_storm_50 ?_
      have hPc := hP.sub (ws' := [((b 0), .inr (4, [.int 0, .ref e0, .int 0]))]) [1] rfl
      have hDc := hD.sub (ws' := [((b 0), .inr (4, [.int 0, .ref e0, .int 0]))]) [1] (by decide) rfl
      have hKc := hK.sub (tys' := []) [] rfl
      have hFc := va_free (wc := [((b 0), .inr (4, [.int 0, .ref e0, .int 0]))]) hD hS hA [1] rfl
      refine va_callFi (va_runF (As := []) (rest := [.long 0, .long (p0).toInt64, .ref h0]) (hK.1 4 _ rfl).2 ⟨hx, hb, hml, hown, hts⟩ (c_Jx4a65c_size_8abf5 l htr dC dI e0 H.size (b 0) 0 e0 0) (va_cwF 0 hts gX10_storm_Jx4a65c_size_8abf5_f59Jx4a65c rfl rfl rfl (zV_W_size hE.v) (by decide +kernel) ⟨Nat.le_of_ble_eq_true rfl, Nat.le_of_ble_eq_true rfl⟩) ⟨fun a U g mk q => by obtain ⟨q0, q1, qP, qK, qD⟩ := q; exact ⟨q0, q1, qP, va_K.moved (u := U) (U := U.calling g mk a) (Vm.Alike.refl U.vm) qK, qD⟩, va_recv hKc hPc (ci := 4) (q0 := 0) rfl rfl, fun U hU hW => ⟨rfl, by rw [hU], by rw [hU]; exact hPc, va_K.moved hW.alike hKc, hDc.weaken (fun _ _ _ _ => trivial)⟩⟩ rfl rfl hl.1 rfl (lv_room (Nat.le_of_ble_eq_true rfl)) dX10_storm_53 ⟨Nat.le_of_ble_eq_true rfl, Nat.le_of_ble_eq_true rfl⟩) hS (fun q _ h => hFc q h) hFc (fun r12 u t H1 locs ht hvm hw hB hz1 hk1 hS => ?_)
      obtain ⟨hP1, hK1, hD1⟩ := hB
      rw [ht] at hP1
      obtain ⟨hP, hD⟩ := va_join (wr := [(h0, .inr (15, zM th b)), ((b 1), .inr (4, [.int 0, .ref e0, .int 0])), ((b 2), .inr (4, [.int 0, .ref e0, .int 0])), ((b 3), .inr (4, [.int 0, .ref e0, .int 0]))]) (w1 := [((b 0), .inr (4, [.int 0, .ref e0, .int 0]))]) hP hD [1] [0, 2, 3, 4] rfl rfl (by decide) (by decide) hk1 hFc hP1 hD1
      generalize H1 = H at hP hS ⊢
      have hP : va_P (dC, dI) vwCl [(h0, .inr (15, zM th b)), ((b 1), .inr (4, [.int 0, .ref e0, .int 0])), ((b 2), .inr (4, [.int 0, .ref e0, .int 0])), ((b 3), .inr (4, [.int 0, .ref e0, .int 0])), ((b 0), .inr (4, [.int 0, .ref e0, .int 0]))] H := hP
      have hD : va_D A [(h0, .inr (15, zM th b)), ((b 1), .inr (4, [.int 0, .ref e0, .int 0])), ((b 2), .inr (4, [.int 0, .ref e0, .int 0])), ((b 3), .inr (4, [.int 0, .ref e0, .int 0])), ((b 0), .inr (4, [.int 0, .ref e0, .int 0]))] := hD
      obtain rfl : r12 = 0 := hw
      refine lv_iconst (v := 1) hx hb dX10_storm_58 (by decide) ?_
      refine lv_isub hx hb dX10_storm_59 ?_
      refine lv_topi (fun y13 e14 => ?_)
      obtain rfl : y13 = (-1) := e14.trans (by decide)
      refine lv_i2l (v := (-1)) hx hb dX10_storm_60 (by decide) ?_
      have hPc := hP.sub (ws' := []) [] rfl
      have hDc := hD.sub (ws' := []) [] (by decide) rfl
      have hKc := hK.sub (tys' := []) [] rfl
      have hFc := va_free (wc := []) hD hS hA [] rfl
      refine va_calli (va_runS (As := [.long (p0).toInt64, .long 0, .long (-1)]) (rest := [.ref h0]) ⟨hx, hb, hml, hown, hts⟩ (c_X10_in l htr dC dI e0 H.size ((p0).toInt64) 0 (-1)) (va_cwS 3 hts gX10_storm_X10_in rfl rfl rfl (by decide +kernel) ⟨Nat.le_of_ble_eq_true rfl, Nat.le_of_ble_eq_true rfl⟩) ⟨fun a U g mk q => by obtain ⟨q0, q1, qP, qK, qD⟩ := q; exact ⟨q0, q1, qP, va_K.moved (u := U) (U := U.calling g mk a) (Vm.Alike.refl U.vm) qK, qD⟩, fun U hU hW => ⟨rfl, by rw [hU], by rw [hU]; exact hPc, va_K.moved hW.alike hKc, hDc.weaken (fun _ _ _ _ => trivial)⟩⟩ rfl rfl hl.1 rfl (lv_room (Nat.le_of_ble_eq_true rfl)) dX10_storm_61 ⟨Nat.le_of_ble_eq_true rfl, Nat.le_of_ble_eq_true rfl⟩) hS (fun q _ h => hFc q h) hFc (fun r15 u t H1 locs ht hvm hw hB hz1 hk1 hS => ?_)
      have hP1 : va_P (dC, dI) vwCl [] H1 := fun k q h => by simp at h
      have hD1 : va_D (va_A [] H.size) [] := ⟨fun i j p q h => by simp at h, fun k q h => by simp at h⟩
      obtain ⟨hP, hD⟩ := va_join (wr := [(h0, .inr (15, zM th b)), ((b 1), .inr (4, [.int 0, .ref e0, .int 0])), ((b 2), .inr (4, [.int 0, .ref e0, .int 0])), ((b 3), .inr (4, [.int 0, .ref e0, .int 0])), ((b 0), .inr (4, [.int 0, .ref e0, .int 0]))]) (w1 := []) hP hD [] [0, 1, 2, 3, 4] rfl rfl (by decide) (by decide) hk1 hFc hP1 hD1
      generalize H1 = H at hP hS ⊢
      have hP : va_P (dC, dI) vwCl [(h0, .inr (15, zM th b)), ((b 1), .inr (4, [.int 0, .ref e0, .int 0])), ((b 2), .inr (4, [.int 0, .ref e0, .int 0])), ((b 3), .inr (4, [.int 0, .ref e0, .int 0])), ((b 0), .inr (4, [.int 0, .ref e0, .int 0]))] H := hP
      have hD : va_D A [(h0, .inr (15, zM th b)), ((b 1), .inr (4, [.int 0, .ref e0, .int 0])), ((b 2), .inr (4, [.int 0, .ref e0, .int 0])), ((b 3), .inr (4, [.int 0, .ref e0, .int 0])), ((b 0), .inr (4, [.int 0, .ref e0, .int 0]))] := hD
      obtain rfl : r15 = 0 := hw.trans (if_neg (fun h => absurd (Int64.le_trans h.1 h.2) (by decide)))
      refine lv_if_ne (tgt := 71) hx hb dX10_storm_64 (by decide) (fun c16 => absurd (by decide) c16) (fun _ => ?_)
      refine lv_iconst (v := 1) hx hb dX10_storm_67 (by decide) ?_
      refine lv_goto (tgt := 99) hx hb dX10_storm_68 (by decide) ?_
      have hPc := hP.sub (ws' := [(h0, .inr (15, zM th b))]) [0] rfl
      have hDc := hD.sub (ws' := [(h0, .inr (15, zM th b))]) [0] (by decide) rfl
      have hKc := hK.sub (tys' := []) [] rfl
      have hFc := va_free (wc := [(h0, .inr (15, zM th b))]) hD hS hA [0] rfl
      refine va_calli (va_runV (As := [.int 1]) (rest := []) ⟨hx, hb, hml, hown, hts⟩ (c_X10_goesOn l htr dC dI e0 H.size h0 th b 1) (cwV 1 hts gX10_storm_X10_goesOn rfl rfl rfl (by decide +kernel) ⟨Nat.le_of_ble_eq_true rfl, Nat.le_of_ble_eq_true rfl⟩) ⟨fun a U g mk q => by obtain ⟨q0, q1, qP, qK, qD⟩ := q; exact ⟨q0, q1, qP, va_K.moved (u := U) (U := U.calling g mk a) (Vm.Alike.refl U.vm) qK, qD⟩, va_recv hKc hPc (ci := 15) (q0 := 0) rfl rfl, fun U hU hW => ⟨rfl, by rw [hU], by rw [hU]; exact hPc, va_K.moved hW.alike hKc, hDc.weaken (fun _ _ _ _ => trivial)⟩⟩ rfl rfl hl.1 rfl (lv_room (Nat.le_of_ble_eq_true rfl)) dX10_storm_99 ⟨Nat.le_of_ble_eq_true rfl, Nat.le_of_ble_eq_true rfl⟩) hS (fun q _ h => hFc q h) hFc (fun r17 u t H1 locs ht hvm hw hB hz1 hk1 hS => ?_)
      obtain ⟨hP1, hK1, hD1⟩ := hB
      rw [ht] at hP1
      obtain ⟨hP, hD⟩ := va_join (wr := [((b 1), .inr (4, [.int 0, .ref e0, .int 0])), ((b 2), .inr (4, [.int 0, .ref e0, .int 0])), ((b 3), .inr (4, [.int 0, .ref e0, .int 0])), ((b 0), .inr (4, [.int 0, .ref e0, .int 0]))]) (w1 := [(h0, .inr (15, zM 1 b))]) hP hD [0] [1, 2, 3, 4] rfl rfl (by decide) (by decide) hk1 hFc hP1 hD1
      generalize H1 = H at hP hS ⊢
      have hP : va_P (dC, dI) vwCl [((b 1), .inr (4, [.int 0, .ref e0, .int 0])), ((b 2), .inr (4, [.int 0, .ref e0, .int 0])), ((b 3), .inr (4, [.int 0, .ref e0, .int 0])), ((b 0), .inr (4, [.int 0, .ref e0, .int 0])), (h0, .inr (15, zM 1 b))] H := hP
      have hD : va_D A [((b 1), .inr (4, [.int 0, .ref e0, .int 0])), ((b 2), .inr (4, [.int 0, .ref e0, .int 0])), ((b 3), .inr (4, [.int 0, .ref e0, .int 0])), ((b 0), .inr (4, [.int 0, .ref e0, .int 0])), (h0, .inr (15, zM 1 b))] := hD
      obtain rfl : r17 = 0 := hw.trans (by decide)
      refine lv_if_ne (tgt := 107) hx hb dX10_storm_102 (by decide) (fun c18 => absurd (by decide) c18) (fun _ => ?_)
      refine lv_iconst (v := 0) hx hb dX10_storm_105 (by decide) ?_
      have hP9 := hP.sub (ws' := [(h0, .inr (15, zM 1 b))]) [4] rfl
      have hD9 := hD.sub (ws' := [(h0, .inr (15, zM 1 b))]) [4] (by decide) rfl
      have hK9 := hK.sub (tys' := []) [] rfl
      exact W.iret (v := 0) hx hb hr (fun t ht hW => ⟨⟨0, (), rfl, rfl, ⟨by rw [ht]; exact hP9, va_K.moved hW.alike hK9, hD9⟩⟩, hS.F ht⟩) hS.2.2 dX10_storm_106
    · refine lv_iload hx hb dX10_storm_25 (lv_at hl 4 rfl) ?_
      refine lv_i2l (v := (p3).toInt64) hx hb dX10_storm_27 rfl ?_
      refine lv_lconst (v := 1) hx hb dX10_storm_28 (by decide) ?_
      refine lv_ldc2 hx hb hown (hts (.constantLong RX10 71 (9)) (by decide +kernel)) dX10_storm_29 ?_
      have hPc := hP.sub (ws' := []) [] rfl
      have hDc := hD.sub (ws' := []) [] (by decide) rfl
      have hKc := hK.sub (tys' := []) [] rfl
      have hFc := va_free (wc := []) hD hS hA [] rfl
      refine va_calli (va_runS (As := [.long (p3).toInt64, .long 1, .long (9)]) (rest := []) ⟨hx, hb, hml, hown, hts⟩ (c_X10_in l htr dC dI e0 H.size ((p3).toInt64) 1 (9)) (va_cwS 3 hts gX10_storm_X10_in rfl rfl rfl (by decide +kernel) ⟨Nat.le_of_ble_eq_true rfl, Nat.le_of_ble_eq_true rfl⟩) ⟨fun a U g mk q => by obtain ⟨q0, q1, qP, qK, qD⟩ := q; exact ⟨q0, q1, qP, va_K.moved (u := U) (U := U.calling g mk a) (Vm.Alike.refl U.vm) qK, qD⟩, fun U hU hW => ⟨rfl, by rw [hU], by rw [hU]; exact hPc, va_K.moved hW.alike hKc, hDc.weaken (fun _ _ _ _ => trivial)⟩⟩ rfl rfl hl.1 rfl (lv_room (Nat.le_of_ble_eq_true rfl)) dX10_storm_32 ⟨Nat.le_of_ble_eq_true rfl, Nat.le_of_ble_eq_true rfl⟩) hS (fun q _ h => hFc q h) hFc (fun r19 u t H1 locs ht hvm hw hB hz1 hk1 hS => ?_)
      have hP1 : va_P (dC, dI) vwCl [] H1 := fun k q h => by simp at h
      have hD1 : va_D (va_A [] H.size) [] := ⟨fun i j p q h => by simp at h, fun k q h => by simp at h⟩
      obtain ⟨hP, hD⟩ := va_join (wr := [(h0, .inr (15, zM th b)), ((b 0), .inr (4, [.int 0, .ref e0, .int 0])), ((b 1), .inr (4, [.int 0, .ref e0, .int 0])), ((b 2), .inr (4, [.int 0, .ref e0, .int 0])), ((b 3), .inr (4, [.int 0, .ref e0, .int 0]))]) (w1 := []) hP hD [] [0, 1, 2, 3, 4] rfl rfl (by decide) (by decide) hk1 hFc hP1 hD1
      generalize H1 = H at hP hS ⊢
      have hP : va_P (dC, dI) vwCl [(h0, .inr (15, zM th b)), ((b 0), .inr (4, [.int 0, .ref e0, .int 0])), ((b 1), .inr (4, [.int 0, .ref e0, .int 0])), ((b 2), .inr (4, [.int 0, .ref e0, .int 0])), ((b 3), .inr (4, [.int 0, .ref e0, .int 0]))] H := hP
      have hD : va_D A [(h0, .inr (15, zM th b)), ((b 0), .inr (4, [.int 0, .ref e0, .int 0])), ((b 1), .inr (4, [.int 0, .ref e0, .int 0])), ((b 2), .inr (4, [.int 0, .ref e0, .int 0])), ((b 3), .inr (4, [.int 0, .ref e0, .int 0]))] := hD
      have hr19 : r19 = (if 1 ≤ ((p3).toInt64) ∧ ((p3).toInt64) ≤ (9) then 1 else 0) := hw
      refine lv_if_eq (tgt := 42) hx hb dX10_storm_35 (by decide) (fun c20 => ?_) (fun c20 => ?_)
      · refine lv_iconst (v := 0) hx hb dX10_storm_42 (by decide) ?_
        refine lv_istore (lv' := [(5, .int 0), (0, .ref h0), (1, .int p0), (2, .int p1), (3, .int p2), (4, .int p3)]) hx hb dX10_storm_43 hl (by decide) rfl (fun ls hl => ?_)
        refine lv_aload_n hx hb dX10_storm_45 rfl (lv_at hl 1 rfl) ?_
        refine lv_iload_n hx hb dX10_storm_46 rfl (lv_at hl 2 rfl) ?_
        refine lv_i2l (v := (p0).toInt64) hx hb dX10_storm_47 rfl ?_
        refine lv_lconst (v := 0) hx hb dX10_storm_48 (by decide) ?_
        refine lv_aload_n hx hb dX10_storm_49 rfl (lv_at hl 1 rfl) ?_
        refine va_get (D := (dC, dI)) (ci := 15) (v := .ref (b 0)) (C := RX10) (T := TX10) (N := 11) hx hb hts (by decide +kernel) hown hK hP 0 rfl rfl 1 (by decide) (hts (.fieldLink RX10 10 "GanglineModel" "legs" "Ljava/util/List;") (by decide +kernel)) (fun _ h9 => h9) rfl dX10_storm_50 ?_
        have hPc := hP.sub (ws' := [((b 0), .inr (4, [.int 0, .ref e0, .int 0]))]) [1] rfl
        have hDc := hD.sub (ws' := [((b 0), .inr (4, [.int 0, .ref e0, .int 0]))]) [1] (by decide) rfl
        have hKc := hK.sub (tys' := []) [] rfl
        have hFc := va_free (wc := [((b 0), .inr (4, [.int 0, .ref e0, .int 0]))]) hD hS hA [1] rfl
        refine va_callFi (va_runF (As := []) (rest := [.long 0, .long (p0).toInt64, .ref h0]) (hK.1 4 _ rfl).2 ⟨hx, hb, hml, hown, hts⟩ (c_Jx4a65c_size_8abf5 l htr dC dI e0 H.size (b 0) 0 e0 0) (va_cwF 0 hts gX10_storm_Jx4a65c_size_8abf5_f59Jx4a65c rfl rfl rfl (zV_W_size hE.v) (by decide +kernel) ⟨Nat.le_of_ble_eq_true rfl, Nat.le_of_ble_eq_true rfl⟩) ⟨fun a U g mk q => by obtain ⟨q0, q1, qP, qK, qD⟩ := q; exact ⟨q0, q1, qP, va_K.moved (u := U) (U := U.calling g mk a) (Vm.Alike.refl U.vm) qK, qD⟩, va_recv hKc hPc (ci := 4) (q0 := 0) rfl rfl, fun U hU hW => ⟨rfl, by rw [hU], by rw [hU]; exact hPc, va_K.moved hW.alike hKc, hDc.weaken (fun _ _ _ _ => trivial)⟩⟩ rfl rfl hl.1 rfl (lv_room (Nat.le_of_ble_eq_true rfl)) dX10_storm_53 ⟨Nat.le_of_ble_eq_true rfl, Nat.le_of_ble_eq_true rfl⟩) hS (fun q _ h => hFc q h) hFc (fun r21 u t H1 locs ht hvm hw hB hz1 hk1 hS => ?_)
        obtain ⟨hP1, hK1, hD1⟩ := hB
        rw [ht] at hP1
        obtain ⟨hP, hD⟩ := va_join (wr := [(h0, .inr (15, zM th b)), ((b 1), .inr (4, [.int 0, .ref e0, .int 0])), ((b 2), .inr (4, [.int 0, .ref e0, .int 0])), ((b 3), .inr (4, [.int 0, .ref e0, .int 0]))]) (w1 := [((b 0), .inr (4, [.int 0, .ref e0, .int 0]))]) hP hD [1] [0, 2, 3, 4] rfl rfl (by decide) (by decide) hk1 hFc hP1 hD1
        generalize H1 = H at hP hS ⊢
        have hP : va_P (dC, dI) vwCl [(h0, .inr (15, zM th b)), ((b 1), .inr (4, [.int 0, .ref e0, .int 0])), ((b 2), .inr (4, [.int 0, .ref e0, .int 0])), ((b 3), .inr (4, [.int 0, .ref e0, .int 0])), ((b 0), .inr (4, [.int 0, .ref e0, .int 0]))] H := hP
        have hD : va_D A [(h0, .inr (15, zM th b)), ((b 1), .inr (4, [.int 0, .ref e0, .int 0])), ((b 2), .inr (4, [.int 0, .ref e0, .int 0])), ((b 3), .inr (4, [.int 0, .ref e0, .int 0])), ((b 0), .inr (4, [.int 0, .ref e0, .int 0]))] := hD
        obtain rfl : r21 = 0 := hw
        refine lv_iconst (v := 1) hx hb dX10_storm_58 (by decide) ?_
        refine lv_isub hx hb dX10_storm_59 ?_
        refine lv_topi (fun y22 e23 => ?_)
        obtain rfl : y22 = (-1) := e23.trans (by decide)
        refine lv_i2l (v := (-1)) hx hb dX10_storm_60 (by decide) ?_
        have hPc := hP.sub (ws' := []) [] rfl
        have hDc := hD.sub (ws' := []) [] (by decide) rfl
        have hKc := hK.sub (tys' := []) [] rfl
        have hFc := va_free (wc := []) hD hS hA [] rfl
        refine va_calli (va_runS (As := [.long (p0).toInt64, .long 0, .long (-1)]) (rest := [.ref h0]) ⟨hx, hb, hml, hown, hts⟩ (c_X10_in l htr dC dI e0 H.size ((p0).toInt64) 0 (-1)) (va_cwS 3 hts gX10_storm_X10_in rfl rfl rfl (by decide +kernel) ⟨Nat.le_of_ble_eq_true rfl, Nat.le_of_ble_eq_true rfl⟩) ⟨fun a U g mk q => by obtain ⟨q0, q1, qP, qK, qD⟩ := q; exact ⟨q0, q1, qP, va_K.moved (u := U) (U := U.calling g mk a) (Vm.Alike.refl U.vm) qK, qD⟩, fun U hU hW => ⟨rfl, by rw [hU], by rw [hU]; exact hPc, va_K.moved hW.alike hKc, hDc.weaken (fun _ _ _ _ => trivial)⟩⟩ rfl rfl hl.1 rfl (lv_room (Nat.le_of_ble_eq_true rfl)) dX10_storm_61 ⟨Nat.le_of_ble_eq_true rfl, Nat.le_of_ble_eq_true rfl⟩) hS (fun q _ h => hFc q h) hFc (fun r24 u t H1 locs ht hvm hw hB hz1 hk1 hS => ?_)
        have hP1 : va_P (dC, dI) vwCl [] H1 := fun k q h => by simp at h
        have hD1 : va_D (va_A [] H.size) [] := ⟨fun i j p q h => by simp at h, fun k q h => by simp at h⟩
        obtain ⟨hP, hD⟩ := va_join (wr := [(h0, .inr (15, zM th b)), ((b 1), .inr (4, [.int 0, .ref e0, .int 0])), ((b 2), .inr (4, [.int 0, .ref e0, .int 0])), ((b 3), .inr (4, [.int 0, .ref e0, .int 0])), ((b 0), .inr (4, [.int 0, .ref e0, .int 0]))]) (w1 := []) hP hD [] [0, 1, 2, 3, 4] rfl rfl (by decide) (by decide) hk1 hFc hP1 hD1
        generalize H1 = H at hP hS ⊢
        have hP : va_P (dC, dI) vwCl [(h0, .inr (15, zM th b)), ((b 1), .inr (4, [.int 0, .ref e0, .int 0])), ((b 2), .inr (4, [.int 0, .ref e0, .int 0])), ((b 3), .inr (4, [.int 0, .ref e0, .int 0])), ((b 0), .inr (4, [.int 0, .ref e0, .int 0]))] H := hP
        have hD : va_D A [(h0, .inr (15, zM th b)), ((b 1), .inr (4, [.int 0, .ref e0, .int 0])), ((b 2), .inr (4, [.int 0, .ref e0, .int 0])), ((b 3), .inr (4, [.int 0, .ref e0, .int 0])), ((b 0), .inr (4, [.int 0, .ref e0, .int 0]))] := hD
        obtain rfl : r24 = 0 := hw.trans (if_neg (fun h => absurd (Int64.le_trans h.1 h.2) (by decide)))
        refine lv_if_ne (tgt := 71) hx hb dX10_storm_64 (by decide) (fun c25 => absurd (by decide) c25) (fun _ => ?_)
        refine lv_iconst (v := 1) hx hb dX10_storm_67 (by decide) ?_
        refine lv_goto (tgt := 99) hx hb dX10_storm_68 (by decide) ?_
        have hPc := hP.sub (ws' := [(h0, .inr (15, zM th b))]) [0] rfl
        have hDc := hD.sub (ws' := [(h0, .inr (15, zM th b))]) [0] (by decide) rfl
        have hKc := hK.sub (tys' := []) [] rfl
        have hFc := va_free (wc := [(h0, .inr (15, zM th b))]) hD hS hA [0] rfl
        refine va_calli (va_runV (As := [.int 1]) (rest := []) ⟨hx, hb, hml, hown, hts⟩ (c_X10_goesOn l htr dC dI e0 H.size h0 th b 1) (cwV 1 hts gX10_storm_X10_goesOn rfl rfl rfl (by decide +kernel) ⟨Nat.le_of_ble_eq_true rfl, Nat.le_of_ble_eq_true rfl⟩) ⟨fun a U g mk q => by obtain ⟨q0, q1, qP, qK, qD⟩ := q; exact ⟨q0, q1, qP, va_K.moved (u := U) (U := U.calling g mk a) (Vm.Alike.refl U.vm) qK, qD⟩, va_recv hKc hPc (ci := 15) (q0 := 0) rfl rfl, fun U hU hW => ⟨rfl, by rw [hU], by rw [hU]; exact hPc, va_K.moved hW.alike hKc, hDc.weaken (fun _ _ _ _ => trivial)⟩⟩ rfl rfl hl.1 rfl (lv_room (Nat.le_of_ble_eq_true rfl)) dX10_storm_99 ⟨Nat.le_of_ble_eq_true rfl, Nat.le_of_ble_eq_true rfl⟩) hS (fun q _ h => hFc q h) hFc (fun r26 u t H1 locs ht hvm hw hB hz1 hk1 hS => ?_)
        obtain ⟨hP1, hK1, hD1⟩ := hB
        rw [ht] at hP1
        obtain ⟨hP, hD⟩ := va_join (wr := [((b 1), .inr (4, [.int 0, .ref e0, .int 0])), ((b 2), .inr (4, [.int 0, .ref e0, .int 0])), ((b 3), .inr (4, [.int 0, .ref e0, .int 0])), ((b 0), .inr (4, [.int 0, .ref e0, .int 0]))]) (w1 := [(h0, .inr (15, zM 1 b))]) hP hD [0] [1, 2, 3, 4] rfl rfl (by decide) (by decide) hk1 hFc hP1 hD1
        generalize H1 = H at hP hS ⊢
        have hP : va_P (dC, dI) vwCl [((b 1), .inr (4, [.int 0, .ref e0, .int 0])), ((b 2), .inr (4, [.int 0, .ref e0, .int 0])), ((b 3), .inr (4, [.int 0, .ref e0, .int 0])), ((b 0), .inr (4, [.int 0, .ref e0, .int 0])), (h0, .inr (15, zM 1 b))] H := hP
        have hD : va_D A [((b 1), .inr (4, [.int 0, .ref e0, .int 0])), ((b 2), .inr (4, [.int 0, .ref e0, .int 0])), ((b 3), .inr (4, [.int 0, .ref e0, .int 0])), ((b 0), .inr (4, [.int 0, .ref e0, .int 0])), (h0, .inr (15, zM 1 b))] := hD
        obtain rfl : r26 = 0 := hw.trans (by decide)
        refine lv_if_ne (tgt := 107) hx hb dX10_storm_102 (by decide) (fun c27 => absurd (by decide) c27) (fun _ => ?_)
        refine lv_iconst (v := 0) hx hb dX10_storm_105 (by decide) ?_
        have hP9 := hP.sub (ws' := [(h0, .inr (15, zM 1 b))]) [4] rfl
        have hD9 := hD.sub (ws' := [(h0, .inr (15, zM 1 b))]) [4] (by decide) rfl
        have hK9 := hK.sub (tys' := []) [] rfl
        exact W.iret (v := 0) hx hb hr (fun t ht hW => ⟨⟨0, (), rfl, rfl, ⟨by rw [ht]; exact hP9, va_K.moved hW.alike hK9, hD9⟩⟩, hS.F ht⟩) hS.2.2 dX10_storm_106
      · refine lv_iconst (v := 1) hx hb dX10_storm_38 (by decide) ?_
        refine lv_goto (tgt := 43) hx hb dX10_storm_39 (by decide) ?_
        refine lv_istore (lv' := [(5, .int 1), (0, .ref h0), (1, .int p0), (2, .int p1), (3, .int p2), (4, .int p3)]) hx hb dX10_storm_43 hl (by decide) rfl (fun ls hl => ?_)
        refine lv_aload_n hx hb dX10_storm_45 rfl (lv_at hl 1 rfl) ?_
        refine lv_iload_n hx hb dX10_storm_46 rfl (lv_at hl 2 rfl) ?_
        refine lv_i2l (v := (p0).toInt64) hx hb dX10_storm_47 rfl ?_
        refine lv_lconst (v := 0) hx hb dX10_storm_48 (by decide) ?_
        refine lv_aload_n hx hb dX10_storm_49 rfl (lv_at hl 1 rfl) ?_
        refine va_get (D := (dC, dI)) (ci := 15) (v := .ref (b 0)) (C := RX10) (T := TX10) (N := 11) hx hb hts (by decide +kernel) hown hK hP 0 rfl rfl 1 (by decide) (hts (.fieldLink RX10 10 "GanglineModel" "legs" "Ljava/util/List;") (by decide +kernel)) (fun _ h9 => h9) rfl dX10_storm_50 ?_
        have hPc := hP.sub (ws' := [((b 0), .inr (4, [.int 0, .ref e0, .int 0]))]) [1] rfl
        have hDc := hD.sub (ws' := [((b 0), .inr (4, [.int 0, .ref e0, .int 0]))]) [1] (by decide) rfl
        have hKc := hK.sub (tys' := []) [] rfl
        have hFc := va_free (wc := [((b 0), .inr (4, [.int 0, .ref e0, .int 0]))]) hD hS hA [1] rfl
        refine va_callFi (va_runF (As := []) (rest := [.long 0, .long (p0).toInt64, .ref h0]) (hK.1 4 _ rfl).2 ⟨hx, hb, hml, hown, hts⟩ (c_Jx4a65c_size_8abf5 l htr dC dI e0 H.size (b 0) 0 e0 0) (va_cwF 0 hts gX10_storm_Jx4a65c_size_8abf5_f59Jx4a65c rfl rfl rfl (zV_W_size hE.v) (by decide +kernel) ⟨Nat.le_of_ble_eq_true rfl, Nat.le_of_ble_eq_true rfl⟩) ⟨fun a U g mk q => by obtain ⟨q0, q1, qP, qK, qD⟩ := q; exact ⟨q0, q1, qP, va_K.moved (u := U) (U := U.calling g mk a) (Vm.Alike.refl U.vm) qK, qD⟩, va_recv hKc hPc (ci := 4) (q0 := 0) rfl rfl, fun U hU hW => ⟨rfl, by rw [hU], by rw [hU]; exact hPc, va_K.moved hW.alike hKc, hDc.weaken (fun _ _ _ _ => trivial)⟩⟩ rfl rfl hl.1 rfl (lv_room (Nat.le_of_ble_eq_true rfl)) dX10_storm_53 ⟨Nat.le_of_ble_eq_true rfl, Nat.le_of_ble_eq_true rfl⟩) hS (fun q _ h => hFc q h) hFc (fun r28 u t H1 locs ht hvm hw hB hz1 hk1 hS => ?_)
        obtain ⟨hP1, hK1, hD1⟩ := hB
        rw [ht] at hP1
        obtain ⟨hP, hD⟩ := va_join (wr := [(h0, .inr (15, zM th b)), ((b 1), .inr (4, [.int 0, .ref e0, .int 0])), ((b 2), .inr (4, [.int 0, .ref e0, .int 0])), ((b 3), .inr (4, [.int 0, .ref e0, .int 0]))]) (w1 := [((b 0), .inr (4, [.int 0, .ref e0, .int 0]))]) hP hD [1] [0, 2, 3, 4] rfl rfl (by decide) (by decide) hk1 hFc hP1 hD1
        generalize H1 = H at hP hS ⊢
        have hP : va_P (dC, dI) vwCl [(h0, .inr (15, zM th b)), ((b 1), .inr (4, [.int 0, .ref e0, .int 0])), ((b 2), .inr (4, [.int 0, .ref e0, .int 0])), ((b 3), .inr (4, [.int 0, .ref e0, .int 0])), ((b 0), .inr (4, [.int 0, .ref e0, .int 0]))] H := hP
        have hD : va_D A [(h0, .inr (15, zM th b)), ((b 1), .inr (4, [.int 0, .ref e0, .int 0])), ((b 2), .inr (4, [.int 0, .ref e0, .int 0])), ((b 3), .inr (4, [.int 0, .ref e0, .int 0])), ((b 0), .inr (4, [.int 0, .ref e0, .int 0]))] := hD
        obtain rfl : r28 = 0 := hw
        refine lv_iconst (v := 1) hx hb dX10_storm_58 (by decide) ?_
        refine lv_isub hx hb dX10_storm_59 ?_
        refine lv_topi (fun y29 e30 => ?_)
        obtain rfl : y29 = (-1) := e30.trans (by decide)
        refine lv_i2l (v := (-1)) hx hb dX10_storm_60 (by decide) ?_
        have hPc := hP.sub (ws' := []) [] rfl
        have hDc := hD.sub (ws' := []) [] (by decide) rfl
        have hKc := hK.sub (tys' := []) [] rfl
        have hFc := va_free (wc := []) hD hS hA [] rfl
        refine va_calli (va_runS (As := [.long (p0).toInt64, .long 0, .long (-1)]) (rest := [.ref h0]) ⟨hx, hb, hml, hown, hts⟩ (c_X10_in l htr dC dI e0 H.size ((p0).toInt64) 0 (-1)) (va_cwS 3 hts gX10_storm_X10_in rfl rfl rfl (by decide +kernel) ⟨Nat.le_of_ble_eq_true rfl, Nat.le_of_ble_eq_true rfl⟩) ⟨fun a U g mk q => by obtain ⟨q0, q1, qP, qK, qD⟩ := q; exact ⟨q0, q1, qP, va_K.moved (u := U) (U := U.calling g mk a) (Vm.Alike.refl U.vm) qK, qD⟩, fun U hU hW => ⟨rfl, by rw [hU], by rw [hU]; exact hPc, va_K.moved hW.alike hKc, hDc.weaken (fun _ _ _ _ => trivial)⟩⟩ rfl rfl hl.1 rfl (lv_room (Nat.le_of_ble_eq_true rfl)) dX10_storm_61 ⟨Nat.le_of_ble_eq_true rfl, Nat.le_of_ble_eq_true rfl⟩) hS (fun q _ h => hFc q h) hFc (fun r31 u t H1 locs ht hvm hw hB hz1 hk1 hS => ?_)
        have hP1 : va_P (dC, dI) vwCl [] H1 := fun k q h => by simp at h
        have hD1 : va_D (va_A [] H.size) [] := ⟨fun i j p q h => by simp at h, fun k q h => by simp at h⟩
        obtain ⟨hP, hD⟩ := va_join (wr := [(h0, .inr (15, zM th b)), ((b 1), .inr (4, [.int 0, .ref e0, .int 0])), ((b 2), .inr (4, [.int 0, .ref e0, .int 0])), ((b 3), .inr (4, [.int 0, .ref e0, .int 0])), ((b 0), .inr (4, [.int 0, .ref e0, .int 0]))]) (w1 := []) hP hD [] [0, 1, 2, 3, 4] rfl rfl (by decide) (by decide) hk1 hFc hP1 hD1
        generalize H1 = H at hP hS ⊢
        have hP : va_P (dC, dI) vwCl [(h0, .inr (15, zM th b)), ((b 1), .inr (4, [.int 0, .ref e0, .int 0])), ((b 2), .inr (4, [.int 0, .ref e0, .int 0])), ((b 3), .inr (4, [.int 0, .ref e0, .int 0])), ((b 0), .inr (4, [.int 0, .ref e0, .int 0]))] H := hP
        have hD : va_D A [(h0, .inr (15, zM th b)), ((b 1), .inr (4, [.int 0, .ref e0, .int 0])), ((b 2), .inr (4, [.int 0, .ref e0, .int 0])), ((b 3), .inr (4, [.int 0, .ref e0, .int 0])), ((b 0), .inr (4, [.int 0, .ref e0, .int 0]))] := hD
        obtain rfl : r31 = 0 := hw.trans (if_neg (fun h => absurd (Int64.le_trans h.1 h.2) (by decide)))
        refine lv_if_ne (tgt := 71) hx hb dX10_storm_64 (by decide) (fun c32 => absurd (by decide) c32) (fun _ => ?_)
        refine lv_iconst (v := 1) hx hb dX10_storm_67 (by decide) ?_
        refine lv_goto (tgt := 99) hx hb dX10_storm_68 (by decide) ?_
        have hPc := hP.sub (ws' := [(h0, .inr (15, zM th b))]) [0] rfl
        have hDc := hD.sub (ws' := [(h0, .inr (15, zM th b))]) [0] (by decide) rfl
        have hKc := hK.sub (tys' := []) [] rfl
        have hFc := va_free (wc := [(h0, .inr (15, zM th b))]) hD hS hA [0] rfl
        refine va_calli (va_runV (As := [.int 1]) (rest := []) ⟨hx, hb, hml, hown, hts⟩ (c_X10_goesOn l htr dC dI e0 H.size h0 th b 1) (cwV 1 hts gX10_storm_X10_goesOn rfl rfl rfl (by decide +kernel) ⟨Nat.le_of_ble_eq_true rfl, Nat.le_of_ble_eq_true rfl⟩) ⟨fun a U g mk q => by obtain ⟨q0, q1, qP, qK, qD⟩ := q; exact ⟨q0, q1, qP, va_K.moved (u := U) (U := U.calling g mk a) (Vm.Alike.refl U.vm) qK, qD⟩, va_recv hKc hPc (ci := 15) (q0 := 0) rfl rfl, fun U hU hW => ⟨rfl, by rw [hU], by rw [hU]; exact hPc, va_K.moved hW.alike hKc, hDc.weaken (fun _ _ _ _ => trivial)⟩⟩ rfl rfl hl.1 rfl (lv_room (Nat.le_of_ble_eq_true rfl)) dX10_storm_99 ⟨Nat.le_of_ble_eq_true rfl, Nat.le_of_ble_eq_true rfl⟩) hS (fun q _ h => hFc q h) hFc (fun r33 u t H1 locs ht hvm hw hB hz1 hk1 hS => ?_)
        obtain ⟨hP1, hK1, hD1⟩ := hB
        rw [ht] at hP1
        obtain ⟨hP, hD⟩ := va_join (wr := [((b 1), .inr (4, [.int 0, .ref e0, .int 0])), ((b 2), .inr (4, [.int 0, .ref e0, .int 0])), ((b 3), .inr (4, [.int 0, .ref e0, .int 0])), ((b 0), .inr (4, [.int 0, .ref e0, .int 0]))]) (w1 := [(h0, .inr (15, zM 1 b))]) hP hD [0] [1, 2, 3, 4] rfl rfl (by decide) (by decide) hk1 hFc hP1 hD1
        generalize H1 = H at hP hS ⊢
        have hP : va_P (dC, dI) vwCl [((b 1), .inr (4, [.int 0, .ref e0, .int 0])), ((b 2), .inr (4, [.int 0, .ref e0, .int 0])), ((b 3), .inr (4, [.int 0, .ref e0, .int 0])), ((b 0), .inr (4, [.int 0, .ref e0, .int 0])), (h0, .inr (15, zM 1 b))] H := hP
        have hD : va_D A [((b 1), .inr (4, [.int 0, .ref e0, .int 0])), ((b 2), .inr (4, [.int 0, .ref e0, .int 0])), ((b 3), .inr (4, [.int 0, .ref e0, .int 0])), ((b 0), .inr (4, [.int 0, .ref e0, .int 0])), (h0, .inr (15, zM 1 b))] := hD
        obtain rfl : r33 = 0 := hw.trans (by decide)
        refine lv_if_ne (tgt := 107) hx hb dX10_storm_102 (by decide) (fun c34 => absurd (by decide) c34) (fun _ => ?_)
        refine lv_iconst (v := 0) hx hb dX10_storm_105 (by decide) ?_
        have hP9 := hP.sub (ws' := [(h0, .inr (15, zM 1 b))]) [4] rfl
        have hD9 := hD.sub (ws' := [(h0, .inr (15, zM 1 b))]) [4] (by decide) rfl
        have hK9 := hK.sub (tys' := []) [] rfl
        exact W.iret (v := 0) hx hb hr (fun t ht hW => ⟨⟨0, (), rfl, rfl, ⟨by rw [ht]; exact hP9, va_K.moved hW.alike hK9, hD9⟩⟩, hS.F ht⟩) hS.2.2 dX10_storm_106

set_option maxRecDepth 20000 in
theorem ggX10_must_Jx4a65c_size_8abf5 : GoodIn wsX10_must wsJx4a65c_size_8abf5 := goodIn_r _ [7, 8, 95, 96, 97] (by decide +kernel) (by decide +kernel)
set_option maxRecDepth 20000 in
theorem gX10_must_Jx4a65c_size_8abf5_f59Jx4a65c : GoodIn wsX10_must (va_wsF RX10 59 RJx4a65c ⟨"java/util/List", "size", "()I"⟩ yJx4a65c_size_8abf5 wsJx4a65c_size_8abf5) := goodIn_app (goodIn_of _ (by decide +kernel)) ggX10_must_Jx4a65c_size_8abf5
set_option maxRecDepth 20000 in
theorem ggX10_must_X10_goesOn : GoodIn wsX10_must wsX10_goesOn := goodIn_r _ [60, 61, 79, 80, 81, 82, 83, 84, 85, 86, 87, 88, 89] (by decide +kernel) (by decide +kernel)
set_option maxRecDepth 20000 in
theorem gX10_must_X10_goesOn : GoodIn wsX10_must (wsV RX10 78 RX10 yX10_goesOn wsX10_goesOn) := goodIn_app (goodIn_of _ (by decide +kernel)) ggX10_must_X10_goesOn
set_option maxRecDepth 20000 in
theorem ggX10_must_X10_in : GoodIn wsX10_must wsX10_in := goodIn_r _ [12] (by decide +kernel) (by decide +kernel)
set_option maxRecDepth 20000 in
theorem gX10_must_X10_in : GoodIn wsX10_must (va_wsS RX10 63 yX10_in wsX10_in) := goodIn_app (goodIn_of _ (by decide +kernel)) ggX10_must_X10_in
theorem dX10_must_0 : decode cX10_must 0 = .ok (.aload_n 0, 1) := by decide +kernel
theorem dX10_must_1 : decode cX10_must 1 = .ok (.iload_n 1, 1) := by decide +kernel
theorem dX10_must_2 : decode cX10_must 2 = .ok (.i2l, 1) := by decide +kernel
theorem dX10_must_3 : decode cX10_must 3 = .ok (.lconst 1, 1) := by decide +kernel
theorem dX10_must_4 : decode cX10_must 4 = .ok (.aload_n 0, 1) := by decide +kernel
theorem dX10_must_5 : decode cX10_must 5 = .ok (.getfield 10, 3) := by decide +kernel
theorem dX10_must_8 : decode cX10_must 8 = .ok (.invokeinterface 59 1, 5) := by decide +kernel
theorem dX10_must_13 : decode cX10_must 13 = .ok (.iconst 1, 1) := by decide +kernel
theorem dX10_must_14 : decode cX10_must 14 = .ok (.isub, 1) := by decide +kernel
theorem dX10_must_15 : decode cX10_must 15 = .ok (.i2l, 1) := by decide +kernel
theorem dX10_must_16 : decode cX10_must 16 = .ok (.invokestatic 63, 3) := by decide +kernel
theorem dX10_must_19 : decode cX10_must 19 = .ok (.ifCond .ne 7, 3) := by decide +kernel
theorem dX10_must_22 : decode cX10_must 22 = .ok (.iconst 1, 1) := by decide +kernel
theorem dX10_must_23 : decode cX10_must 23 = .ok (.goto 15, 3) := by decide +kernel
theorem dX10_must_38 : decode cX10_must 38 = .ok (.invokevirtual 78, 3) := by decide +kernel
theorem dX10_must_41 : decode cX10_must 41 = .ok (.ifCond .ne 5, 3) := by decide +kernel
theorem dX10_must_44 : decode cX10_must 44 = .ok (.iconst 0, 1) := by decide +kernel
theorem dX10_must_45 : decode cX10_must 45 = .ok (.ireturn, 1) := by decide +kernel
set_option maxHeartbeats 4000000 in
set_option maxRecDepth 100000 in
theorem c_X10_must (l : Launch) (htr : l.stackTraces = false) (dC : Nat → ClassId) (dI : Nat → Nat → Nat) (e0 sz : Nat) (h0 : Nat) (th : Int32) (b : Nat → Nat) (p0 : Int32) (p1 : Int32) : Met l yX10_must wsX10_must ({ frames := 1, cells := 0, slots := 0, locals := 25 }) (va_Pc [.ref h0, .int p0, .int p1] (fun U => U.heap.size = sz ∧ va_P (dC, dI) vwCl [(h0, .inr (15, zM th b)), ((b 0), .inr (4, [.int 0, .ref e0, .int 0])), ((b 1), .inr (4, [.int 0, .ref e0, .int 0])), ((b 2), .inr (4, [.int 0, .ref e0, .int 0])), ((b 3), .inr (4, [.int 0, .ref e0, .int 0]))] U.heap ∧ va_K (dC, dI) vwCl [] U ∧ va_D (fun _ => True) [(h0, .inr (15, zM th b)), ((b 0), .inr (4, [.int 0, .ref e0, .int 0])), ((b 1), .inr (4, [.int 0, .ref e0, .int 0])), ((b 2), .inr (4, [.int 0, .ref e0, .int 0])), ((b 3), .inr (4, [.int 0, .ref e0, .int 0]))] ∧ zE e0 (va_A [(h0, .inr (15, zM th b)), ((b 0), .inr (4, [.int 0, .ref e0, .int 0])), ((b 1), .inr (4, [.int 0, .ref e0, .int 0])), ((b 2), .inr (4, [.int 0, .ref e0, .int 0])), ((b 3), .inr (4, [.int 0, .ref e0, .int 0]))] sz) U U.heap)) (va_Qi (fun (r : Int32) (_ : Unit) => r = 0) (fun _ t => va_P (dC, dI) vwCl [(h0, .inr (15, zM 1 b))] t.heap ∧ va_K (dC, dI) vwCl [] t ∧ va_D (va_A [(h0, .inr (15, zM th b)), ((b 0), .inr (4, [.int 0, .ref e0, .int 0])), ((b 1), .inr (4, [.int 0, .ref e0, .int 0])), ((b 2), .inr (4, [.int 0, .ref e0, .int 0])), ((b 3), .inr (4, [.int 0, .ref e0, .int 0]))] sz) [(h0, .inr (15, zM 1 b))]) (va_A [(h0, .inr (15, zM th b)), ((b 0), .inr (4, [.int 0, .ref e0, .int 0])), ((b 1), .inr (4, [.int 0, .ref e0, .int 0])), ((b 2), .inr (4, [.int 0, .ref e0, .int 0])), ((b 3), .inr (4, [.int 0, .ref e0, .int 0]))] sz)) 0 0 (va_A [(h0, .inr (15, zM th b)), ((b 0), .inr (4, [.int 0, .ref e0, .int 0])), ((b 1), .inr (4, [.int 0, .ref e0, .int 0])), ((b 2), .inr (4, [.int 0, .ref e0, .int 0])), ((b 3), .inr (4, [.int 0, .ref e0, .int 0]))] sz) := by
  refine Met.ofW (cc := cX10_must) (maxL := 4) (ret := (some .boolean)) (by decide) rfl ?_
  intro p e s m args below meth c s₁ B hml hv
  obtain ⟨rfl, hsz, hP, hK, hD0, hE⟩ := hv
  have hx := B.exec
  have hb := B.bytes
  have hr := B.returns
  have hts := atoms_spec (ws := wsX10_must) B.pre
  have hown : s.vm.findClass RX10 = some m.cls := findClass_of_methodNamed B.named
  have hlocks := B.notSynchronized
  subst hsz
  have hD := hD0.self (sz := s.heap.size)
  generalize hAe : va_A [(h0, .inr (15, zM th b)), ((b 0), .inr (4, [.int 0, .ref e0, .int 0])), ((b 1), .inr (4, [.int 0, .ref e0, .int 0])), ((b 2), .inr (4, [.int 0, .ref e0, .int 0])), ((b 3), .inr (4, [.int 0, .ref e0, .int 0]))] s.heap.size = A at hD hE ⊢
  have hA : ∀ q : Nat, s.heap.size ≤ q → A q := fun q h => by rw [← hAe]; exact Or.inr h
  have hS : va_S A s.heap s.heap [] := va_S.rf
  have hl := lv_entry ([.ref h0, .int p0, .int p1]) (n := 4) (Nat.le_of_ble_eq_true rfl)
  rw [lg_entry_eq]
  generalize (lg_sl ([.ref h0, .int p0, .int p1]) ++ List.replicate (4 - (lg_sl ([.ref h0, .int p0, .int p1])).length) Slot.unset).toArray = ls at hl ⊢
  have hl : lv_has ls 4 [(0, .ref h0), (1, .int p0), (2, .int p1)] := hl
  refine lv_aload_n hx hb dX10_must_0 rfl (lv_at hl 0 rfl) ?_
  refine lv_iload_n hx hb dX10_must_1 rfl (lv_at hl 1 rfl) ?_
  refine lv_i2l (v := (p0).toInt64) hx hb dX10_must_2 rfl ?_
  refine lv_lconst (v := 1) hx hb dX10_must_3 (by decide) ?_
  refine lv_aload_n hx hb dX10_must_4 rfl (lv_at hl 0 rfl) ?_
  refine va_get (D := (dC, dI)) (ci := 15) (v := .ref (b 0)) (C := RX10) (T := TX10) (N := 11) hx hb hts (by decide +kernel) hown hK hP 0 rfl rfl 1 (by decide) (hts (.fieldLink RX10 10 "GanglineModel" "legs" "Ljava/util/List;") (by decide +kernel)) (fun _ h9 => h9) rfl dX10_must_5 ?_
  have hPc := hP.sub (ws' := [((b 0), .inr (4, [.int 0, .ref e0, .int 0]))]) [1] rfl
  have hDc := hD.sub (ws' := [((b 0), .inr (4, [.int 0, .ref e0, .int 0]))]) [1] (by decide) rfl
  have hKc := hK.sub (tys' := []) [] rfl
  have hFc := va_free (wc := [((b 0), .inr (4, [.int 0, .ref e0, .int 0]))]) hD hS hA [1] rfl
  refine va_callFi (va_runF (As := []) (rest := [.long 1, .long (p0).toInt64, .ref h0]) (hK.1 4 _ rfl).2 ⟨hx, hb, hml, hown, hts⟩ (c_Jx4a65c_size_8abf5 l htr dC dI e0 s.heap.size (b 0) 0 e0 0) (va_cwF 0 hts gX10_must_Jx4a65c_size_8abf5_f59Jx4a65c rfl rfl rfl (zV_W_size hE.v) (by decide +kernel) ⟨Nat.le_of_ble_eq_true rfl, Nat.le_of_ble_eq_true rfl⟩) ⟨fun a U g mk q => by obtain ⟨q0, q1, qP, qK, qD⟩ := q; exact ⟨q0, q1, qP, va_K.moved (u := U) (U := U.calling g mk a) (Vm.Alike.refl U.vm) qK, qD⟩, va_recv hKc hPc (ci := 4) (q0 := 0) rfl rfl, fun U hU hW => ⟨rfl, by rw [hU], by rw [hU]; exact hPc, va_K.moved hW.alike hKc, hDc.weaken (fun _ _ _ _ => trivial)⟩⟩ rfl rfl hl.1 rfl (lv_room (Nat.le_of_ble_eq_true rfl)) dX10_must_8 ⟨Nat.le_of_ble_eq_true rfl, Nat.le_of_ble_eq_true rfl⟩) hS (fun q _ h => hFc q h) hFc (fun r1 u t H1 locs ht hvm hw hB hz1 hk1 hS => ?_)
  obtain ⟨hP1, hK1, hD1⟩ := hB
  rw [ht] at hP1
  obtain ⟨hP, hD⟩ := va_join (wr := [(h0, .inr (15, zM th b)), ((b 1), .inr (4, [.int 0, .ref e0, .int 0])), ((b 2), .inr (4, [.int 0, .ref e0, .int 0])), ((b 3), .inr (4, [.int 0, .ref e0, .int 0]))]) (w1 := [((b 0), .inr (4, [.int 0, .ref e0, .int 0]))]) hP hD [1] [0, 2, 3, 4] rfl rfl (by decide) (by decide) hk1 hFc hP1 hD1
  generalize H1 = H at hP hS ⊢
  have hP : va_P (dC, dI) vwCl [(h0, .inr (15, zM th b)), ((b 1), .inr (4, [.int 0, .ref e0, .int 0])), ((b 2), .inr (4, [.int 0, .ref e0, .int 0])), ((b 3), .inr (4, [.int 0, .ref e0, .int 0])), ((b 0), .inr (4, [.int 0, .ref e0, .int 0]))] H := hP
  have hD : va_D A [(h0, .inr (15, zM th b)), ((b 1), .inr (4, [.int 0, .ref e0, .int 0])), ((b 2), .inr (4, [.int 0, .ref e0, .int 0])), ((b 3), .inr (4, [.int 0, .ref e0, .int 0])), ((b 0), .inr (4, [.int 0, .ref e0, .int 0]))] := hD
  obtain rfl : r1 = 0 := hw
  refine lv_iconst (v := 1) hx hb dX10_must_13 (by decide) ?_
  refine lv_isub hx hb dX10_must_14 ?_
  refine lv_topi (fun y2 e3 => ?_)
  obtain rfl : y2 = (-1) := e3.trans (by decide)
  refine lv_i2l (v := (-1)) hx hb dX10_must_15 (by decide) ?_
  have hPc := hP.sub (ws' := []) [] rfl
  have hDc := hD.sub (ws' := []) [] (by decide) rfl
  have hKc := hK.sub (tys' := []) [] rfl
  have hFc := va_free (wc := []) hD hS hA [] rfl
  refine va_calli (va_runS (As := [.long (p0).toInt64, .long 1, .long (-1)]) (rest := [.ref h0]) ⟨hx, hb, hml, hown, hts⟩ (c_X10_in l htr dC dI e0 H.size ((p0).toInt64) 1 (-1)) (va_cwS 3 hts gX10_must_X10_in rfl rfl rfl (by decide +kernel) ⟨Nat.le_of_ble_eq_true rfl, Nat.le_of_ble_eq_true rfl⟩) ⟨fun a U g mk q => by obtain ⟨q0, q1, qP, qK, qD⟩ := q; exact ⟨q0, q1, qP, va_K.moved (u := U) (U := U.calling g mk a) (Vm.Alike.refl U.vm) qK, qD⟩, fun U hU hW => ⟨rfl, by rw [hU], by rw [hU]; exact hPc, va_K.moved hW.alike hKc, hDc.weaken (fun _ _ _ _ => trivial)⟩⟩ rfl rfl hl.1 rfl (lv_room (Nat.le_of_ble_eq_true rfl)) dX10_must_16 ⟨Nat.le_of_ble_eq_true rfl, Nat.le_of_ble_eq_true rfl⟩) hS (fun q _ h => hFc q h) hFc (fun r4 u t H1 locs ht hvm hw hB hz1 hk1 hS => ?_)
  have hP1 : va_P (dC, dI) vwCl [] H1 := fun k q h => by simp at h
  have hD1 : va_D (va_A [] H.size) [] := ⟨fun i j p q h => by simp at h, fun k q h => by simp at h⟩
  obtain ⟨hP, hD⟩ := va_join (wr := [(h0, .inr (15, zM th b)), ((b 1), .inr (4, [.int 0, .ref e0, .int 0])), ((b 2), .inr (4, [.int 0, .ref e0, .int 0])), ((b 3), .inr (4, [.int 0, .ref e0, .int 0])), ((b 0), .inr (4, [.int 0, .ref e0, .int 0]))]) (w1 := []) hP hD [] [0, 1, 2, 3, 4] rfl rfl (by decide) (by decide) hk1 hFc hP1 hD1
  generalize H1 = H at hP hS ⊢
  have hP : va_P (dC, dI) vwCl [(h0, .inr (15, zM th b)), ((b 1), .inr (4, [.int 0, .ref e0, .int 0])), ((b 2), .inr (4, [.int 0, .ref e0, .int 0])), ((b 3), .inr (4, [.int 0, .ref e0, .int 0])), ((b 0), .inr (4, [.int 0, .ref e0, .int 0]))] H := hP
  have hD : va_D A [(h0, .inr (15, zM th b)), ((b 1), .inr (4, [.int 0, .ref e0, .int 0])), ((b 2), .inr (4, [.int 0, .ref e0, .int 0])), ((b 3), .inr (4, [.int 0, .ref e0, .int 0])), ((b 0), .inr (4, [.int 0, .ref e0, .int 0]))] := hD
  obtain rfl : r4 = 0 := hw.trans (if_neg (fun h => absurd (Int64.le_trans h.1 h.2) (by decide)))
  refine lv_if_ne (tgt := 26) hx hb dX10_must_19 (by decide) (fun c5 => absurd (by decide) c5) (fun _ => ?_)
  refine lv_iconst (v := 1) hx hb dX10_must_22 (by decide) ?_
  refine lv_goto (tgt := 38) hx hb dX10_must_23 (by decide) ?_
  have hPc := hP.sub (ws' := [(h0, .inr (15, zM th b))]) [0] rfl
  have hDc := hD.sub (ws' := [(h0, .inr (15, zM th b))]) [0] (by decide) rfl
  have hKc := hK.sub (tys' := []) [] rfl
  have hFc := va_free (wc := [(h0, .inr (15, zM th b))]) hD hS hA [0] rfl
  refine va_calli (va_runV (As := [.int 1]) (rest := []) ⟨hx, hb, hml, hown, hts⟩ (c_X10_goesOn l htr dC dI e0 H.size h0 th b 1) (cwV 1 hts gX10_must_X10_goesOn rfl rfl rfl (by decide +kernel) ⟨Nat.le_of_ble_eq_true rfl, Nat.le_of_ble_eq_true rfl⟩) ⟨fun a U g mk q => by obtain ⟨q0, q1, qP, qK, qD⟩ := q; exact ⟨q0, q1, qP, va_K.moved (u := U) (U := U.calling g mk a) (Vm.Alike.refl U.vm) qK, qD⟩, va_recv hKc hPc (ci := 15) (q0 := 0) rfl rfl, fun U hU hW => ⟨rfl, by rw [hU], by rw [hU]; exact hPc, va_K.moved hW.alike hKc, hDc.weaken (fun _ _ _ _ => trivial)⟩⟩ rfl rfl hl.1 rfl (lv_room (Nat.le_of_ble_eq_true rfl)) dX10_must_38 ⟨Nat.le_of_ble_eq_true rfl, Nat.le_of_ble_eq_true rfl⟩) hS (fun q _ h => hFc q h) hFc (fun r6 u t H1 locs ht hvm hw hB hz1 hk1 hS => ?_)
  obtain ⟨hP1, hK1, hD1⟩ := hB
  rw [ht] at hP1
  obtain ⟨hP, hD⟩ := va_join (wr := [((b 1), .inr (4, [.int 0, .ref e0, .int 0])), ((b 2), .inr (4, [.int 0, .ref e0, .int 0])), ((b 3), .inr (4, [.int 0, .ref e0, .int 0])), ((b 0), .inr (4, [.int 0, .ref e0, .int 0]))]) (w1 := [(h0, .inr (15, zM 1 b))]) hP hD [0] [1, 2, 3, 4] rfl rfl (by decide) (by decide) hk1 hFc hP1 hD1
  generalize H1 = H at hP hS ⊢
  have hP : va_P (dC, dI) vwCl [((b 1), .inr (4, [.int 0, .ref e0, .int 0])), ((b 2), .inr (4, [.int 0, .ref e0, .int 0])), ((b 3), .inr (4, [.int 0, .ref e0, .int 0])), ((b 0), .inr (4, [.int 0, .ref e0, .int 0])), (h0, .inr (15, zM 1 b))] H := hP
  have hD : va_D A [((b 1), .inr (4, [.int 0, .ref e0, .int 0])), ((b 2), .inr (4, [.int 0, .ref e0, .int 0])), ((b 3), .inr (4, [.int 0, .ref e0, .int 0])), ((b 0), .inr (4, [.int 0, .ref e0, .int 0])), (h0, .inr (15, zM 1 b))] := hD
  obtain rfl : r6 = 0 := hw.trans (by decide)
  refine lv_if_ne (tgt := 46) hx hb dX10_must_41 (by decide) (fun c7 => absurd (by decide) c7) (fun _ => ?_)
  refine lv_iconst (v := 0) hx hb dX10_must_44 (by decide) ?_
  have hP9 := hP.sub (ws' := [(h0, .inr (15, zM 1 b))]) [4] rfl
  have hD9 := hD.sub (ws' := [(h0, .inr (15, zM 1 b))]) [4] (by decide) rfl
  have hK9 := hK.sub (tys' := []) [] rfl
  exact W.zret (v := 0) hx hb hr (by decide) (fun t ht hW => ⟨⟨0, (), rfl, rfl, ⟨by rw [ht]; exact hP9, va_K.moved hW.alike hK9, hD9⟩⟩, hS.F ht⟩) hS.2.2 dX10_must_45

set_option maxRecDepth 20000 in
theorem ggX10_help_X10_goesOn : GoodIn wsX10_help wsX10_goesOn := goodIn_r _ [47, 48, 87, 88, 89, 90, 91, 92, 93, 94, 95, 96, 97] (by decide +kernel) (by decide +kernel)
set_option maxRecDepth 20000 in
theorem gX10_help_X10_goesOn : GoodIn wsX10_help (wsV RX10 78 RX10 yX10_goesOn wsX10_goesOn) := goodIn_app (goodIn_of _ (by decide +kernel)) ggX10_help_X10_goesOn
set_option maxRecDepth 20000 in
theorem ggX10_help_X10_onFault : GoodIn wsX10_help wsX10_onFault := goodIn_r _ [7, 1, 2, 8, 9, 10, 6, 11, 12, 13, 14, 15, 16, 17, 18, 19, 20, 21, 22, 23, 24, 25, 26, 27, 28, 29, 30, 31, 32, 33, 34, 35, 36, 37, 38, 39, 40, 41, 42, 43, 87, 88, 89, 90, 91, 92, 93, 94, 95, 96, 97, 120, 121, 122, 98, 99, 100, 101, 102, 103, 104, 105, 106, 107, 108, 109, 110, 111, 112, 113, 114, 115, 116, 117, 118, 119] (by decide +kernel) (by decide +kernel)
set_option maxRecDepth 20000 in
theorem gX10_help_X10_onFault : GoodIn wsX10_help (wsV RX10 298 RX10 yX10_onFault wsX10_onFault) := goodIn_app (goodIn_of _ (by decide +kernel)) ggX10_help_X10_onFault
theorem dX10_help_0 : decode cX10_help 0 = .ok (.aload_n 0, 1) := by decide +kernel
theorem dX10_help_1 : decode cX10_help 1 = .ok (.aload_n 0, 1) := by decide +kernel
theorem dX10_help_2 : decode cX10_help 2 = .ok (.iload_n 1, 1) := by decide +kernel
theorem dX10_help_3 : decode cX10_help 3 = .ok (.invokevirtual 298, 3) := by decide +kernel
theorem dX10_help_6 : decode cX10_help 6 = .ok (.invokevirtual 78, 3) := by decide +kernel
theorem dX10_help_9 : decode cX10_help 9 = .ok (.ifCond .ne 5, 3) := by decide +kernel
theorem dX10_help_12 : decode cX10_help 12 = .ok (.iconst 0, 1) := by decide +kernel
theorem dX10_help_13 : decode cX10_help 13 = .ok (.ireturn, 1) := by decide +kernel
set_option maxHeartbeats 4000000 in
set_option maxRecDepth 100000 in
theorem c_X10_help (l : Launch) (htr : l.stackTraces = false) (dC : Nat → ClassId) (dI : Nat → Nat → Nat) (e0 sz : Nat) (h0 : Nat) (th : Int32) (b : Nat → Nat) (p0 : Int32) : Met l yX10_help wsX10_help ({ frames := 3, cells := 0, slots := 0, locals := 67 }) (va_Pc [.ref h0, .int p0] (fun U => U.heap.size = sz ∧ va_P (dC, dI) vwCl [(h0, .inr (15, zM th b)), ((b 0), .inr (4, [.int 0, .ref e0, .int 0])), ((b 1), .inr (4, [.int 0, .ref e0, .int 0])), ((b 2), .inr (4, [.int 0, .ref e0, .int 0])), ((b 3), .inr (4, [.int 0, .ref e0, .int 0]))] U.heap ∧ va_K (dC, dI) vwCl [] U ∧ va_D (fun _ => True) [(h0, .inr (15, zM th b)), ((b 0), .inr (4, [.int 0, .ref e0, .int 0])), ((b 1), .inr (4, [.int 0, .ref e0, .int 0])), ((b 2), .inr (4, [.int 0, .ref e0, .int 0])), ((b 3), .inr (4, [.int 0, .ref e0, .int 0]))] ∧ zE e0 (va_A [(h0, .inr (15, zM th b)), ((b 0), .inr (4, [.int 0, .ref e0, .int 0])), ((b 1), .inr (4, [.int 0, .ref e0, .int 0])), ((b 2), .inr (4, [.int 0, .ref e0, .int 0])), ((b 3), .inr (4, [.int 0, .ref e0, .int 0]))] sz) U U.heap)) (va_Qi (fun (r : Int32) (_ : Unit) => r = 0) (fun _ t => va_P (dC, dI) vwCl [(h0, .inr (15, zM 1 b))] t.heap ∧ va_K (dC, dI) vwCl [] t ∧ va_D (va_A [(h0, .inr (15, zM th b)), ((b 0), .inr (4, [.int 0, .ref e0, .int 0])), ((b 1), .inr (4, [.int 0, .ref e0, .int 0])), ((b 2), .inr (4, [.int 0, .ref e0, .int 0])), ((b 3), .inr (4, [.int 0, .ref e0, .int 0]))] sz) [(h0, .inr (15, zM 1 b))]) (va_A [(h0, .inr (15, zM th b)), ((b 0), .inr (4, [.int 0, .ref e0, .int 0])), ((b 1), .inr (4, [.int 0, .ref e0, .int 0])), ((b 2), .inr (4, [.int 0, .ref e0, .int 0])), ((b 3), .inr (4, [.int 0, .ref e0, .int 0]))] sz)) 0 0 (va_A [(h0, .inr (15, zM th b)), ((b 0), .inr (4, [.int 0, .ref e0, .int 0])), ((b 1), .inr (4, [.int 0, .ref e0, .int 0])), ((b 2), .inr (4, [.int 0, .ref e0, .int 0])), ((b 3), .inr (4, [.int 0, .ref e0, .int 0]))] sz) := by
  refine Met.ofW (cc := cX10_help) (maxL := 3) (ret := (some .int)) (by decide) rfl ?_
  intro p e s m args below meth c s₁ B hml hv
  obtain ⟨rfl, hsz, hP, hK, hD0, hE⟩ := hv
  have hx := B.exec
  have hb := B.bytes
  have hr := B.returns
  have hts := atoms_spec (ws := wsX10_help) B.pre
  have hown : s.vm.findClass RX10 = some m.cls := findClass_of_methodNamed B.named
  have hlocks := B.notSynchronized
  subst hsz
  have hD := hD0.self (sz := s.heap.size)
  generalize hAe : va_A [(h0, .inr (15, zM th b)), ((b 0), .inr (4, [.int 0, .ref e0, .int 0])), ((b 1), .inr (4, [.int 0, .ref e0, .int 0])), ((b 2), .inr (4, [.int 0, .ref e0, .int 0])), ((b 3), .inr (4, [.int 0, .ref e0, .int 0]))] s.heap.size = A at hD hE ⊢
  have hA : ∀ q : Nat, s.heap.size ≤ q → A q := fun q h => by rw [← hAe]; exact Or.inr h
  have hS : va_S A s.heap s.heap [] := va_S.rf
  have hl := lv_entry ([.ref h0, .int p0]) (n := 3) (Nat.le_of_ble_eq_true rfl)
  rw [lg_entry_eq]
  generalize (lg_sl ([.ref h0, .int p0]) ++ List.replicate (3 - (lg_sl ([.ref h0, .int p0])).length) Slot.unset).toArray = ls at hl ⊢
  have hl : lv_has ls 3 [(0, .ref h0), (1, .int p0)] := hl
  refine lv_aload_n hx hb dX10_help_0 rfl (lv_at hl 0 rfl) ?_
  refine lv_aload_n hx hb dX10_help_1 rfl (lv_at hl 0 rfl) ?_
  refine lv_iload_n hx hb dX10_help_2 rfl (lv_at hl 1 rfl) ?_
  have hPc := hP.sub (ws' := [(h0, .inr (15, zM th b)), ((b 2), .inr (4, [.int 0, .ref e0, .int 0]))]) [0, 3] rfl
  have hDc := hD.sub (ws' := [(h0, .inr (15, zM th b)), ((b 2), .inr (4, [.int 0, .ref e0, .int 0]))]) [0, 3] (by decide) rfl
  have hKc := hK.sub (tys' := []) [] rfl
  have hFc := va_free (wc := [(h0, .inr (15, zM th b)), ((b 2), .inr (4, [.int 0, .ref e0, .int 0]))]) hD hS hA [0, 3] rfl
  have hEc := (hE.kept hS.2.1).narrow hFc
  refine va_calli (va_runV (As := [.int p0]) (rest := [.ref h0]) ⟨hx, hb, hml, hown, hts⟩ (c_X10_onFault l htr dC dI e0 s.heap.size h0 th b p0) (cwV 1 hts gX10_help_X10_onFault rfl rfl rfl (by decide +kernel) ⟨Nat.le_of_ble_eq_true rfl, Nat.le_of_ble_eq_true rfl⟩) ⟨fun a U g mk q => by obtain ⟨q0, q1, qP, qK, qD, qE⟩ := q; exact ⟨q0, q1, qP, va_K.moved (u := U) (U := U.calling g mk a) (Vm.Alike.refl U.vm) qK, qD, zE.same rfl qE⟩, va_recv hKc hPc (ci := 15) (q0 := 0) rfl rfl, fun U hU hW => ⟨rfl, by rw [hU], by rw [hU]; exact hPc, va_K.moved hW.alike hKc, hDc.weaken (fun _ _ _ _ => trivial), by rw [hU]; exact zE.warm hW hEc⟩⟩ rfl rfl hl.1 rfl (lv_room (Nat.le_of_ble_eq_true rfl)) dX10_help_3 ⟨Nat.le_of_ble_eq_true rfl, Nat.le_of_ble_eq_true rfl⟩) hS (fun q _ h => hFc q h) hFc (fun r1 u t H1 locs ht hvm hw hB hz1 hk1 hS => ?_)
  obtain ⟨hP1, hK1, hD1⟩ := hB
  rw [ht] at hP1
  obtain ⟨hP, hD⟩ := va_join (wr := [((b 0), .inr (4, [.int 0, .ref e0, .int 0])), ((b 1), .inr (4, [.int 0, .ref e0, .int 0])), ((b 3), .inr (4, [.int 0, .ref e0, .int 0]))]) (w1 := [(h0, .inr (15, zM th b)), ((b 2), .inr (4, [.int 0, .ref e0, .int 0]))]) hP hD [0, 3] [1, 2, 4] rfl rfl (by decide) (by decide) hk1 hFc hP1 hD1
  generalize H1 = H at hP hS ⊢
  have hP : va_P (dC, dI) vwCl [((b 0), .inr (4, [.int 0, .ref e0, .int 0])), ((b 1), .inr (4, [.int 0, .ref e0, .int 0])), ((b 3), .inr (4, [.int 0, .ref e0, .int 0])), (h0, .inr (15, zM th b)), ((b 2), .inr (4, [.int 0, .ref e0, .int 0]))] H := hP
  have hD : va_D A [((b 0), .inr (4, [.int 0, .ref e0, .int 0])), ((b 1), .inr (4, [.int 0, .ref e0, .int 0])), ((b 3), .inr (4, [.int 0, .ref e0, .int 0])), (h0, .inr (15, zM th b)), ((b 2), .inr (4, [.int 0, .ref e0, .int 0]))] := hD
  obtain rfl : r1 = 1 := hw
  have hPc := hP.sub (ws' := [(h0, .inr (15, zM th b))]) [3] rfl
  have hDc := hD.sub (ws' := [(h0, .inr (15, zM th b))]) [3] (by decide) rfl
  have hKc := hK.sub (tys' := []) [] rfl
  have hFc := va_free (wc := [(h0, .inr (15, zM th b))]) hD hS hA [3] rfl
  refine va_calli (va_runV (As := [.int 1]) (rest := []) ⟨hx, hb, hml, hown, hts⟩ (c_X10_goesOn l htr dC dI e0 H.size h0 th b 1) (cwV 1 hts gX10_help_X10_goesOn rfl rfl rfl (by decide +kernel) ⟨Nat.le_of_ble_eq_true rfl, Nat.le_of_ble_eq_true rfl⟩) ⟨fun a U g mk q => by obtain ⟨q0, q1, qP, qK, qD⟩ := q; exact ⟨q0, q1, qP, va_K.moved (u := U) (U := U.calling g mk a) (Vm.Alike.refl U.vm) qK, qD⟩, va_recv hKc hPc (ci := 15) (q0 := 0) rfl rfl, fun U hU hW => ⟨rfl, by rw [hU], by rw [hU]; exact hPc, va_K.moved hW.alike hKc, hDc.weaken (fun _ _ _ _ => trivial)⟩⟩ rfl rfl hl.1 rfl (lv_room (Nat.le_of_ble_eq_true rfl)) dX10_help_6 ⟨Nat.le_of_ble_eq_true rfl, Nat.le_of_ble_eq_true rfl⟩) hS (fun q _ h => hFc q h) hFc (fun r2 u t H1 locs ht hvm hw hB hz1 hk1 hS => ?_)
  obtain ⟨hP1, hK1, hD1⟩ := hB
  rw [ht] at hP1
  obtain ⟨hP, hD⟩ := va_join (wr := [((b 0), .inr (4, [.int 0, .ref e0, .int 0])), ((b 1), .inr (4, [.int 0, .ref e0, .int 0])), ((b 3), .inr (4, [.int 0, .ref e0, .int 0])), ((b 2), .inr (4, [.int 0, .ref e0, .int 0]))]) (w1 := [(h0, .inr (15, zM 1 b))]) hP hD [3] [0, 1, 2, 4] rfl rfl (by decide) (by decide) hk1 hFc hP1 hD1
  generalize H1 = H at hP hS ⊢
  have hP : va_P (dC, dI) vwCl [((b 0), .inr (4, [.int 0, .ref e0, .int 0])), ((b 1), .inr (4, [.int 0, .ref e0, .int 0])), ((b 3), .inr (4, [.int 0, .ref e0, .int 0])), ((b 2), .inr (4, [.int 0, .ref e0, .int 0])), (h0, .inr (15, zM 1 b))] H := hP
  have hD : va_D A [((b 0), .inr (4, [.int 0, .ref e0, .int 0])), ((b 1), .inr (4, [.int 0, .ref e0, .int 0])), ((b 3), .inr (4, [.int 0, .ref e0, .int 0])), ((b 2), .inr (4, [.int 0, .ref e0, .int 0])), (h0, .inr (15, zM 1 b))] := hD
  obtain rfl : r2 = 0 := hw.trans (by decide)
  refine lv_if_ne (tgt := 14) hx hb dX10_help_9 (by decide) (fun c3 => absurd (by decide) c3) (fun _ => ?_)
  refine lv_iconst (v := 0) hx hb dX10_help_12 (by decide) ?_
  have hP9 := hP.sub (ws' := [(h0, .inr (15, zM 1 b))]) [4] rfl
  have hD9 := hD.sub (ws' := [(h0, .inr (15, zM 1 b))]) [4] (by decide) rfl
  have hK9 := hK.sub (tys' := []) [] rfl
  exact W.iret (v := 0) hx hb hr (fun t ht hW => ⟨⟨0, (), rfl, rfl, ⟨by rw [ht]; exact hP9, va_K.moved hW.alike hK9, hD9⟩⟩, hS.F ht⟩) hS.2.2 dX10_help_13

set_option maxRecDepth 20000 in
theorem ggX10_mend_X10_goesOn : GoodIn wsX10_mend wsX10_goesOn := goodIn_r _ [51, 52, 53, 54, 55, 56, 57, 58, 59, 60, 61, 62, 63] (by decide +kernel) (by decide +kernel)
set_option maxRecDepth 20000 in
theorem gX10_mend_X10_goesOn : GoodIn wsX10_mend (wsV RX10 78 RX10 yX10_goesOn wsX10_goesOn) := goodIn_app (goodIn_of _ (by decide +kernel)) ggX10_mend_X10_goesOn
set_option maxRecDepth 20000 in
theorem ggX10_mend_X10_onFault : GoodIn wsX10_mend wsX10_onFault := goodIn_r _ [11, 1, 2, 12, 13, 14, 10, 15, 16, 17, 18, 19, 20, 21, 22, 23, 24, 25, 26, 27, 28, 29, 30, 31, 32, 33, 34, 35, 36, 37, 38, 39, 40, 41, 42, 43, 44, 45, 46, 47, 53, 54, 55, 56, 57, 58, 59, 60, 61, 62, 63, 86, 87, 88, 64, 65, 66, 67, 68, 69, 70, 71, 72, 73, 74, 75, 76, 77, 78, 79, 80, 81, 82, 83, 84, 85] (by decide +kernel) (by decide +kernel)
set_option maxRecDepth 20000 in
theorem gX10_mend_X10_onFault : GoodIn wsX10_mend (wsV RX10 298 RX10 yX10_onFault wsX10_onFault) := goodIn_app (goodIn_of _ (by decide +kernel)) ggX10_mend_X10_onFault
theorem dX10_mend_0 : decode cX10_mend 0 = .ok (.aload_n 0, 1) := by decide +kernel
theorem dX10_mend_1 : decode cX10_mend 1 = .ok (.iload_n 1, 1) := by decide +kernel
theorem dX10_mend_2 : decode cX10_mend 2 = .ok (.invokevirtual 298, 3) := by decide +kernel
theorem dX10_mend_5 : decode cX10_mend 5 = .ok (.istore_n 2, 1) := by decide +kernel
theorem dX10_mend_6 : decode cX10_mend 6 = .ok (.iload_n 2, 1) := by decide +kernel
theorem dX10_mend_7 : decode cX10_mend 7 = .ok (.iconst 1, 1) := by decide +kernel
theorem dX10_mend_8 : decode cX10_mend 8 = .ok (.if_icmp .eq 19, 3) := by decide +kernel
theorem dX10_mend_27 : decode cX10_mend 27 = .ok (.aconst_null, 1) := by decide +kernel
theorem dX10_mend_28 : decode cX10_mend 28 = .ok (.astore_n 3, 1) := by decide +kernel
theorem dX10_mend_29 : decode cX10_mend 29 = .ok (.iload_n 2, 1) := by decide +kernel
theorem dX10_mend_30 : decode cX10_mend 30 = .ok (.ifCond .eq 7, 3) := by decide +kernel
theorem dX10_mend_33 : decode cX10_mend 33 = .ok (.iload_n 2, 1) := by decide +kernel
theorem dX10_mend_34 : decode cX10_mend 34 = .ok (.goto 15, 3) := by decide +kernel
theorem dX10_mend_49 : decode cX10_mend 49 = .ok (.istore_n 2, 1) := by decide +kernel
theorem dX10_mend_50 : decode cX10_mend 50 = .ok (.aload_n 3, 1) := by decide +kernel
theorem dX10_mend_51 : decode cX10_mend 51 = .ok (.ifnull 29, 3) := by decide +kernel
theorem dX10_mend_80 : decode cX10_mend 80 = .ok (.aload_n 0, 1) := by decide +kernel
theorem dX10_mend_81 : decode cX10_mend 81 = .ok (.iload_n 2, 1) := by decide +kernel
theorem dX10_mend_82 : decode cX10_mend 82 = .ok (.invokevirtual 78, 3) := by decide +kernel
theorem dX10_mend_85 : decode cX10_mend 85 = .ok (.ifCond .ne 5, 3) := by decide +kernel
theorem dX10_mend_88 : decode cX10_mend 88 = .ok (.iconst 0, 1) := by decide +kernel
theorem dX10_mend_89 : decode cX10_mend 89 = .ok (.ireturn, 1) := by decide +kernel
set_option maxHeartbeats 4000000 in
set_option maxRecDepth 100000 in
theorem c_X10_mend (l : Launch) (htr : l.stackTraces = false) (dC : Nat → ClassId) (dI : Nat → Nat → Nat) (e0 sz : Nat) (h0 : Nat) (th : Int32) (b : Nat → Nat) (p0 : Int32) : Met l yX10_mend wsX10_mend ({ frames := 3, cells := 0, slots := 0, locals := 67 }) (va_Pc [.ref h0, .int p0] (fun U => U.heap.size = sz ∧ va_P (dC, dI) vwCl [(h0, .inr (15, zM th b)), ((b 0), .inr (4, [.int 0, .ref e0, .int 0])), ((b 1), .inr (4, [.int 0, .ref e0, .int 0])), ((b 2), .inr (4, [.int 0, .ref e0, .int 0])), ((b 3), .inr (4, [.int 0, .ref e0, .int 0]))] U.heap ∧ va_K (dC, dI) vwCl [] U ∧ va_D (fun _ => True) [(h0, .inr (15, zM th b)), ((b 0), .inr (4, [.int 0, .ref e0, .int 0])), ((b 1), .inr (4, [.int 0, .ref e0, .int 0])), ((b 2), .inr (4, [.int 0, .ref e0, .int 0])), ((b 3), .inr (4, [.int 0, .ref e0, .int 0]))] ∧ zE e0 (va_A [(h0, .inr (15, zM th b)), ((b 0), .inr (4, [.int 0, .ref e0, .int 0])), ((b 1), .inr (4, [.int 0, .ref e0, .int 0])), ((b 2), .inr (4, [.int 0, .ref e0, .int 0])), ((b 3), .inr (4, [.int 0, .ref e0, .int 0]))] sz) U U.heap)) (va_Qi (fun (r : Int32) (_ : Unit) => r = 0) (fun _ t => va_P (dC, dI) vwCl [(h0, .inr (15, zM 1 b))] t.heap ∧ va_K (dC, dI) vwCl [] t ∧ va_D (va_A [(h0, .inr (15, zM th b)), ((b 0), .inr (4, [.int 0, .ref e0, .int 0])), ((b 1), .inr (4, [.int 0, .ref e0, .int 0])), ((b 2), .inr (4, [.int 0, .ref e0, .int 0])), ((b 3), .inr (4, [.int 0, .ref e0, .int 0]))] sz) [(h0, .inr (15, zM 1 b))]) (va_A [(h0, .inr (15, zM th b)), ((b 0), .inr (4, [.int 0, .ref e0, .int 0])), ((b 1), .inr (4, [.int 0, .ref e0, .int 0])), ((b 2), .inr (4, [.int 0, .ref e0, .int 0])), ((b 3), .inr (4, [.int 0, .ref e0, .int 0]))] sz)) 0 0 (va_A [(h0, .inr (15, zM th b)), ((b 0), .inr (4, [.int 0, .ref e0, .int 0])), ((b 1), .inr (4, [.int 0, .ref e0, .int 0])), ((b 2), .inr (4, [.int 0, .ref e0, .int 0])), ((b 3), .inr (4, [.int 0, .ref e0, .int 0]))] sz) := by
  refine Met.ofW (cc := cX10_mend) (maxL := 4) (ret := (some .int)) (by decide) rfl ?_
  intro p e s m args below meth c s₁ B hml hv
  obtain ⟨rfl, hsz, hP, hK, hD0, hE⟩ := hv
  have hx := B.exec
  have hb := B.bytes
  have hr := B.returns
  have hts := atoms_spec (ws := wsX10_mend) B.pre
  have hown : s.vm.findClass RX10 = some m.cls := findClass_of_methodNamed B.named
  have hlocks := B.notSynchronized
  subst hsz
  have hD := hD0.self (sz := s.heap.size)
  generalize hAe : va_A [(h0, .inr (15, zM th b)), ((b 0), .inr (4, [.int 0, .ref e0, .int 0])), ((b 1), .inr (4, [.int 0, .ref e0, .int 0])), ((b 2), .inr (4, [.int 0, .ref e0, .int 0])), ((b 3), .inr (4, [.int 0, .ref e0, .int 0]))] s.heap.size = A at hD hE ⊢
  have hA : ∀ q : Nat, s.heap.size ≤ q → A q := fun q h => by rw [← hAe]; exact Or.inr h
  have hS : va_S A s.heap s.heap [] := va_S.rf
  have hl := lv_entry ([.ref h0, .int p0]) (n := 4) (Nat.le_of_ble_eq_true rfl)
  rw [lg_entry_eq]
  generalize (lg_sl ([.ref h0, .int p0]) ++ List.replicate (4 - (lg_sl ([.ref h0, .int p0])).length) Slot.unset).toArray = ls at hl ⊢
  have hl : lv_has ls 4 [(0, .ref h0), (1, .int p0)] := hl
  refine lv_aload_n hx hb dX10_mend_0 rfl (lv_at hl 0 rfl) ?_
  refine lv_iload_n hx hb dX10_mend_1 rfl (lv_at hl 1 rfl) ?_
  have hPc := hP.sub (ws' := [(h0, .inr (15, zM th b)), ((b 2), .inr (4, [.int 0, .ref e0, .int 0]))]) [0, 3] rfl
  have hDc := hD.sub (ws' := [(h0, .inr (15, zM th b)), ((b 2), .inr (4, [.int 0, .ref e0, .int 0]))]) [0, 3] (by decide) rfl
  have hKc := hK.sub (tys' := []) [] rfl
  have hFc := va_free (wc := [(h0, .inr (15, zM th b)), ((b 2), .inr (4, [.int 0, .ref e0, .int 0]))]) hD hS hA [0, 3] rfl
  have hEc := (hE.kept hS.2.1).narrow hFc
  refine va_calli (va_runV (As := [.int p0]) (rest := []) ⟨hx, hb, hml, hown, hts⟩ (c_X10_onFault l htr dC dI e0 s.heap.size h0 th b p0) (cwV 1 hts gX10_mend_X10_onFault rfl rfl rfl (by decide +kernel) ⟨Nat.le_of_ble_eq_true rfl, Nat.le_of_ble_eq_true rfl⟩) ⟨fun a U g mk q => by obtain ⟨q0, q1, qP, qK, qD, qE⟩ := q; exact ⟨q0, q1, qP, va_K.moved (u := U) (U := U.calling g mk a) (Vm.Alike.refl U.vm) qK, qD, zE.same rfl qE⟩, va_recv hKc hPc (ci := 15) (q0 := 0) rfl rfl, fun U hU hW => ⟨rfl, by rw [hU], by rw [hU]; exact hPc, va_K.moved hW.alike hKc, hDc.weaken (fun _ _ _ _ => trivial), by rw [hU]; exact zE.warm hW hEc⟩⟩ rfl rfl hl.1 rfl (lv_room (Nat.le_of_ble_eq_true rfl)) dX10_mend_2 ⟨Nat.le_of_ble_eq_true rfl, Nat.le_of_ble_eq_true rfl⟩) hS (fun q _ h => hFc q h) hFc (fun r1 u t H1 locs ht hvm hw hB hz1 hk1 hS => ?_)
  obtain ⟨hP1, hK1, hD1⟩ := hB
  rw [ht] at hP1
  obtain ⟨hP, hD⟩ := va_join (wr := [((b 0), .inr (4, [.int 0, .ref e0, .int 0])), ((b 1), .inr (4, [.int 0, .ref e0, .int 0])), ((b 3), .inr (4, [.int 0, .ref e0, .int 0]))]) (w1 := [(h0, .inr (15, zM th b)), ((b 2), .inr (4, [.int 0, .ref e0, .int 0]))]) hP hD [0, 3] [1, 2, 4] rfl rfl (by decide) (by decide) hk1 hFc hP1 hD1
  generalize H1 = H at hP hS ⊢
  have hP : va_P (dC, dI) vwCl [((b 0), .inr (4, [.int 0, .ref e0, .int 0])), ((b 1), .inr (4, [.int 0, .ref e0, .int 0])), ((b 3), .inr (4, [.int 0, .ref e0, .int 0])), (h0, .inr (15, zM th b)), ((b 2), .inr (4, [.int 0, .ref e0, .int 0]))] H := hP
  have hD : va_D A [((b 0), .inr (4, [.int 0, .ref e0, .int 0])), ((b 1), .inr (4, [.int 0, .ref e0, .int 0])), ((b 3), .inr (4, [.int 0, .ref e0, .int 0])), (h0, .inr (15, zM th b)), ((b 2), .inr (4, [.int 0, .ref e0, .int 0]))] := hD
  obtain rfl : r1 = 1 := hw
  refine lv_istore_n (lv' := [(2, .int 1), (0, .ref h0), (1, .int p0)]) hx hb dX10_mend_5 rfl hl (by decide) rfl (fun ls hl => ?_)
  refine lv_iload_n hx hb dX10_mend_6 rfl (lv_at hl 0 rfl) ?_
  refine lv_iconst (v := 1) hx hb dX10_mend_7 (by decide) ?_
  refine lv_icmp_eq (tgt := 27) hx hb dX10_mend_8 (by decide) (fun _ => ?_) (fun c2 => absurd (by decide) c2)
  refine lv_null hx hb dX10_mend_27 ?_
  refine lv_astore_nN (lv' := [(3, .null), (2, .int 1), (0, .ref h0), (1, .int p0)]) hx hb dX10_mend_28 rfl hl (by decide) rfl (fun ls hl => ?_)
  refine lv_iload_n hx hb dX10_mend_29 rfl (lv_at hl 1 rfl) ?_
  refine lv_if_eq (tgt := 37) hx hb dX10_mend_30 (by decide) (fun c3 => absurd c3 (by decide)) (fun _ => ?_)
  refine lv_iload_n hx hb dX10_mend_33 rfl (lv_at hl 1 rfl) ?_
  refine lv_goto (tgt := 49) hx hb dX10_mend_34 (by decide) ?_
  refine lv_istore_n (lv' := [(2, .int 1), (3, .null), (0, .ref h0), (1, .int p0)]) hx hb dX10_mend_49 rfl hl (by decide) rfl (fun ls hl => ?_)
  refine lv_aload_nN hx hb dX10_mend_50 rfl (lv_at hl 1 rfl) ?_
  refine lv_ifnullN (tgt := 80) hx hb dX10_mend_51 (by decide) ?_
  refine lv_aload_n hx hb dX10_mend_80 rfl (lv_at hl 2 rfl) ?_
  refine lv_iload_n hx hb dX10_mend_81 rfl (lv_at hl 0 rfl) ?_
  have hPc := hP.sub (ws' := [(h0, .inr (15, zM th b))]) [3] rfl
  have hDc := hD.sub (ws' := [(h0, .inr (15, zM th b))]) [3] (by decide) rfl
  have hKc := hK.sub (tys' := []) [] rfl
  have hFc := va_free (wc := [(h0, .inr (15, zM th b))]) hD hS hA [3] rfl
  refine va_calli (va_runV (As := [.int 1]) (rest := []) ⟨hx, hb, hml, hown, hts⟩ (c_X10_goesOn l htr dC dI e0 H.size h0 th b 1) (cwV 1 hts gX10_mend_X10_goesOn rfl rfl rfl (by decide +kernel) ⟨Nat.le_of_ble_eq_true rfl, Nat.le_of_ble_eq_true rfl⟩) ⟨fun a U g mk q => by obtain ⟨q0, q1, qP, qK, qD⟩ := q; exact ⟨q0, q1, qP, va_K.moved (u := U) (U := U.calling g mk a) (Vm.Alike.refl U.vm) qK, qD⟩, va_recv hKc hPc (ci := 15) (q0 := 0) rfl rfl, fun U hU hW => ⟨rfl, by rw [hU], by rw [hU]; exact hPc, va_K.moved hW.alike hKc, hDc.weaken (fun _ _ _ _ => trivial)⟩⟩ rfl rfl hl.1 rfl (lv_room (Nat.le_of_ble_eq_true rfl)) dX10_mend_82 ⟨Nat.le_of_ble_eq_true rfl, Nat.le_of_ble_eq_true rfl⟩) hS (fun q _ h => hFc q h) hFc (fun r4 u t H1 locs ht hvm hw hB hz1 hk1 hS => ?_)
  obtain ⟨hP1, hK1, hD1⟩ := hB
  rw [ht] at hP1
  obtain ⟨hP, hD⟩ := va_join (wr := [((b 0), .inr (4, [.int 0, .ref e0, .int 0])), ((b 1), .inr (4, [.int 0, .ref e0, .int 0])), ((b 3), .inr (4, [.int 0, .ref e0, .int 0])), ((b 2), .inr (4, [.int 0, .ref e0, .int 0]))]) (w1 := [(h0, .inr (15, zM 1 b))]) hP hD [3] [0, 1, 2, 4] rfl rfl (by decide) (by decide) hk1 hFc hP1 hD1
  generalize H1 = H at hP hS ⊢
  have hP : va_P (dC, dI) vwCl [((b 0), .inr (4, [.int 0, .ref e0, .int 0])), ((b 1), .inr (4, [.int 0, .ref e0, .int 0])), ((b 3), .inr (4, [.int 0, .ref e0, .int 0])), ((b 2), .inr (4, [.int 0, .ref e0, .int 0])), (h0, .inr (15, zM 1 b))] H := hP
  have hD : va_D A [((b 0), .inr (4, [.int 0, .ref e0, .int 0])), ((b 1), .inr (4, [.int 0, .ref e0, .int 0])), ((b 3), .inr (4, [.int 0, .ref e0, .int 0])), ((b 2), .inr (4, [.int 0, .ref e0, .int 0])), (h0, .inr (15, zM 1 b))] := hD
  obtain rfl : r4 = 0 := hw.trans (by decide)
  refine lv_if_ne (tgt := 90) hx hb dX10_mend_85 (by decide) (fun c5 => absurd (by decide) c5) (fun _ => ?_)
  refine lv_iconst (v := 0) hx hb dX10_mend_88 (by decide) ?_
  have hP9 := hP.sub (ws' := [(h0, .inr (15, zM 1 b))]) [4] rfl
  have hD9 := hD.sub (ws' := [(h0, .inr (15, zM 1 b))]) [4] (by decide) rfl
  have hK9 := hK.sub (tys' := []) [] rfl
  exact W.iret (v := 0) hx hb hr (fun t ht hW => ⟨⟨0, (), rfl, rfl, ⟨by rw [ht]; exact hP9, va_K.moved hW.alike hK9, hD9⟩⟩, hS.F ht⟩) hS.2.2 dX10_mend_89

set_option maxRecDepth 20000 in
theorem ggX10_exchange_X10_goesOn : GoodIn wsX10_exchange wsX10_goesOn := goodIn_r _ [47, 48, 49, 50, 51, 52, 53, 54, 55, 56, 57, 58, 59] (by decide +kernel) (by decide +kernel)
set_option maxRecDepth 20000 in
theorem gX10_exchange_X10_goesOn : GoodIn wsX10_exchange (wsV RX10 78 RX10 yX10_goesOn wsX10_goesOn) := goodIn_app (goodIn_of _ (by decide +kernel)) ggX10_exchange_X10_goesOn
set_option maxRecDepth 20000 in
theorem ggX10_exchange_X10_onFault : GoodIn wsX10_exchange wsX10_onFault := goodIn_r _ [7, 1, 2, 8, 9, 10, 6, 11, 12, 13, 14, 15, 16, 17, 18, 19, 20, 21, 22, 23, 24, 25, 26, 27, 28, 29, 30, 31, 32, 33, 34, 35, 36, 37, 38, 39, 40, 41, 42, 43, 49, 50, 51, 52, 53, 54, 55, 56, 57, 58, 59, 82, 83, 84, 60, 61, 62, 63, 64, 65, 66, 67, 68, 69, 70, 71, 72, 73, 74, 75, 76, 77, 78, 79, 80, 81] (by decide +kernel) (by decide +kernel)
set_option maxRecDepth 20000 in
theorem gX10_exchange_X10_onFault : GoodIn wsX10_exchange (wsV RX10 298 RX10 yX10_onFault wsX10_onFault) := goodIn_app (goodIn_of _ (by decide +kernel)) ggX10_exchange_X10_onFault
theorem dX10_exchange_0 : decode cX10_exchange 0 = .ok (.aload_n 0, 1) := by decide +kernel
theorem dX10_exchange_1 : decode cX10_exchange 1 = .ok (.iload_n 1, 1) := by decide +kernel
theorem dX10_exchange_2 : decode cX10_exchange 2 = .ok (.invokevirtual 298, 3) := by decide +kernel
theorem dX10_exchange_5 : decode cX10_exchange 5 = .ok (.istore_n 2, 1) := by decide +kernel
theorem dX10_exchange_6 : decode cX10_exchange 6 = .ok (.iload_n 2, 1) := by decide +kernel
theorem dX10_exchange_7 : decode cX10_exchange 7 = .ok (.iconst 1, 1) := by decide +kernel
theorem dX10_exchange_8 : decode cX10_exchange 8 = .ok (.if_icmp .eq 19, 3) := by decide +kernel
theorem dX10_exchange_27 : decode cX10_exchange 27 = .ok (.aconst_null, 1) := by decide +kernel
theorem dX10_exchange_28 : decode cX10_exchange 28 = .ok (.astore_n 3, 1) := by decide +kernel
theorem dX10_exchange_29 : decode cX10_exchange 29 = .ok (.iload_n 2, 1) := by decide +kernel
theorem dX10_exchange_30 : decode cX10_exchange 30 = .ok (.ifCond .eq 7, 3) := by decide +kernel
theorem dX10_exchange_33 : decode cX10_exchange 33 = .ok (.iload_n 2, 1) := by decide +kernel
theorem dX10_exchange_34 : decode cX10_exchange 34 = .ok (.goto 15, 3) := by decide +kernel
theorem dX10_exchange_49 : decode cX10_exchange 49 = .ok (.istore_n 2, 1) := by decide +kernel
theorem dX10_exchange_50 : decode cX10_exchange 50 = .ok (.aload_n 3, 1) := by decide +kernel
theorem dX10_exchange_51 : decode cX10_exchange 51 = .ok (.ifnull 29, 3) := by decide +kernel
theorem dX10_exchange_80 : decode cX10_exchange 80 = .ok (.aload_n 0, 1) := by decide +kernel
theorem dX10_exchange_81 : decode cX10_exchange 81 = .ok (.iload_n 2, 1) := by decide +kernel
theorem dX10_exchange_82 : decode cX10_exchange 82 = .ok (.invokevirtual 78, 3) := by decide +kernel
theorem dX10_exchange_85 : decode cX10_exchange 85 = .ok (.ifCond .ne 5, 3) := by decide +kernel
theorem dX10_exchange_88 : decode cX10_exchange 88 = .ok (.iconst 0, 1) := by decide +kernel
theorem dX10_exchange_89 : decode cX10_exchange 89 = .ok (.ireturn, 1) := by decide +kernel
set_option maxHeartbeats 4000000 in
set_option maxRecDepth 100000 in
theorem c_X10_exchange (l : Launch) (htr : l.stackTraces = false) (dC : Nat → ClassId) (dI : Nat → Nat → Nat) (e0 sz : Nat) (h0 : Nat) (th : Int32) (b : Nat → Nat) (p0 : Int32) : Met l yX10_exchange wsX10_exchange ({ frames := 3, cells := 0, slots := 0, locals := 67 }) (va_Pc [.ref h0, .int p0] (fun U => U.heap.size = sz ∧ va_P (dC, dI) vwCl [(h0, .inr (15, zM th b)), ((b 0), .inr (4, [.int 0, .ref e0, .int 0])), ((b 1), .inr (4, [.int 0, .ref e0, .int 0])), ((b 2), .inr (4, [.int 0, .ref e0, .int 0])), ((b 3), .inr (4, [.int 0, .ref e0, .int 0]))] U.heap ∧ va_K (dC, dI) vwCl [] U ∧ va_D (fun _ => True) [(h0, .inr (15, zM th b)), ((b 0), .inr (4, [.int 0, .ref e0, .int 0])), ((b 1), .inr (4, [.int 0, .ref e0, .int 0])), ((b 2), .inr (4, [.int 0, .ref e0, .int 0])), ((b 3), .inr (4, [.int 0, .ref e0, .int 0]))] ∧ zE e0 (va_A [(h0, .inr (15, zM th b)), ((b 0), .inr (4, [.int 0, .ref e0, .int 0])), ((b 1), .inr (4, [.int 0, .ref e0, .int 0])), ((b 2), .inr (4, [.int 0, .ref e0, .int 0])), ((b 3), .inr (4, [.int 0, .ref e0, .int 0]))] sz) U U.heap)) (va_Qi (fun (r : Int32) (_ : Unit) => r = 0) (fun _ t => va_P (dC, dI) vwCl [(h0, .inr (15, zM 1 b))] t.heap ∧ va_K (dC, dI) vwCl [] t ∧ va_D (va_A [(h0, .inr (15, zM th b)), ((b 0), .inr (4, [.int 0, .ref e0, .int 0])), ((b 1), .inr (4, [.int 0, .ref e0, .int 0])), ((b 2), .inr (4, [.int 0, .ref e0, .int 0])), ((b 3), .inr (4, [.int 0, .ref e0, .int 0]))] sz) [(h0, .inr (15, zM 1 b))]) (va_A [(h0, .inr (15, zM th b)), ((b 0), .inr (4, [.int 0, .ref e0, .int 0])), ((b 1), .inr (4, [.int 0, .ref e0, .int 0])), ((b 2), .inr (4, [.int 0, .ref e0, .int 0])), ((b 3), .inr (4, [.int 0, .ref e0, .int 0]))] sz)) 0 0 (va_A [(h0, .inr (15, zM th b)), ((b 0), .inr (4, [.int 0, .ref e0, .int 0])), ((b 1), .inr (4, [.int 0, .ref e0, .int 0])), ((b 2), .inr (4, [.int 0, .ref e0, .int 0])), ((b 3), .inr (4, [.int 0, .ref e0, .int 0]))] sz) := by
  refine Met.ofW (cc := cX10_exchange) (maxL := 4) (ret := (some .int)) (by decide) rfl ?_
  intro p e s m args below meth c s₁ B hml hv
  obtain ⟨rfl, hsz, hP, hK, hD0, hE⟩ := hv
  have hx := B.exec
  have hb := B.bytes
  have hr := B.returns
  have hts := atoms_spec (ws := wsX10_exchange) B.pre
  have hown : s.vm.findClass RX10 = some m.cls := findClass_of_methodNamed B.named
  have hlocks := B.notSynchronized
  subst hsz
  have hD := hD0.self (sz := s.heap.size)
  generalize hAe : va_A [(h0, .inr (15, zM th b)), ((b 0), .inr (4, [.int 0, .ref e0, .int 0])), ((b 1), .inr (4, [.int 0, .ref e0, .int 0])), ((b 2), .inr (4, [.int 0, .ref e0, .int 0])), ((b 3), .inr (4, [.int 0, .ref e0, .int 0]))] s.heap.size = A at hD hE ⊢
  have hA : ∀ q : Nat, s.heap.size ≤ q → A q := fun q h => by rw [← hAe]; exact Or.inr h
  have hS : va_S A s.heap s.heap [] := va_S.rf
  have hl := lv_entry ([.ref h0, .int p0]) (n := 4) (Nat.le_of_ble_eq_true rfl)
  rw [lg_entry_eq]
  generalize (lg_sl ([.ref h0, .int p0]) ++ List.replicate (4 - (lg_sl ([.ref h0, .int p0])).length) Slot.unset).toArray = ls at hl ⊢
  have hl : lv_has ls 4 [(0, .ref h0), (1, .int p0)] := hl
  refine lv_aload_n hx hb dX10_exchange_0 rfl (lv_at hl 0 rfl) ?_
  refine lv_iload_n hx hb dX10_exchange_1 rfl (lv_at hl 1 rfl) ?_
  have hPc := hP.sub (ws' := [(h0, .inr (15, zM th b)), ((b 2), .inr (4, [.int 0, .ref e0, .int 0]))]) [0, 3] rfl
  have hDc := hD.sub (ws' := [(h0, .inr (15, zM th b)), ((b 2), .inr (4, [.int 0, .ref e0, .int 0]))]) [0, 3] (by decide) rfl
  have hKc := hK.sub (tys' := []) [] rfl
  have hFc := va_free (wc := [(h0, .inr (15, zM th b)), ((b 2), .inr (4, [.int 0, .ref e0, .int 0]))]) hD hS hA [0, 3] rfl
  have hEc := (hE.kept hS.2.1).narrow hFc
  refine va_calli (va_runV (As := [.int p0]) (rest := []) ⟨hx, hb, hml, hown, hts⟩ (c_X10_onFault l htr dC dI e0 s.heap.size h0 th b p0) (cwV 1 hts gX10_exchange_X10_onFault rfl rfl rfl (by decide +kernel) ⟨Nat.le_of_ble_eq_true rfl, Nat.le_of_ble_eq_true rfl⟩) ⟨fun a U g mk q => by obtain ⟨q0, q1, qP, qK, qD, qE⟩ := q; exact ⟨q0, q1, qP, va_K.moved (u := U) (U := U.calling g mk a) (Vm.Alike.refl U.vm) qK, qD, zE.same rfl qE⟩, va_recv hKc hPc (ci := 15) (q0 := 0) rfl rfl, fun U hU hW => ⟨rfl, by rw [hU], by rw [hU]; exact hPc, va_K.moved hW.alike hKc, hDc.weaken (fun _ _ _ _ => trivial), by rw [hU]; exact zE.warm hW hEc⟩⟩ rfl rfl hl.1 rfl (lv_room (Nat.le_of_ble_eq_true rfl)) dX10_exchange_2 ⟨Nat.le_of_ble_eq_true rfl, Nat.le_of_ble_eq_true rfl⟩) hS (fun q _ h => hFc q h) hFc (fun r1 u t H1 locs ht hvm hw hB hz1 hk1 hS => ?_)
  obtain ⟨hP1, hK1, hD1⟩ := hB
  rw [ht] at hP1
  obtain ⟨hP, hD⟩ := va_join (wr := [((b 0), .inr (4, [.int 0, .ref e0, .int 0])), ((b 1), .inr (4, [.int 0, .ref e0, .int 0])), ((b 3), .inr (4, [.int 0, .ref e0, .int 0]))]) (w1 := [(h0, .inr (15, zM th b)), ((b 2), .inr (4, [.int 0, .ref e0, .int 0]))]) hP hD [0, 3] [1, 2, 4] rfl rfl (by decide) (by decide) hk1 hFc hP1 hD1
  generalize H1 = H at hP hS ⊢
  have hP : va_P (dC, dI) vwCl [((b 0), .inr (4, [.int 0, .ref e0, .int 0])), ((b 1), .inr (4, [.int 0, .ref e0, .int 0])), ((b 3), .inr (4, [.int 0, .ref e0, .int 0])), (h0, .inr (15, zM th b)), ((b 2), .inr (4, [.int 0, .ref e0, .int 0]))] H := hP
  have hD : va_D A [((b 0), .inr (4, [.int 0, .ref e0, .int 0])), ((b 1), .inr (4, [.int 0, .ref e0, .int 0])), ((b 3), .inr (4, [.int 0, .ref e0, .int 0])), (h0, .inr (15, zM th b)), ((b 2), .inr (4, [.int 0, .ref e0, .int 0]))] := hD
  obtain rfl : r1 = 1 := hw
  refine lv_istore_n (lv' := [(2, .int 1), (0, .ref h0), (1, .int p0)]) hx hb dX10_exchange_5 rfl hl (by decide) rfl (fun ls hl => ?_)
  refine lv_iload_n hx hb dX10_exchange_6 rfl (lv_at hl 0 rfl) ?_
  refine lv_iconst (v := 1) hx hb dX10_exchange_7 (by decide) ?_
  refine lv_icmp_eq (tgt := 27) hx hb dX10_exchange_8 (by decide) (fun _ => ?_) (fun c2 => absurd (by decide) c2)
  refine lv_null hx hb dX10_exchange_27 ?_
  refine lv_astore_nN (lv' := [(3, .null), (2, .int 1), (0, .ref h0), (1, .int p0)]) hx hb dX10_exchange_28 rfl hl (by decide) rfl (fun ls hl => ?_)
  refine lv_iload_n hx hb dX10_exchange_29 rfl (lv_at hl 1 rfl) ?_
  refine lv_if_eq (tgt := 37) hx hb dX10_exchange_30 (by decide) (fun c3 => absurd c3 (by decide)) (fun _ => ?_)
  refine lv_iload_n hx hb dX10_exchange_33 rfl (lv_at hl 1 rfl) ?_
  refine lv_goto (tgt := 49) hx hb dX10_exchange_34 (by decide) ?_
  refine lv_istore_n (lv' := [(2, .int 1), (3, .null), (0, .ref h0), (1, .int p0)]) hx hb dX10_exchange_49 rfl hl (by decide) rfl (fun ls hl => ?_)
  refine lv_aload_nN hx hb dX10_exchange_50 rfl (lv_at hl 1 rfl) ?_
  refine lv_ifnullN (tgt := 80) hx hb dX10_exchange_51 (by decide) ?_
  refine lv_aload_n hx hb dX10_exchange_80 rfl (lv_at hl 2 rfl) ?_
  refine lv_iload_n hx hb dX10_exchange_81 rfl (lv_at hl 0 rfl) ?_
  have hPc := hP.sub (ws' := [(h0, .inr (15, zM th b))]) [3] rfl
  have hDc := hD.sub (ws' := [(h0, .inr (15, zM th b))]) [3] (by decide) rfl
  have hKc := hK.sub (tys' := []) [] rfl
  have hFc := va_free (wc := [(h0, .inr (15, zM th b))]) hD hS hA [3] rfl
  refine va_calli (va_runV (As := [.int 1]) (rest := []) ⟨hx, hb, hml, hown, hts⟩ (c_X10_goesOn l htr dC dI e0 H.size h0 th b 1) (cwV 1 hts gX10_exchange_X10_goesOn rfl rfl rfl (by decide +kernel) ⟨Nat.le_of_ble_eq_true rfl, Nat.le_of_ble_eq_true rfl⟩) ⟨fun a U g mk q => by obtain ⟨q0, q1, qP, qK, qD⟩ := q; exact ⟨q0, q1, qP, va_K.moved (u := U) (U := U.calling g mk a) (Vm.Alike.refl U.vm) qK, qD⟩, va_recv hKc hPc (ci := 15) (q0 := 0) rfl rfl, fun U hU hW => ⟨rfl, by rw [hU], by rw [hU]; exact hPc, va_K.moved hW.alike hKc, hDc.weaken (fun _ _ _ _ => trivial)⟩⟩ rfl rfl hl.1 rfl (lv_room (Nat.le_of_ble_eq_true rfl)) dX10_exchange_82 ⟨Nat.le_of_ble_eq_true rfl, Nat.le_of_ble_eq_true rfl⟩) hS (fun q _ h => hFc q h) hFc (fun r4 u t H1 locs ht hvm hw hB hz1 hk1 hS => ?_)
  obtain ⟨hP1, hK1, hD1⟩ := hB
  rw [ht] at hP1
  obtain ⟨hP, hD⟩ := va_join (wr := [((b 0), .inr (4, [.int 0, .ref e0, .int 0])), ((b 1), .inr (4, [.int 0, .ref e0, .int 0])), ((b 3), .inr (4, [.int 0, .ref e0, .int 0])), ((b 2), .inr (4, [.int 0, .ref e0, .int 0]))]) (w1 := [(h0, .inr (15, zM 1 b))]) hP hD [3] [0, 1, 2, 4] rfl rfl (by decide) (by decide) hk1 hFc hP1 hD1
  generalize H1 = H at hP hS ⊢
  have hP : va_P (dC, dI) vwCl [((b 0), .inr (4, [.int 0, .ref e0, .int 0])), ((b 1), .inr (4, [.int 0, .ref e0, .int 0])), ((b 3), .inr (4, [.int 0, .ref e0, .int 0])), ((b 2), .inr (4, [.int 0, .ref e0, .int 0])), (h0, .inr (15, zM 1 b))] H := hP
  have hD : va_D A [((b 0), .inr (4, [.int 0, .ref e0, .int 0])), ((b 1), .inr (4, [.int 0, .ref e0, .int 0])), ((b 3), .inr (4, [.int 0, .ref e0, .int 0])), ((b 2), .inr (4, [.int 0, .ref e0, .int 0])), (h0, .inr (15, zM 1 b))] := hD
  obtain rfl : r4 = 0 := hw.trans (by decide)
  refine lv_if_ne (tgt := 90) hx hb dX10_exchange_85 (by decide) (fun c5 => absurd (by decide) c5) (fun _ => ?_)
  refine lv_iconst (v := 0) hx hb dX10_exchange_88 (by decide) ?_
  have hP9 := hP.sub (ws' := [(h0, .inr (15, zM 1 b))]) [4] rfl
  have hD9 := hD.sub (ws' := [(h0, .inr (15, zM 1 b))]) [4] (by decide) rfl
  have hK9 := hK.sub (tys' := []) [] rfl
  exact W.iret (v := 0) hx hb hr (fun t ht hW => ⟨⟨0, (), rfl, rfl, ⟨by rw [ht]; exact hP9, va_K.moved hW.alike hK9, hD9⟩⟩, hS.F ht⟩) hS.2.2 dX10_exchange_89

set_option maxRecDepth 20000 in
theorem ggX10_estimate_X10_goesOn : GoodIn wsX10_estimate wsX10_goesOn := goodIn_r _ [47, 48, 120, 121, 122, 123, 124, 125, 126, 127, 128, 129, 130] (by decide +kernel) (by decide +kernel)
set_option maxRecDepth 20000 in
theorem gX10_estimate_X10_goesOn : GoodIn wsX10_estimate (wsV RX10 78 RX10 yX10_goesOn wsX10_goesOn) := goodIn_app (goodIn_of _ (by decide +kernel)) ggX10_estimate_X10_goesOn
set_option maxRecDepth 20000 in
theorem ggX10_estimate_X10_onFault : GoodIn wsX10_estimate wsX10_onFault := goodIn_r _ [7, 1, 2, 8, 9, 10, 6, 11, 12, 13, 14, 15, 16, 17, 18, 19, 20, 21, 22, 23, 24, 25, 26, 27, 28, 29, 30, 31, 32, 33, 34, 35, 36, 37, 38, 39, 40, 41, 42, 43, 120, 121, 122, 123, 124, 125, 126, 127, 128, 129, 130, 131, 132, 133, 134, 135, 136, 137, 138, 139, 140, 141, 142, 143, 144, 145, 146, 147, 148, 149, 150, 151, 152, 153, 154, 155] (by decide +kernel) (by decide +kernel)
set_option maxRecDepth 20000 in
theorem gX10_estimate_X10_onFault : GoodIn wsX10_estimate (wsV RX10 298 RX10 yX10_onFault wsX10_onFault) := goodIn_app (goodIn_of _ (by decide +kernel)) ggX10_estimate_X10_onFault
theorem dX10_estimate_0 : decode cX10_estimate 0 = .ok (.aload_n 0, 1) := by decide +kernel
theorem dX10_estimate_1 : decode cX10_estimate 1 = .ok (.aload_n 0, 1) := by decide +kernel
theorem dX10_estimate_2 : decode cX10_estimate 2 = .ok (.iload_n 1, 1) := by decide +kernel
theorem dX10_estimate_3 : decode cX10_estimate 3 = .ok (.invokevirtual 298, 3) := by decide +kernel
theorem dX10_estimate_6 : decode cX10_estimate 6 = .ok (.invokevirtual 78, 3) := by decide +kernel
theorem dX10_estimate_9 : decode cX10_estimate 9 = .ok (.ifCond .eq 23, 3) := by decide +kernel
theorem dX10_estimate_32 : decode cX10_estimate 32 = .ok (.iconst 0, 1) := by decide +kernel
theorem dX10_estimate_33 : decode cX10_estimate 33 = .ok (.ireturn, 1) := by decide +kernel
set_option maxHeartbeats 4000000 in
set_option maxRecDepth 100000 in
theorem c_X10_estimate (l : Launch) (htr : l.stackTraces = false) (dC : Nat → ClassId) (dI : Nat → Nat → Nat) (e0 sz : Nat) (h0 : Nat) (th : Int32) (b : Nat → Nat) (p0 : Int32) : Met l yX10_estimate wsX10_estimate ({ frames := 3, cells := 0, slots := 0, locals := 67 }) (va_Pc [.ref h0, .int p0] (fun U => U.heap.size = sz ∧ va_P (dC, dI) vwCl [(h0, .inr (15, zM th b)), ((b 0), .inr (4, [.int 0, .ref e0, .int 0])), ((b 1), .inr (4, [.int 0, .ref e0, .int 0])), ((b 2), .inr (4, [.int 0, .ref e0, .int 0])), ((b 3), .inr (4, [.int 0, .ref e0, .int 0]))] U.heap ∧ va_K (dC, dI) vwCl [] U ∧ va_D (fun _ => True) [(h0, .inr (15, zM th b)), ((b 0), .inr (4, [.int 0, .ref e0, .int 0])), ((b 1), .inr (4, [.int 0, .ref e0, .int 0])), ((b 2), .inr (4, [.int 0, .ref e0, .int 0])), ((b 3), .inr (4, [.int 0, .ref e0, .int 0]))] ∧ zE e0 (va_A [(h0, .inr (15, zM th b)), ((b 0), .inr (4, [.int 0, .ref e0, .int 0])), ((b 1), .inr (4, [.int 0, .ref e0, .int 0])), ((b 2), .inr (4, [.int 0, .ref e0, .int 0])), ((b 3), .inr (4, [.int 0, .ref e0, .int 0]))] sz) U U.heap)) (va_Qi (fun (r : Int32) (_ : Unit) => r = 0) (fun _ t => va_P (dC, dI) vwCl [(h0, .inr (15, zM 1 b))] t.heap ∧ va_K (dC, dI) vwCl [] t ∧ va_D (va_A [(h0, .inr (15, zM th b)), ((b 0), .inr (4, [.int 0, .ref e0, .int 0])), ((b 1), .inr (4, [.int 0, .ref e0, .int 0])), ((b 2), .inr (4, [.int 0, .ref e0, .int 0])), ((b 3), .inr (4, [.int 0, .ref e0, .int 0]))] sz) [(h0, .inr (15, zM 1 b))]) (va_A [(h0, .inr (15, zM th b)), ((b 0), .inr (4, [.int 0, .ref e0, .int 0])), ((b 1), .inr (4, [.int 0, .ref e0, .int 0])), ((b 2), .inr (4, [.int 0, .ref e0, .int 0])), ((b 3), .inr (4, [.int 0, .ref e0, .int 0]))] sz)) 0 0 (va_A [(h0, .inr (15, zM th b)), ((b 0), .inr (4, [.int 0, .ref e0, .int 0])), ((b 1), .inr (4, [.int 0, .ref e0, .int 0])), ((b 2), .inr (4, [.int 0, .ref e0, .int 0])), ((b 3), .inr (4, [.int 0, .ref e0, .int 0]))] sz) := by
  refine Met.ofW (cc := cX10_estimate) (maxL := 2) (ret := (some .int)) (by decide) rfl ?_
  intro p e s m args below meth c s₁ B hml hv
  obtain ⟨rfl, hsz, hP, hK, hD0, hE⟩ := hv
  have hx := B.exec
  have hb := B.bytes
  have hr := B.returns
  have hts := atoms_spec (ws := wsX10_estimate) B.pre
  have hown : s.vm.findClass RX10 = some m.cls := findClass_of_methodNamed B.named
  have hlocks := B.notSynchronized
  subst hsz
  have hD := hD0.self (sz := s.heap.size)
  generalize hAe : va_A [(h0, .inr (15, zM th b)), ((b 0), .inr (4, [.int 0, .ref e0, .int 0])), ((b 1), .inr (4, [.int 0, .ref e0, .int 0])), ((b 2), .inr (4, [.int 0, .ref e0, .int 0])), ((b 3), .inr (4, [.int 0, .ref e0, .int 0]))] s.heap.size = A at hD hE ⊢
  have hA : ∀ q : Nat, s.heap.size ≤ q → A q := fun q h => by rw [← hAe]; exact Or.inr h
  have hS : va_S A s.heap s.heap [] := va_S.rf
  have hl := lv_entry ([.ref h0, .int p0]) (n := 2) (Nat.le_of_ble_eq_true rfl)
  rw [lg_entry_eq]
  generalize (lg_sl ([.ref h0, .int p0]) ++ List.replicate (2 - (lg_sl ([.ref h0, .int p0])).length) Slot.unset).toArray = ls at hl ⊢
  have hl : lv_has ls 2 [(0, .ref h0), (1, .int p0)] := hl
  refine lv_aload_n hx hb dX10_estimate_0 rfl (lv_at hl 0 rfl) ?_
  refine lv_aload_n hx hb dX10_estimate_1 rfl (lv_at hl 0 rfl) ?_
  refine lv_iload_n hx hb dX10_estimate_2 rfl (lv_at hl 1 rfl) ?_
  have hPc := hP.sub (ws' := [(h0, .inr (15, zM th b)), ((b 2), .inr (4, [.int 0, .ref e0, .int 0]))]) [0, 3] rfl
  have hDc := hD.sub (ws' := [(h0, .inr (15, zM th b)), ((b 2), .inr (4, [.int 0, .ref e0, .int 0]))]) [0, 3] (by decide) rfl
  have hKc := hK.sub (tys' := []) [] rfl
  have hFc := va_free (wc := [(h0, .inr (15, zM th b)), ((b 2), .inr (4, [.int 0, .ref e0, .int 0]))]) hD hS hA [0, 3] rfl
  have hEc := (hE.kept hS.2.1).narrow hFc
  refine va_calli (va_runV (As := [.int p0]) (rest := [.ref h0]) ⟨hx, hb, hml, hown, hts⟩ (c_X10_onFault l htr dC dI e0 s.heap.size h0 th b p0) (cwV 1 hts gX10_estimate_X10_onFault rfl rfl rfl (by decide +kernel) ⟨Nat.le_of_ble_eq_true rfl, Nat.le_of_ble_eq_true rfl⟩) ⟨fun a U g mk q => by obtain ⟨q0, q1, qP, qK, qD, qE⟩ := q; exact ⟨q0, q1, qP, va_K.moved (u := U) (U := U.calling g mk a) (Vm.Alike.refl U.vm) qK, qD, zE.same rfl qE⟩, va_recv hKc hPc (ci := 15) (q0 := 0) rfl rfl, fun U hU hW => ⟨rfl, by rw [hU], by rw [hU]; exact hPc, va_K.moved hW.alike hKc, hDc.weaken (fun _ _ _ _ => trivial), by rw [hU]; exact zE.warm hW hEc⟩⟩ rfl rfl hl.1 rfl (lv_room (Nat.le_of_ble_eq_true rfl)) dX10_estimate_3 ⟨Nat.le_of_ble_eq_true rfl, Nat.le_of_ble_eq_true rfl⟩) hS (fun q _ h => hFc q h) hFc (fun r1 u t H1 locs ht hvm hw hB hz1 hk1 hS => ?_)
  obtain ⟨hP1, hK1, hD1⟩ := hB
  rw [ht] at hP1
  obtain ⟨hP, hD⟩ := va_join (wr := [((b 0), .inr (4, [.int 0, .ref e0, .int 0])), ((b 1), .inr (4, [.int 0, .ref e0, .int 0])), ((b 3), .inr (4, [.int 0, .ref e0, .int 0]))]) (w1 := [(h0, .inr (15, zM th b)), ((b 2), .inr (4, [.int 0, .ref e0, .int 0]))]) hP hD [0, 3] [1, 2, 4] rfl rfl (by decide) (by decide) hk1 hFc hP1 hD1
  generalize H1 = H at hP hS ⊢
  have hP : va_P (dC, dI) vwCl [((b 0), .inr (4, [.int 0, .ref e0, .int 0])), ((b 1), .inr (4, [.int 0, .ref e0, .int 0])), ((b 3), .inr (4, [.int 0, .ref e0, .int 0])), (h0, .inr (15, zM th b)), ((b 2), .inr (4, [.int 0, .ref e0, .int 0]))] H := hP
  have hD : va_D A [((b 0), .inr (4, [.int 0, .ref e0, .int 0])), ((b 1), .inr (4, [.int 0, .ref e0, .int 0])), ((b 3), .inr (4, [.int 0, .ref e0, .int 0])), (h0, .inr (15, zM th b)), ((b 2), .inr (4, [.int 0, .ref e0, .int 0]))] := hD
  obtain rfl : r1 = 1 := hw
  have hPc := hP.sub (ws' := [(h0, .inr (15, zM th b))]) [3] rfl
  have hDc := hD.sub (ws' := [(h0, .inr (15, zM th b))]) [3] (by decide) rfl
  have hKc := hK.sub (tys' := []) [] rfl
  have hFc := va_free (wc := [(h0, .inr (15, zM th b))]) hD hS hA [3] rfl
  refine va_calli (va_runV (As := [.int 1]) (rest := []) ⟨hx, hb, hml, hown, hts⟩ (c_X10_goesOn l htr dC dI e0 H.size h0 th b 1) (cwV 1 hts gX10_estimate_X10_goesOn rfl rfl rfl (by decide +kernel) ⟨Nat.le_of_ble_eq_true rfl, Nat.le_of_ble_eq_true rfl⟩) ⟨fun a U g mk q => by obtain ⟨q0, q1, qP, qK, qD⟩ := q; exact ⟨q0, q1, qP, va_K.moved (u := U) (U := U.calling g mk a) (Vm.Alike.refl U.vm) qK, qD⟩, va_recv hKc hPc (ci := 15) (q0 := 0) rfl rfl, fun U hU hW => ⟨rfl, by rw [hU], by rw [hU]; exact hPc, va_K.moved hW.alike hKc, hDc.weaken (fun _ _ _ _ => trivial)⟩⟩ rfl rfl hl.1 rfl (lv_room (Nat.le_of_ble_eq_true rfl)) dX10_estimate_6 ⟨Nat.le_of_ble_eq_true rfl, Nat.le_of_ble_eq_true rfl⟩) hS (fun q _ h => hFc q h) hFc (fun r2 u t H1 locs ht hvm hw hB hz1 hk1 hS => ?_)
  obtain ⟨hP1, hK1, hD1⟩ := hB
  rw [ht] at hP1
  obtain ⟨hP, hD⟩ := va_join (wr := [((b 0), .inr (4, [.int 0, .ref e0, .int 0])), ((b 1), .inr (4, [.int 0, .ref e0, .int 0])), ((b 3), .inr (4, [.int 0, .ref e0, .int 0])), ((b 2), .inr (4, [.int 0, .ref e0, .int 0]))]) (w1 := [(h0, .inr (15, zM 1 b))]) hP hD [3] [0, 1, 2, 4] rfl rfl (by decide) (by decide) hk1 hFc hP1 hD1
  generalize H1 = H at hP hS ⊢
  have hP : va_P (dC, dI) vwCl [((b 0), .inr (4, [.int 0, .ref e0, .int 0])), ((b 1), .inr (4, [.int 0, .ref e0, .int 0])), ((b 3), .inr (4, [.int 0, .ref e0, .int 0])), ((b 2), .inr (4, [.int 0, .ref e0, .int 0])), (h0, .inr (15, zM 1 b))] H := hP
  have hD : va_D A [((b 0), .inr (4, [.int 0, .ref e0, .int 0])), ((b 1), .inr (4, [.int 0, .ref e0, .int 0])), ((b 3), .inr (4, [.int 0, .ref e0, .int 0])), ((b 2), .inr (4, [.int 0, .ref e0, .int 0])), (h0, .inr (15, zM 1 b))] := hD
  obtain rfl : r2 = 0 := hw.trans (by decide)
  refine lv_if_eq (tgt := 32) hx hb dX10_estimate_9 (by decide) (fun _ => ?_) (fun c3 => absurd (by decide) c3)
  refine lv_iconst (v := 0) hx hb dX10_estimate_32 (by decide) ?_
  have hP9 := hP.sub (ws' := [(h0, .inr (15, zM 1 b))]) [4] rfl
  have hD9 := hD.sub (ws' := [(h0, .inr (15, zM 1 b))]) [4] (by decide) rfl
  have hK9 := hK.sub (tys' := []) [] rfl
  exact W.iret (v := 0) hx hb hr (fun t ht hW => ⟨⟨0, (), rfl, rfl, ⟨by rw [ht]; exact hP9, va_K.moved hW.alike hK9, hD9⟩⟩, hS.F ht⟩) hS.2.2 dX10_estimate_33
