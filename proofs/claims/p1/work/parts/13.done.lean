theorem zx_pos {P : Prop} [Decidable P] {r : Int32} (h : r = (if P then 1 else 0)) (c : ¬ r = 0) : P := by
  by_cases q : P
  · exact q
  · exact absurd (h.trans (if_neg q)) c
theorem dX10_thrown_0 : decode cX10_thrown 0 = .ok (.aload_n 0, 1) := by decide +kernel
theorem dX10_thrown_1 : decode cX10_thrown 1 = .ok (.getfield 25, 3) := by decide +kernel
theorem dX10_thrown_4 : decode cX10_thrown 4 = .ok (.ireturn, 1) := by decide +kernel
set_option maxHeartbeats 4000000 in
set_option maxRecDepth 100000 in
theorem c_X10_thrown (l : Launch) (htr : l.stackTraces = false) (dC : Nat → ClassId) (dI : Nat → Nat → Nat) (e0 sz : Nat) (h0 : Nat) (th : Int32) (x1 : Nat) (x2 : Nat) (x3 : Nat) (x4 : Nat) (y5 : Int32) (y6 : Int64) (y7 : Int32) (y8 : Int32) (y9 : Int32) (y10 : Int32) : Met l yX10_thrown wsX10_thrown ({ frames := 0, cells := 0, slots := 0, locals := 0 }) (va_Pc [.ref h0] (fun U => U.heap.size = sz ∧ va_P (dC, dI) vwCl [(h0, .inr (15, [.int th, .ref x1, .ref x2, .ref x3, .ref x4, .int y5, .long y6, .int y7, .int y8, .int y9, .int y10]))] U.heap ∧ va_K (dC, dI) vwCl [] U ∧ va_D (fun _ => True) [(h0, .inr (15, [.int th, .ref x1, .ref x2, .ref x3, .ref x4, .int y5, .long y6, .int y7, .int y8, .int y9, .int y10]))])) (va_Qi (fun (r : Int32) (_ : Unit) => r = th) (fun _ t => va_P (dC, dI) vwCl [(h0, .inr (15, [.int th, .ref x1, .ref x2, .ref x3, .ref x4, .int y5, .long y6, .int y7, .int y8, .int y9, .int y10]))] t.heap ∧ va_K (dC, dI) vwCl [] t ∧ va_D (va_A [(h0, .inr (15, [.int th, .ref x1, .ref x2, .ref x3, .ref x4, .int y5, .long y6, .int y7, .int y8, .int y9, .int y10]))] sz) [(h0, .inr (15, [.int th, .ref x1, .ref x2, .ref x3, .ref x4, .int y5, .long y6, .int y7, .int y8, .int y9, .int y10]))]) (va_A [(h0, .inr (15, [.int th, .ref x1, .ref x2, .ref x3, .ref x4, .int y5, .long y6, .int y7, .int y8, .int y9, .int y10]))] sz)) 0 0 (va_A [(h0, .inr (15, [.int th, .ref x1, .ref x2, .ref x3, .ref x4, .int y5, .long y6, .int y7, .int y8, .int y9, .int y10]))] sz) := by
  refine Met.ofW (cc := cX10_thrown) (maxL := 1) (ret := (some .int)) (by decide) rfl ?_
  intro p e s m args below meth c s₁ B hml hv
  obtain ⟨rfl, hsz, hP, hK, hD0⟩ := hv
  have hx := B.exec
  have hb := B.bytes
  have hr := B.returns
  have hts := atoms_spec (ws := wsX10_thrown) B.pre
  have hown : s.vm.findClass RX10 = some m.cls := findClass_of_methodNamed B.named
  have hlocks := B.notSynchronized
  subst hsz
  have hD := hD0.self (sz := s.heap.size)
  generalize hAe : va_A [(h0, .inr (15, [.int th, .ref x1, .ref x2, .ref x3, .ref x4, .int y5, .long y6, .int y7, .int y8, .int y9, .int y10]))] s.heap.size = A at hD ⊢
  have hA : ∀ q : Nat, s.heap.size ≤ q → A q := fun q h => by rw [← hAe]; exact Or.inr h
  have hS : va_S A s.heap s.heap [] := va_S.rf
  have hl := lv_entry ([.ref h0]) (n := 1) (Nat.le_of_ble_eq_true rfl)
  rw [lg_entry_eq]
  generalize (lg_sl ([.ref h0]) ++ List.replicate (1 - (lg_sl ([.ref h0])).length) Slot.unset).toArray = ls at hl ⊢
  have hl : lv_has ls 1 [(0, .ref h0)] := hl
  refine lv_aload_n hx hb dX10_thrown_0 rfl (lv_at hl 0 rfl) ?_
  refine va_get (D := (dC, dI)) (ci := 15) (v := .int th) (C := RX10) (T := TX10) (N := 11) hx hb hts (by decide +kernel) hown hK hP 0 rfl rfl 0 (by decide) (hts (.fieldLink RX10 25 "GanglineModel" "thrown" "I") (by decide +kernel)) (fun _ h9 => h9) rfl dX10_thrown_1 ?_
  have hP9 := hP.sub (ws' := [(h0, .inr (15, [.int th, .ref x1, .ref x2, .ref x3, .ref x4, .int y5, .long y6, .int y7, .int y8, .int y9, .int y10]))]) [0] rfl
  have hD9 := hD.sub (ws' := [(h0, .inr (15, [.int th, .ref x1, .ref x2, .ref x3, .ref x4, .int y5, .long y6, .int y7, .int y8, .int y9, .int y10]))]) [0] (by decide) rfl
  have hK9 := hK.sub (tys' := []) [] rfl
  exact W.iret (v := th) hx hb hr (fun t ht hW => ⟨⟨th, (), rfl, rfl, ⟨by rw [ht]; exact hP9, va_K.moved hW.alike hK9, hD9⟩⟩, hS.F ht⟩) hS.2.2 dX10_thrown_4

set_option maxRecDepth 20000 in
theorem ggX10_leg_Jx4a65c_add_9ea2d : GoodIn wsX10_leg wsJx4a65c_add_9ea2d := goodIn_r _ [79, 80, 36, 81, 62, 82, 83, 84, 22, 85, 86, 87, 88, 89, 90, 91, 92, 93, 94, 95, 96, 97, 98, 99, 100, 101, 102, 103, 104, 105, 106, 107, 108, 109, 110, 111, 112, 113, 114, 115, 116, 117, 118, 119, 120, 121, 122, 123, 124, 125, 126, 127, 128, 149, 150, 151] (by decide +kernel) (by decide +kernel)
set_option maxRecDepth 20000 in
theorem gX10_leg_Jx4a65c_add_9ea2d_f87Jx4a65c : GoodIn wsX10_leg (va_wsF RX10 87 RJx4a65c ⟨"java/util/List", "add", "(Ljava/lang/Object;)Z"⟩ yJx4a65c_add_9ea2d wsJx4a65c_add_9ea2d) := goodIn_app (goodIn_of _ (by decide +kernel)) ggX10_leg_Jx4a65c_add_9ea2d
set_option maxRecDepth 20000 in
theorem ggX10_leg_Jx4a65c_size_8abf5 : GoodIn wsX10_leg wsJx4a65c_size_8abf5 := goodIn_r _ [61, 62, 149, 150, 151] (by decide +kernel) (by decide +kernel)
set_option maxRecDepth 20000 in
theorem gX10_leg_Jx4a65c_size_8abf5_f59Jx4a65c : GoodIn wsX10_leg (va_wsF RX10 59 RJx4a65c ⟨"java/util/List", "size", "()I"⟩ yJx4a65c_size_8abf5 wsJx4a65c_size_8abf5) := goodIn_app (goodIn_of _ (by decide +kernel)) ggX10_leg_Jx4a65c_size_8abf5
set_option maxRecDepth 20000 in
theorem ggX10_leg_X10_goesOn : GoodIn wsX10_leg wsX10_goesOn := goodIn_r _ [66, 67, 129, 130, 131, 132, 133, 134, 135, 136, 137, 138, 139] (by decide +kernel) (by decide +kernel)
set_option maxRecDepth 20000 in
theorem gX10_leg_X10_goesOn : GoodIn wsX10_leg (wsV RX10 78 RX10 yX10_goesOn wsX10_goesOn) := goodIn_app (goodIn_of _ (by decide +kernel)) ggX10_leg_X10_goesOn
set_option maxRecDepth 20000 in
theorem ggX10_leg_X10_in : GoodIn wsX10_leg wsX10_in := goodIn_r _ [12] (by decide +kernel) (by decide +kernel)
set_option maxRecDepth 20000 in
theorem gX10_leg_X10_in : GoodIn wsX10_leg (va_wsS RX10 63 yX10_in wsX10_in) := goodIn_app (goodIn_of _ (by decide +kernel)) ggX10_leg_X10_in
set_option maxRecDepth 20000 in
theorem ggX10_leg_X10_isOnWay : GoodIn wsX10_leg wsX10_isOnWay := goodIn_r _ [16, 17, 18, 19, 20, 21, 22, 23, 24, 25, 26, 27, 28, 29, 30, 31, 32, 33, 34, 35, 36, 37, 38, 39, 40, 41, 42, 43, 44, 45, 46, 47, 48, 49, 50, 51, 52, 53, 54, 55, 56, 57, 129, 130, 131, 132, 133, 134, 135, 136, 137, 138, 139, 145, 146, 147, 148, 149, 150, 151, 152, 153, 154, 155, 156, 157, 158, 159, 160, 161, 162, 163, 164, 165, 166, 167, 168, 169, 170, 171, 172, 173] (by decide +kernel) (by decide +kernel)
set_option maxRecDepth 20000 in
theorem gX10_leg_X10_isOnWay : GoodIn wsX10_leg (wsV RX10 75 RX10 yX10_isOnWay wsX10_isOnWay) := goodIn_app (goodIn_of _ (by decide +kernel)) ggX10_leg_X10_isOnWay
set_option maxRecDepth 20000 in
theorem ggX10_leg_X8_init : GoodIn wsX10_leg wsX8_init := goodIn_r _ [70, 71, 32, 33, 72, 73, 74, 75, 140, 141, 142, 143, 144] (by decide +kernel) (by decide +kernel)
set_option maxRecDepth 20000 in
theorem gX10_leg_X8_init : GoodIn wsX10_leg (wsX8_init) := ggX10_leg_X8_init
theorem dX10_leg_0 : decode cX10_leg 0 = .ok (.iload_n 1, 1) := by decide +kernel
theorem dX10_leg_1 : decode cX10_leg 1 = .ok (.i2l, 1) := by decide +kernel
theorem dX10_leg_2 : decode cX10_leg 2 = .ok (.ldc2_w 67, 3) := by decide +kernel
theorem dX10_leg_5 : decode cX10_leg 5 = .ok (.ldc2_w 69, 3) := by decide +kernel
theorem dX10_leg_8 : decode cX10_leg 8 = .ok (.invokestatic 63, 3) := by decide +kernel
theorem dX10_leg_11 : decode cX10_leg 11 = .ok (.ifCond .eq 33, 3) := by decide +kernel
theorem dX10_leg_14 : decode cX10_leg 14 = .ok (.iload_n 2, 1) := by decide +kernel
theorem dX10_leg_15 : decode cX10_leg 15 = .ok (.i2l, 1) := by decide +kernel
theorem dX10_leg_16 : decode cX10_leg 16 = .ok (.lconst 0, 1) := by decide +kernel
theorem dX10_leg_17 : decode cX10_leg 17 = .ok (.ldc2_w 71, 3) := by decide +kernel
theorem dX10_leg_20 : decode cX10_leg 20 = .ok (.invokestatic 63, 3) := by decide +kernel
theorem dX10_leg_23 : decode cX10_leg 23 = .ok (.ifCond .eq 21, 3) := by decide +kernel
theorem dX10_leg_26 : decode cX10_leg 26 = .ok (.iload_n 3, 1) := by decide +kernel
theorem dX10_leg_27 : decode cX10_leg 27 = .ok (.i2l, 1) := by decide +kernel
theorem dX10_leg_28 : decode cX10_leg 28 = .ok (.ldc2_w 73, 3) := by decide +kernel
theorem dX10_leg_31 : decode cX10_leg 31 = .ok (.ldc2_w 71, 3) := by decide +kernel
theorem dX10_leg_34 : decode cX10_leg 34 = .ok (.invokestatic 63, 3) := by decide +kernel
theorem dX10_leg_37 : decode cX10_leg 37 = .ok (.ifCond .eq 7, 3) := by decide +kernel
theorem dX10_leg_40 : decode cX10_leg 40 = .ok (.iconst 1, 1) := by decide +kernel
theorem dX10_leg_41 : decode cX10_leg 41 = .ok (.goto 4, 3) := by decide +kernel
theorem dX10_leg_45 : decode cX10_leg 45 = .ok (.istore 4, 2) := by decide +kernel
theorem dX10_leg_47 : decode cX10_leg 47 = .ok (.aload_n 0, 1) := by decide +kernel
theorem dX10_leg_48 : decode cX10_leg 48 = .ok (.iload 4, 2) := by decide +kernel
theorem dX10_leg_50 : decode cX10_leg 50 = .ok (.ifCond .ne 7, 3) := by decide +kernel
theorem dX10_leg_57 : decode cX10_leg 57 = .ok (.aload_n 0, 1) := by decide +kernel
theorem dX10_leg_58 : decode cX10_leg 58 = .ok (.invokevirtual 75, 3) := by decide +kernel
theorem dX10_leg_61 : decode cX10_leg 61 = .ok (.ifCond .eq 7, 3) := by decide +kernel
theorem dX10_leg_68 : decode cX10_leg 68 = .ok (.aload_n 0, 1) := by decide +kernel
theorem dX10_leg_69 : decode cX10_leg 69 = .ok (.getfield 10, 3) := by decide +kernel
theorem dX10_leg_72 : decode cX10_leg 72 = .ok (.invokeinterface 59 1, 5) := by decide +kernel
theorem dX10_leg_77 : decode cX10_leg 77 = .ok (.bipush 10, 2) := by decide +kernel
theorem dX10_leg_79 : decode cX10_leg 79 = .ok (.if_icmp .ne 7, 3) := by decide +kernel
theorem dX10_leg_86 : decode cX10_leg 86 = .ok (.iconst 0, 1) := by decide +kernel
theorem dX10_leg_87 : decode cX10_leg 87 = .ok (.invokevirtual 78, 3) := by decide +kernel
theorem dX10_leg_90 : decode cX10_leg 90 = .ok (.ifCond .ne 5, 3) := by decide +kernel
theorem dX10_leg_95 : decode cX10_leg 95 = .ok (.aload_n 0, 1) := by decide +kernel
theorem dX10_leg_96 : decode cX10_leg 96 = .ok (.getfield 10, 3) := by decide +kernel
theorem dX10_leg_99 : decode cX10_leg 99 = .ok (.new 82, 3) := by decide +kernel
theorem dX10_leg_102 : decode cX10_leg 102 = .ok (.dup, 1) := by decide +kernel
theorem dX10_leg_103 : decode cX10_leg 103 = .ok (.iload_n 1, 1) := by decide +kernel
theorem dX10_leg_104 : decode cX10_leg 104 = .ok (.iload_n 2, 1) := by decide +kernel
theorem dX10_leg_105 : decode cX10_leg 105 = .ok (.iload_n 3, 1) := by decide +kernel
theorem dX10_leg_106 : decode cX10_leg 106 = .ok (.invokespecial 84, 3) := by decide +kernel
theorem dX10_leg_109 : decode cX10_leg 109 = .ok (.invokeinterface 87 2, 5) := by decide +kernel
theorem dX10_leg_114 : decode cX10_leg 114 = .ok (.pop, 1) := by decide +kernel
theorem dX10_leg_115 : decode cX10_leg 115 = .ok (.aload_n 0, 1) := by decide +kernel
theorem dX10_leg_116 : decode cX10_leg 116 = .ok (.getfield 10, 3) := by decide +kernel
theorem dX10_leg_119 : decode cX10_leg 119 = .ok (.invokeinterface 59 1, 5) := by decide +kernel
theorem dX10_leg_124 : decode cX10_leg 124 = .ok (.iconst 1, 1) := by decide +kernel
theorem dX10_leg_125 : decode cX10_leg 125 = .ok (.isub, 1) := by decide +kernel
theorem dX10_leg_126 : decode cX10_leg 126 = .ok (.ireturn, 1) := by decide +kernel
set_option maxHeartbeats 4000000 in
set_option maxRecDepth 100000 in
theorem c_X10_leg_in (l : Launch) (htr : l.stackTraces = false) (dC : Nat → ClassId) (dI : Nat → Nat → Nat) (e0 sz : Nat) (h0 : Nat) (th : Int32) (b : Nat → Nat) (p0 : Int32) (p1 : Int32) (p2 : Int32) (hin : (5 ≤ (p0).toInt64 ∧ (p0).toInt64 ≤ 120) ∧ (0 ≤ (p1).toInt64 ∧ (p1).toInt64 ≤ 9) ∧ ((-9) ≤ (p2).toInt64 ∧ (p2).toInt64 ≤ 9)) : Met l yX10_leg wsX10_leg ({ frames := 5, cells := 3, slots := 19, locals := 102 }) (va_Pc [.ref h0, .int p0, .int p1, .int p2] (fun U => U.heap.size = sz ∧ va_P (dC, dI) vwCl [(h0, .inr (15, zM th b)), ((b 0), .inr (4, [.int 0, .ref e0, .int 0])), ((b 1), .inr (4, [.int 0, .ref e0, .int 0])), ((b 2), .inr (4, [.int 0, .ref e0, .int 0])), ((b 3), .inr (4, [.int 0, .ref e0, .int 0]))] U.heap ∧ va_K (dC, dI) vwCl [] U ∧ va_D (fun _ => True) [(h0, .inr (15, zM th b)), ((b 0), .inr (4, [.int 0, .ref e0, .int 0])), ((b 1), .inr (4, [.int 0, .ref e0, .int 0])), ((b 2), .inr (4, [.int 0, .ref e0, .int 0])), ((b 3), .inr (4, [.int 0, .ref e0, .int 0]))] ∧ zE e0 (va_A [(h0, .inr (15, zM th b)), ((b 0), .inr (4, [.int 0, .ref e0, .int 0])), ((b 1), .inr (4, [.int 0, .ref e0, .int 0])), ((b 2), .inr (4, [.int 0, .ref e0, .int 0])), ((b 3), .inr (4, [.int 0, .ref e0, .int 0]))] sz) U U.heap)) (va_Qi (fun (r : Int32) (_ : Unit) => r = 0) (fun _ t => va_P (dC, dI) vwCl [(h0, .inr (15, zM 0 b))] t.heap ∧ va_K (dC, dI) vwCl [] t ∧ va_D (va_A [(h0, .inr (15, zM th b)), ((b 0), .inr (4, [.int 0, .ref e0, .int 0])), ((b 1), .inr (4, [.int 0, .ref e0, .int 0])), ((b 2), .inr (4, [.int 0, .ref e0, .int 0])), ((b 3), .inr (4, [.int 0, .ref e0, .int 0]))] sz) [(h0, .inr (15, zM 0 b))]) (va_A [(h0, .inr (15, zM th b)), ((b 0), .inr (4, [.int 0, .ref e0, .int 0])), ((b 1), .inr (4, [.int 0, .ref e0, .int 0])), ((b 2), .inr (4, [.int 0, .ref e0, .int 0])), ((b 3), .inr (4, [.int 0, .ref e0, .int 0]))] sz)) 3 19 (va_A [(h0, .inr (15, zM th b)), ((b 0), .inr (4, [.int 0, .ref e0, .int 0])), ((b 1), .inr (4, [.int 0, .ref e0, .int 0])), ((b 2), .inr (4, [.int 0, .ref e0, .int 0])), ((b 3), .inr (4, [.int 0, .ref e0, .int 0]))] sz) := by
  refine Met.ofW (cc := cX10_leg) (maxL := 5) (ret := (some .int)) (by decide) rfl ?_
  intro p e s m args below meth c s₁ B hml hv
  obtain ⟨rfl, hsz, hP, hK, hD0, hE⟩ := hv
  have hx := B.exec
  have hb := B.bytes
  have hr := B.returns
  have hts := atoms_spec (ws := wsX10_leg) B.pre
  have hown : s.vm.findClass RX10 = some m.cls := findClass_of_methodNamed B.named
  have hlocks := B.notSynchronized
  subst hsz
  have hD := hD0.self (sz := s.heap.size)
  generalize hAe : va_A [(h0, .inr (15, zM th b)), ((b 0), .inr (4, [.int 0, .ref e0, .int 0])), ((b 1), .inr (4, [.int 0, .ref e0, .int 0])), ((b 2), .inr (4, [.int 0, .ref e0, .int 0])), ((b 3), .inr (4, [.int 0, .ref e0, .int 0]))] s.heap.size = A at hD hE ⊢
  have hA : ∀ q : Nat, s.heap.size ≤ q → A q := fun q h => by rw [← hAe]; exact Or.inr h
  have hS : va_S A s.heap s.heap [] := va_S.rf
  have hl := lv_entry ([.ref h0, .int p0, .int p1, .int p2]) (n := 5) (Nat.le_of_ble_eq_true rfl)
  rw [lg_entry_eq]
  generalize (lg_sl ([.ref h0, .int p0, .int p1, .int p2]) ++ List.replicate (5 - (lg_sl ([.ref h0, .int p0, .int p1, .int p2])).length) Slot.unset).toArray = ls at hl ⊢
  have hl : lv_has ls 5 [(0, .ref h0), (1, .int p0), (2, .int p1), (3, .int p2)] := hl
  refine lv_iload_n hx hb dX10_leg_0 rfl (lv_at hl 1 rfl) ?_
  refine lv_i2l (v := (p0).toInt64) hx hb dX10_leg_1 rfl ?_
  refine lv_ldc2 hx hb hown (hts (.constantLong RX10 67 (5)) (by decide +kernel)) dX10_leg_2 ?_
  refine lv_ldc2 hx hb hown (hts (.constantLong RX10 69 (120)) (by decide +kernel)) dX10_leg_5 ?_
  have hPc := hP.sub (ws' := []) [] rfl
  have hDc := hD.sub (ws' := []) [] (by decide) rfl
  have hKc := hK.sub (tys' := []) [] rfl
  have hFc := va_free (wc := []) hD hS hA [] rfl
  refine va_calli (va_runS (As := [.long (p0).toInt64, .long (5), .long (120)]) (rest := []) ⟨hx, hb, hml, hown, hts⟩ (c_X10_in l htr dC dI e0 s.heap.size ((p0).toInt64) (5) (120)) (va_cwS 3 hts gX10_leg_X10_in rfl rfl rfl (by decide +kernel) ⟨Nat.le_of_ble_eq_true rfl, Nat.le_of_ble_eq_true rfl⟩) ⟨fun a U g mk q => by obtain ⟨q0, q1, qP, qK, qD⟩ := q; exact ⟨q0, q1, qP, va_K.moved (u := U) (U := U.calling g mk a) (Vm.Alike.refl U.vm) qK, qD⟩, fun U hU hW => ⟨rfl, by rw [hU], by rw [hU]; exact hPc, va_K.moved hW.alike hKc, hDc.weaken (fun _ _ _ _ => trivial)⟩⟩ rfl rfl hl.1 rfl (lv_room (Nat.le_of_ble_eq_true rfl)) dX10_leg_8 ⟨Nat.le_of_ble_eq_true rfl, Nat.le_of_ble_eq_true rfl⟩) hS (fun q _ h => hFc q h) hFc (fun r1 u t H1 locs ht hvm hw hB hz1 hk1 hS => ?_)
  have hP1 : va_P (dC, dI) vwCl [] H1 := fun k q h => by simp at h
  have hD1 : va_D (va_A [] s.heap.size) [] := ⟨fun i j p q h => by simp at h, fun k q h => by simp at h⟩
  obtain ⟨hP, hD⟩ := va_join (wr := [(h0, .inr (15, zM th b)), ((b 0), .inr (4, [.int 0, .ref e0, .int 0])), ((b 1), .inr (4, [.int 0, .ref e0, .int 0])), ((b 2), .inr (4, [.int 0, .ref e0, .int 0])), ((b 3), .inr (4, [.int 0, .ref e0, .int 0]))]) (w1 := []) hP hD [] [0, 1, 2, 3, 4] rfl rfl (by decide) (by decide) hk1 hFc hP1 hD1
  generalize H1 = H at hP hS ⊢
  have hP : va_P (dC, dI) vwCl [(h0, .inr (15, zM th b)), ((b 0), .inr (4, [.int 0, .ref e0, .int 0])), ((b 1), .inr (4, [.int 0, .ref e0, .int 0])), ((b 2), .inr (4, [.int 0, .ref e0, .int 0])), ((b 3), .inr (4, [.int 0, .ref e0, .int 0]))] H := hP
  have hD : va_D A [(h0, .inr (15, zM th b)), ((b 0), .inr (4, [.int 0, .ref e0, .int 0])), ((b 1), .inr (4, [.int 0, .ref e0, .int 0])), ((b 2), .inr (4, [.int 0, .ref e0, .int 0])), ((b 3), .inr (4, [.int 0, .ref e0, .int 0]))] := hD
  obtain rfl : r1 = 1 := hw.trans (if_pos hin.1)
  refine lv_if_eq (tgt := 44) hx hb dX10_leg_11 (by decide) (fun c2 => absurd c2 (by decide)) (fun _ => ?_)
  refine lv_iload_n hx hb dX10_leg_14 rfl (lv_at hl 2 rfl) ?_
  refine lv_i2l (v := (p1).toInt64) hx hb dX10_leg_15 rfl ?_
  refine lv_lconst (v := 0) hx hb dX10_leg_16 (by decide) ?_
  refine lv_ldc2 hx hb hown (hts (.constantLong RX10 71 (9)) (by decide +kernel)) dX10_leg_17 ?_
  have hPc := hP.sub (ws' := []) [] rfl
  have hDc := hD.sub (ws' := []) [] (by decide) rfl
  have hKc := hK.sub (tys' := []) [] rfl
  have hFc := va_free (wc := []) hD hS hA [] rfl
  refine va_calli (va_runS (As := [.long (p1).toInt64, .long 0, .long (9)]) (rest := []) ⟨hx, hb, hml, hown, hts⟩ (c_X10_in l htr dC dI e0 H.size ((p1).toInt64) 0 (9)) (va_cwS 3 hts gX10_leg_X10_in rfl rfl rfl (by decide +kernel) ⟨Nat.le_of_ble_eq_true rfl, Nat.le_of_ble_eq_true rfl⟩) ⟨fun a U g mk q => by obtain ⟨q0, q1, qP, qK, qD⟩ := q; exact ⟨q0, q1, qP, va_K.moved (u := U) (U := U.calling g mk a) (Vm.Alike.refl U.vm) qK, qD⟩, fun U hU hW => ⟨rfl, by rw [hU], by rw [hU]; exact hPc, va_K.moved hW.alike hKc, hDc.weaken (fun _ _ _ _ => trivial)⟩⟩ rfl rfl hl.1 rfl (lv_room (Nat.le_of_ble_eq_true rfl)) dX10_leg_20 ⟨Nat.le_of_ble_eq_true rfl, Nat.le_of_ble_eq_true rfl⟩) hS (fun q _ h => hFc q h) hFc (fun r3 u t H1 locs ht hvm hw hB hz1 hk1 hS => ?_)
  have hP1 : va_P (dC, dI) vwCl [] H1 := fun k q h => by simp at h
  have hD1 : va_D (va_A [] H.size) [] := ⟨fun i j p q h => by simp at h, fun k q h => by simp at h⟩
  obtain ⟨hP, hD⟩ := va_join (wr := [(h0, .inr (15, zM th b)), ((b 0), .inr (4, [.int 0, .ref e0, .int 0])), ((b 1), .inr (4, [.int 0, .ref e0, .int 0])), ((b 2), .inr (4, [.int 0, .ref e0, .int 0])), ((b 3), .inr (4, [.int 0, .ref e0, .int 0]))]) (w1 := []) hP hD [] [0, 1, 2, 3, 4] rfl rfl (by decide) (by decide) hk1 hFc hP1 hD1
  generalize H1 = H at hP hS ⊢
  have hP : va_P (dC, dI) vwCl [(h0, .inr (15, zM th b)), ((b 0), .inr (4, [.int 0, .ref e0, .int 0])), ((b 1), .inr (4, [.int 0, .ref e0, .int 0])), ((b 2), .inr (4, [.int 0, .ref e0, .int 0])), ((b 3), .inr (4, [.int 0, .ref e0, .int 0]))] H := hP
  have hD : va_D A [(h0, .inr (15, zM th b)), ((b 0), .inr (4, [.int 0, .ref e0, .int 0])), ((b 1), .inr (4, [.int 0, .ref e0, .int 0])), ((b 2), .inr (4, [.int 0, .ref e0, .int 0])), ((b 3), .inr (4, [.int 0, .ref e0, .int 0]))] := hD
  obtain rfl : r3 = 1 := hw.trans (if_pos hin.2.1)
  refine lv_if_eq (tgt := 44) hx hb dX10_leg_23 (by decide) (fun c4 => absurd c4 (by decide)) (fun _ => ?_)
  refine lv_iload_n hx hb dX10_leg_26 rfl (lv_at hl 3 rfl) ?_
  refine lv_i2l (v := (p2).toInt64) hx hb dX10_leg_27 rfl ?_
  refine lv_ldc2 hx hb hown (hts (.constantLong RX10 73 (-9)) (by decide +kernel)) dX10_leg_28 ?_
  refine lv_ldc2 hx hb hown (hts (.constantLong RX10 71 (9)) (by decide +kernel)) dX10_leg_31 ?_
  have hPc := hP.sub (ws' := []) [] rfl
  have hDc := hD.sub (ws' := []) [] (by decide) rfl
  have hKc := hK.sub (tys' := []) [] rfl
  have hFc := va_free (wc := []) hD hS hA [] rfl
  refine va_calli (va_runS (As := [.long (p2).toInt64, .long (-9), .long (9)]) (rest := []) ⟨hx, hb, hml, hown, hts⟩ (c_X10_in l htr dC dI e0 H.size ((p2).toInt64) (-9) (9)) (va_cwS 3 hts gX10_leg_X10_in rfl rfl rfl (by decide +kernel) ⟨Nat.le_of_ble_eq_true rfl, Nat.le_of_ble_eq_true rfl⟩) ⟨fun a U g mk q => by obtain ⟨q0, q1, qP, qK, qD⟩ := q; exact ⟨q0, q1, qP, va_K.moved (u := U) (U := U.calling g mk a) (Vm.Alike.refl U.vm) qK, qD⟩, fun U hU hW => ⟨rfl, by rw [hU], by rw [hU]; exact hPc, va_K.moved hW.alike hKc, hDc.weaken (fun _ _ _ _ => trivial)⟩⟩ rfl rfl hl.1 rfl (lv_room (Nat.le_of_ble_eq_true rfl)) dX10_leg_34 ⟨Nat.le_of_ble_eq_true rfl, Nat.le_of_ble_eq_true rfl⟩) hS (fun q _ h => hFc q h) hFc (fun r5 u t H1 locs ht hvm hw hB hz1 hk1 hS => ?_)
  have hP1 : va_P (dC, dI) vwCl [] H1 := fun k q h => by simp at h
  have hD1 : va_D (va_A [] H.size) [] := ⟨fun i j p q h => by simp at h, fun k q h => by simp at h⟩
  obtain ⟨hP, hD⟩ := va_join (wr := [(h0, .inr (15, zM th b)), ((b 0), .inr (4, [.int 0, .ref e0, .int 0])), ((b 1), .inr (4, [.int 0, .ref e0, .int 0])), ((b 2), .inr (4, [.int 0, .ref e0, .int 0])), ((b 3), .inr (4, [.int 0, .ref e0, .int 0]))]) (w1 := []) hP hD [] [0, 1, 2, 3, 4] rfl rfl (by decide) (by decide) hk1 hFc hP1 hD1
  generalize H1 = H at hP hS ⊢
  have hP : va_P (dC, dI) vwCl [(h0, .inr (15, zM th b)), ((b 0), .inr (4, [.int 0, .ref e0, .int 0])), ((b 1), .inr (4, [.int 0, .ref e0, .int 0])), ((b 2), .inr (4, [.int 0, .ref e0, .int 0])), ((b 3), .inr (4, [.int 0, .ref e0, .int 0]))] H := hP
  have hD : va_D A [(h0, .inr (15, zM th b)), ((b 0), .inr (4, [.int 0, .ref e0, .int 0])), ((b 1), .inr (4, [.int 0, .ref e0, .int 0])), ((b 2), .inr (4, [.int 0, .ref e0, .int 0])), ((b 3), .inr (4, [.int 0, .ref e0, .int 0]))] := hD
  obtain rfl : r5 = 1 := hw.trans (if_pos hin.2.2)
  refine lv_if_eq (tgt := 44) hx hb dX10_leg_37 (by decide) (fun c6 => absurd c6 (by decide)) (fun _ => ?_)
  refine lv_iconst (v := 1) hx hb dX10_leg_40 (by decide) ?_
  refine lv_goto (tgt := 45) hx hb dX10_leg_41 (by decide) ?_
  refine lv_istore (lv' := [(4, .int 1), (0, .ref h0), (1, .int p0), (2, .int p1), (3, .int p2)]) hx hb dX10_leg_45 hl (by decide) rfl (fun ls hl => ?_)
  refine lv_aload_n hx hb dX10_leg_47 rfl (lv_at hl 1 rfl) ?_
  refine lv_iload hx hb dX10_leg_48 (lv_at hl 0 rfl) ?_
  refine lv_if_ne (tgt := 57) hx hb dX10_leg_50 (by decide) (fun _ => ?_) (fun c7 => absurd c7 (by decide))
  refine lv_aload_n hx hb dX10_leg_57 rfl (lv_at hl 1 rfl) ?_
  have hPc := hP.sub (ws' := [(h0, .inr (15, zM th b)), ((b 2), .inr (4, [.int 0, .ref e0, .int 0]))]) [0, 3] rfl
  have hDc := hD.sub (ws' := [(h0, .inr (15, zM th b)), ((b 2), .inr (4, [.int 0, .ref e0, .int 0]))]) [0, 3] (by decide) rfl
  have hKc := hK.sub (tys' := []) [] rfl
  have hFc := va_free (wc := [(h0, .inr (15, zM th b)), ((b 2), .inr (4, [.int 0, .ref e0, .int 0]))]) hD hS hA [0, 3] rfl
  have hEc := (hE.kept hS.2.1).narrow hFc
  refine va_calli (va_runV (As := []) (rest := [.ref h0]) ⟨hx, hb, hml, hown, hts⟩ (c_X10_isOnWay l htr dC dI e0 H.size h0 th b) (cwV 0 hts gX10_leg_X10_isOnWay rfl rfl rfl (by decide +kernel) ⟨Nat.le_of_ble_eq_true rfl, Nat.le_of_ble_eq_true rfl⟩) ⟨fun a U g mk q => by obtain ⟨q0, q1, qP, qK, qD, qE⟩ := q; exact ⟨q0, q1, qP, va_K.moved (u := U) (U := U.calling g mk a) (Vm.Alike.refl U.vm) qK, qD, zE.same rfl qE⟩, va_recv hKc hPc (ci := 15) (q0 := 0) rfl rfl, fun U hU hW => ⟨rfl, by rw [hU], by rw [hU]; exact hPc, va_K.moved hW.alike hKc, hDc.weaken (fun _ _ _ _ => trivial), by rw [hU]; exact zE.warm hW hEc⟩⟩ rfl rfl hl.1 rfl (lv_room (Nat.le_of_ble_eq_true rfl)) dX10_leg_58 ⟨Nat.le_of_ble_eq_true rfl, Nat.le_of_ble_eq_true rfl⟩) hS (fun q _ h => hFc q h) hFc (fun r8 u t H1 locs ht hvm hw hB hz1 hk1 hS => ?_)
  obtain ⟨hP1, hK1, hD1⟩ := hB
  rw [ht] at hP1
  obtain ⟨hP, hD⟩ := va_join (wr := [((b 0), .inr (4, [.int 0, .ref e0, .int 0])), ((b 1), .inr (4, [.int 0, .ref e0, .int 0])), ((b 3), .inr (4, [.int 0, .ref e0, .int 0]))]) (w1 := [(h0, .inr (15, zM th b)), ((b 2), .inr (4, [.int 0, .ref e0, .int 0]))]) hP hD [0, 3] [1, 2, 4] rfl rfl (by decide) (by decide) hk1 hFc hP1 hD1
  generalize H1 = H at hP hS ⊢
  have hP : va_P (dC, dI) vwCl [((b 0), .inr (4, [.int 0, .ref e0, .int 0])), ((b 1), .inr (4, [.int 0, .ref e0, .int 0])), ((b 3), .inr (4, [.int 0, .ref e0, .int 0])), (h0, .inr (15, zM th b)), ((b 2), .inr (4, [.int 0, .ref e0, .int 0]))] H := hP
  have hD : va_D A [((b 0), .inr (4, [.int 0, .ref e0, .int 0])), ((b 1), .inr (4, [.int 0, .ref e0, .int 0])), ((b 3), .inr (4, [.int 0, .ref e0, .int 0])), (h0, .inr (15, zM th b)), ((b 2), .inr (4, [.int 0, .ref e0, .int 0]))] := hD
  obtain rfl : r8 = 0 := hw
  refine lv_if_eq (tgt := 68) hx hb dX10_leg_61 (by decide) (fun _ => ?_) (fun c9 => absurd (by decide) c9)
  refine lv_aload_n hx hb dX10_leg_68 rfl (lv_at hl 1 rfl) ?_
  refine va_get (D := (dC, dI)) (ci := 15) (v := .ref (b 0)) (C := RX10) (T := TX10) (N := 11) hx hb hts (by decide +kernel) hown hK hP 3 rfl rfl 1 (by decide) (hts (.fieldLink RX10 10 "GanglineModel" "legs" "Ljava/util/List;") (by decide +kernel)) (fun _ h9 => h9) rfl dX10_leg_69 ?_
  have hPc := hP.sub (ws' := [((b 0), .inr (4, [.int 0, .ref e0, .int 0]))]) [0] rfl
  have hDc := hD.sub (ws' := [((b 0), .inr (4, [.int 0, .ref e0, .int 0]))]) [0] (by decide) rfl
  have hKc := hK.sub (tys' := []) [] rfl
  have hFc := va_free (wc := [((b 0), .inr (4, [.int 0, .ref e0, .int 0]))]) hD hS hA [0] rfl
  refine va_callFi (va_runF (As := []) (rest := [.ref h0]) (hK.1 4 _ rfl).2 ⟨hx, hb, hml, hown, hts⟩ (c_Jx4a65c_size_8abf5 l htr dC dI e0 H.size (b 0) 0 e0 0) (va_cwF 0 hts gX10_leg_Jx4a65c_size_8abf5_f59Jx4a65c rfl rfl rfl (zV_W_size hE.v) (by decide +kernel) ⟨Nat.le_of_ble_eq_true rfl, Nat.le_of_ble_eq_true rfl⟩) ⟨fun a U g mk q => by obtain ⟨q0, q1, qP, qK, qD⟩ := q; exact ⟨q0, q1, qP, va_K.moved (u := U) (U := U.calling g mk a) (Vm.Alike.refl U.vm) qK, qD⟩, va_recv hKc hPc (ci := 4) (q0 := 0) rfl rfl, fun U hU hW => ⟨rfl, by rw [hU], by rw [hU]; exact hPc, va_K.moved hW.alike hKc, hDc.weaken (fun _ _ _ _ => trivial)⟩⟩ rfl rfl hl.1 rfl (lv_room (Nat.le_of_ble_eq_true rfl)) dX10_leg_72 ⟨Nat.le_of_ble_eq_true rfl, Nat.le_of_ble_eq_true rfl⟩) hS (fun q _ h => hFc q h) hFc (fun r10 u t H1 locs ht hvm hw hB hz1 hk1 hS => ?_)
  obtain ⟨hP1, hK1, hD1⟩ := hB
  rw [ht] at hP1
  obtain ⟨hP, hD⟩ := va_join (wr := [((b 1), .inr (4, [.int 0, .ref e0, .int 0])), ((b 3), .inr (4, [.int 0, .ref e0, .int 0])), (h0, .inr (15, zM th b)), ((b 2), .inr (4, [.int 0, .ref e0, .int 0]))]) (w1 := [((b 0), .inr (4, [.int 0, .ref e0, .int 0]))]) hP hD [0] [1, 2, 3, 4] rfl rfl (by decide) (by decide) hk1 hFc hP1 hD1
  generalize H1 = H at hP hS ⊢
  have hP : va_P (dC, dI) vwCl [((b 1), .inr (4, [.int 0, .ref e0, .int 0])), ((b 3), .inr (4, [.int 0, .ref e0, .int 0])), (h0, .inr (15, zM th b)), ((b 2), .inr (4, [.int 0, .ref e0, .int 0])), ((b 0), .inr (4, [.int 0, .ref e0, .int 0]))] H := hP
  have hD : va_D A [((b 1), .inr (4, [.int 0, .ref e0, .int 0])), ((b 3), .inr (4, [.int 0, .ref e0, .int 0])), (h0, .inr (15, zM th b)), ((b 2), .inr (4, [.int 0, .ref e0, .int 0])), ((b 0), .inr (4, [.int 0, .ref e0, .int 0]))] := hD
  obtain rfl : r10 = 0 := hw
  refine lv_bipush (v := 10) hx hb dX10_leg_77 (by decide) ?_
  refine lv_icmp_ne (tgt := 86) hx hb dX10_leg_79 (by decide) (fun _ => ?_) (fun c11 => absurd c11 (by decide))
  refine lv_iconst (v := 0) hx hb dX10_leg_86 (by decide) ?_
  have hPc := hP.sub (ws' := [(h0, .inr (15, zM th b))]) [2] rfl
  have hDc := hD.sub (ws' := [(h0, .inr (15, zM th b))]) [2] (by decide) rfl
  have hKc := hK.sub (tys' := []) [] rfl
  have hFc := va_free (wc := [(h0, .inr (15, zM th b))]) hD hS hA [2] rfl
  refine va_calli (va_runV (As := [.int 0]) (rest := []) ⟨hx, hb, hml, hown, hts⟩ (c_X10_goesOn l htr dC dI e0 H.size h0 th b 0) (cwV 1 hts gX10_leg_X10_goesOn rfl rfl rfl (by decide +kernel) ⟨Nat.le_of_ble_eq_true rfl, Nat.le_of_ble_eq_true rfl⟩) ⟨fun a U g mk q => by obtain ⟨q0, q1, qP, qK, qD⟩ := q; exact ⟨q0, q1, qP, va_K.moved (u := U) (U := U.calling g mk a) (Vm.Alike.refl U.vm) qK, qD⟩, va_recv hKc hPc (ci := 15) (q0 := 0) rfl rfl, fun U hU hW => ⟨rfl, by rw [hU], by rw [hU]; exact hPc, va_K.moved hW.alike hKc, hDc.weaken (fun _ _ _ _ => trivial)⟩⟩ rfl rfl hl.1 rfl (lv_room (Nat.le_of_ble_eq_true rfl)) dX10_leg_87 ⟨Nat.le_of_ble_eq_true rfl, Nat.le_of_ble_eq_true rfl⟩) hS (fun q _ h => hFc q h) hFc (fun r12 u t H1 locs ht hvm hw hB hz1 hk1 hS => ?_)
  obtain ⟨hP1, hK1, hD1⟩ := hB
  rw [ht] at hP1
  obtain ⟨hP, hD⟩ := va_join (wr := [((b 1), .inr (4, [.int 0, .ref e0, .int 0])), ((b 3), .inr (4, [.int 0, .ref e0, .int 0])), ((b 2), .inr (4, [.int 0, .ref e0, .int 0])), ((b 0), .inr (4, [.int 0, .ref e0, .int 0]))]) (w1 := [(h0, .inr (15, zM 0 b))]) hP hD [2] [0, 1, 3, 4] rfl rfl (by decide) (by decide) hk1 hFc hP1 hD1
  generalize H1 = H at hP hS ⊢
  have hP : va_P (dC, dI) vwCl [((b 1), .inr (4, [.int 0, .ref e0, .int 0])), ((b 3), .inr (4, [.int 0, .ref e0, .int 0])), ((b 2), .inr (4, [.int 0, .ref e0, .int 0])), ((b 0), .inr (4, [.int 0, .ref e0, .int 0])), (h0, .inr (15, zM 0 b))] H := hP
  have hD : va_D A [((b 1), .inr (4, [.int 0, .ref e0, .int 0])), ((b 3), .inr (4, [.int 0, .ref e0, .int 0])), ((b 2), .inr (4, [.int 0, .ref e0, .int 0])), ((b 0), .inr (4, [.int 0, .ref e0, .int 0])), (h0, .inr (15, zM 0 b))] := hD
  obtain rfl : r12 = 1 := hw.trans (by decide)
  refine lv_if_ne (tgt := 95) hx hb dX10_leg_90 (by decide) (fun _ => ?_) (fun c13 => absurd c13 (by decide))
  refine lv_aload_n hx hb dX10_leg_95 rfl (lv_at hl 1 rfl) ?_
  refine va_get (D := (dC, dI)) (ci := 15) (v := .ref (b 0)) (C := RX10) (T := TX10) (N := 11) hx hb hts (by decide +kernel) hown hK hP 4 rfl rfl 1 (by decide) (hts (.fieldLink RX10 10 "GanglineModel" "legs" "Ljava/util/List;") (by decide +kernel)) (fun _ h9 => h9) rfl dX10_leg_96 ?_
  refine va_new (ci := 13) (fs := [.int 0, .int 0, .int 0, .int 0, .int 0]) (C := RX8) (T := TX8) (N := 5) hx hb hts (by decide +kernel) tyX8 tyX8_ok hown (hts (.classLink RX10 82 RX8) (by decide +kernel)) (hts (.instantiable RX8 5) (by decide +kernel)) (hts (.initialized RX8) (by decide +kernel)) hK hP hD hS hA rfl (fun j hj => by rcases (show j = 0 ∨ j = 1 ∨ j = 2 ∨ j = 3 ∨ j = 4 by omega) with rfl | rfl | rfl | rfl | rfl <;> rfl) (Nat.le_of_ble_eq_true rfl) (Nat.le_of_ble_eq_true rfl) dX10_leg_99 (fun q14 H hP hD hS => ?_)
  have hP : va_P (dC, dI) vwCl [((b 1), .inr (4, [.int 0, .ref e0, .int 0])), ((b 3), .inr (4, [.int 0, .ref e0, .int 0])), ((b 2), .inr (4, [.int 0, .ref e0, .int 0])), ((b 0), .inr (4, [.int 0, .ref e0, .int 0])), (h0, .inr (15, zM 0 b)), (q14, .inr (13, [.int 0, .int 0, .int 0, .int 0, .int 0]))] H := hP
  have hD : va_D A [((b 1), .inr (4, [.int 0, .ref e0, .int 0])), ((b 3), .inr (4, [.int 0, .ref e0, .int 0])), ((b 2), .inr (4, [.int 0, .ref e0, .int 0])), ((b 0), .inr (4, [.int 0, .ref e0, .int 0])), (h0, .inr (15, zM 0 b)), (q14, .inr (13, [.int 0, .int 0, .int 0, .int 0, .int 0]))] := hD
  refine W.widen (k := 2) (n := 9) (by decide) (by decide) ?_
  refine lv_dup hx hb dX10_leg_102 rfl ?_
  refine lv_iload_n hx hb dX10_leg_103 rfl (lv_at hl 2 rfl) ?_
  refine lv_iload_n hx hb dX10_leg_104 rfl (lv_at hl 3 rfl) ?_
  refine lv_iload_n hx hb dX10_leg_105 rfl (lv_at hl 4 rfl) ?_
  have hPc := hP.sub (ws' := [(q14, .inr (13, [.int 0, .int 0, .int 0, .int 0, .int 0]))]) [5] rfl
  have hDc := hD.sub (ws' := [(q14, .inr (13, [.int 0, .int 0, .int 0, .int 0, .int 0]))]) [5] (by decide) rfl
  have hKc := hK.sub (tys' := []) [] rfl
  have hFc := va_free (wc := [(q14, .inr (13, [.int 0, .int 0, .int 0, .int 0, .int 0]))]) hD hS hA [5] rfl
  refine va_callv (va_runI (As := [.int p0, .int p1, .int p2]) (rest := [.ref q14, .ref (b 0)]) ⟨hx, hb, hml, hown, hts⟩ (c_X8_init l htr dC dI e0 H.size q14 p0 p1 p2) (cwI 3 hts gX10_leg_X8_init rfl rfl rfl (hts (.initialized RX8) (by decide +kernel)) (hts (.methodLink RX10 84 yX8_init) (by decide +kernel)) (hts (.instanceMethod yX8_init) (by decide +kernel)) rfl (by decide +kernel) ⟨Nat.le_of_ble_eq_true rfl, Nat.le_of_ble_eq_true rfl⟩) ⟨fun a U g mk q => by obtain ⟨q0, q1, qP, qK, qD⟩ := q; exact ⟨q0, q1, qP, va_K.moved (u := U) (U := U.calling g mk a) (Vm.Alike.refl U.vm) qK, qD⟩, fun U hU hW => ⟨rfl, by rw [hU], by rw [hU]; exact hPc, va_K.moved hW.alike hKc, hDc.weaken (fun _ _ _ _ => trivial)⟩⟩ rfl rfl hl.1 rfl (lv_room (Nat.le_of_ble_eq_true rfl)) dX10_leg_106 ⟨Nat.le_of_ble_eq_true rfl, Nat.le_of_ble_eq_true rfl⟩) hS (fun q _ h => hFc q h) hFc (fun u t H1 locs ht hvm hw hB hz1 hk1 hS => ?_)
  obtain ⟨hP1, hK1, hD1⟩ := hB
  rw [ht] at hP1
  obtain ⟨hP, hD⟩ := va_join (wr := [((b 1), .inr (4, [.int 0, .ref e0, .int 0])), ((b 3), .inr (4, [.int 0, .ref e0, .int 0])), ((b 2), .inr (4, [.int 0, .ref e0, .int 0])), ((b 0), .inr (4, [.int 0, .ref e0, .int 0])), (h0, .inr (15, zM 0 b))]) (w1 := [(q14, .inr (13, [.int p0, .int p1, .int p2, .int (-10), .int 0]))]) hP hD [5] [0, 1, 2, 3, 4] rfl rfl (by decide) (by decide) hk1 hFc hP1 hD1
  generalize H1 = H at hP hS ⊢
  have hP : va_P (dC, dI) vwCl [((b 1), .inr (4, [.int 0, .ref e0, .int 0])), ((b 3), .inr (4, [.int 0, .ref e0, .int 0])), ((b 2), .inr (4, [.int 0, .ref e0, .int 0])), ((b 0), .inr (4, [.int 0, .ref e0, .int 0])), (h0, .inr (15, zM 0 b)), (q14, .inr (13, [.int p0, .int p1, .int p2, .int (-10), .int 0]))] H := hP
  have hD : va_D A [((b 1), .inr (4, [.int 0, .ref e0, .int 0])), ((b 3), .inr (4, [.int 0, .ref e0, .int 0])), ((b 2), .inr (4, [.int 0, .ref e0, .int 0])), ((b 0), .inr (4, [.int 0, .ref e0, .int 0])), (h0, .inr (15, zM 0 b)), (q14, .inr (13, [.int p0, .int p1, .int p2, .int (-10), .int 0]))] := hD
  have hPc := hP.sub (ws' := [((b 0), .inr (4, [.int 0, .ref e0, .int 0])), (q14, .inr (13, [.int p0, .int p1, .int p2, .int (-10), .int 0]))]) [3, 5] rfl
  have hDc := hD.sub (ws' := [((b 0), .inr (4, [.int 0, .ref e0, .int 0])), (q14, .inr (13, [.int p0, .int p1, .int p2, .int (-10), .int 0]))]) [3, 5] (by decide) rfl
  have hKc := hK.sub (tys' := []) [] rfl
  have hFc := va_free (wc := [((b 0), .inr (4, [.int 0, .ref e0, .int 0])), (q14, .inr (13, [.int p0, .int p1, .int p2, .int (-10), .int 0]))]) hD hS hA [3, 5] rfl
  have hEc := (hE.kept hS.2.1).narrow hFc
  refine va_callFi (va_runF (As := [.ref q14]) (rest := []) (hK.1 4 _ rfl).2 ⟨hx, hb, hml, hown, hts⟩ (c_Jx4a65c_add1_X8 l htr dC dI e0 H.size (b 0) q14 [.int p0, .int p1, .int p2, .int (-10), .int 0]) (va_cwF 1 hts gX10_leg_Jx4a65c_add_9ea2d_f87Jx4a65c rfl rfl rfl (zV_W_add hE.v) (by decide +kernel) ⟨Nat.le_of_ble_eq_true rfl, Nat.le_of_ble_eq_true rfl⟩) ⟨fun a U g mk q => by obtain ⟨q0, q1, qP, qK, qD, qE⟩ := q; exact ⟨q0, q1, qP, va_K.moved (u := U) (U := U.calling g mk a) (Vm.Alike.refl U.vm) qK, qD, zE.same rfl qE⟩, va_recv hKc hPc (ci := 4) (q0 := 0) rfl rfl, fun U hU hW => ⟨rfl, by rw [hU], by rw [hU]; exact hPc, va_K.moved hW.alike hKc, hDc.weaken (fun _ _ _ _ => trivial), by rw [hU]; exact zE.warm hW hEc⟩⟩ rfl rfl hl.1 rfl (lv_room (Nat.le_of_ble_eq_true rfl)) dX10_leg_109 ⟨Nat.le_of_ble_eq_true rfl, Nat.le_of_ble_eq_true rfl⟩) hS (fun q _ h => hFc q h) hFc (fun r15 u t H1 locs ht hvm hw hB hz1 hk1 hS => ?_)
  obtain ⟨q16, hP1, hK1, hD1⟩ := hB
  rw [ht] at hP1
  obtain ⟨hP, hD⟩ := va_join (wr := [((b 1), .inr (4, [.int 0, .ref e0, .int 0])), ((b 3), .inr (4, [.int 0, .ref e0, .int 0])), ((b 2), .inr (4, [.int 0, .ref e0, .int 0])), (h0, .inr (15, zM 0 b))]) (w1 := [((b 0), .inr (4, [.int 1, .ref q16, .int 1]))]) hP hD [3, 5] [0, 1, 2, 4] rfl rfl (by decide) (by decide) hk1 hFc hP1 hD1
  generalize H1 = H at hP hS ⊢
  have hP : va_P (dC, dI) vwCl [((b 1), .inr (4, [.int 0, .ref e0, .int 0])), ((b 3), .inr (4, [.int 0, .ref e0, .int 0])), ((b 2), .inr (4, [.int 0, .ref e0, .int 0])), (h0, .inr (15, zM 0 b)), ((b 0), .inr (4, [.int 1, .ref q16, .int 1]))] H := hP
  have hD : va_D A [((b 1), .inr (4, [.int 0, .ref e0, .int 0])), ((b 3), .inr (4, [.int 0, .ref e0, .int 0])), ((b 2), .inr (4, [.int 0, .ref e0, .int 0])), (h0, .inr (15, zM 0 b)), ((b 0), .inr (4, [.int 1, .ref q16, .int 1]))] := hD
  obtain rfl : r15 = 1 := hw
  refine lv_pop hx hb dX10_leg_114 rfl ?_
  refine lv_aload_n hx hb dX10_leg_115 rfl (lv_at hl 1 rfl) ?_
  refine va_get (D := (dC, dI)) (ci := 15) (v := .ref (b 0)) (C := RX10) (T := TX10) (N := 11) hx hb hts (by decide +kernel) hown hK hP 3 rfl rfl 1 (by decide) (hts (.fieldLink RX10 10 "GanglineModel" "legs" "Ljava/util/List;") (by decide +kernel)) (fun _ h9 => h9) rfl dX10_leg_116 ?_
  have hPc := hP.sub (ws' := [((b 0), .inr (4, [.int 1, .ref q16, .int 1]))]) [4] rfl
  have hDc := hD.sub (ws' := [((b 0), .inr (4, [.int 1, .ref q16, .int 1]))]) [4] (by decide) rfl
  have hKc := hK.sub (tys' := []) [] rfl
  have hFc := va_free (wc := [((b 0), .inr (4, [.int 1, .ref q16, .int 1]))]) hD hS hA [4] rfl
  refine va_callFi (va_runF (As := []) (rest := []) (hK.1 4 _ rfl).2 ⟨hx, hb, hml, hown, hts⟩ (c_Jx4a65c_size_8abf5 l htr dC dI e0 H.size (b 0) 1 q16 1) (va_cwF 0 hts gX10_leg_Jx4a65c_size_8abf5_f59Jx4a65c rfl rfl rfl (zV_W_size hE.v) (by decide +kernel) ⟨Nat.le_of_ble_eq_true rfl, Nat.le_of_ble_eq_true rfl⟩) ⟨fun a U g mk q => by obtain ⟨q0, q1, qP, qK, qD⟩ := q; exact ⟨q0, q1, qP, va_K.moved (u := U) (U := U.calling g mk a) (Vm.Alike.refl U.vm) qK, qD⟩, va_recv hKc hPc (ci := 4) (q0 := 0) rfl rfl, fun U hU hW => ⟨rfl, by rw [hU], by rw [hU]; exact hPc, va_K.moved hW.alike hKc, hDc.weaken (fun _ _ _ _ => trivial)⟩⟩ rfl rfl hl.1 rfl (lv_room (Nat.le_of_ble_eq_true rfl)) dX10_leg_119 ⟨Nat.le_of_ble_eq_true rfl, Nat.le_of_ble_eq_true rfl⟩) hS (fun q _ h => hFc q h) hFc (fun r17 u t H1 locs ht hvm hw hB hz1 hk1 hS => ?_)
  obtain ⟨hP1, hK1, hD1⟩ := hB
  rw [ht] at hP1
  obtain ⟨hP, hD⟩ := va_join (wr := [((b 1), .inr (4, [.int 0, .ref e0, .int 0])), ((b 3), .inr (4, [.int 0, .ref e0, .int 0])), ((b 2), .inr (4, [.int 0, .ref e0, .int 0])), (h0, .inr (15, zM 0 b))]) (w1 := [((b 0), .inr (4, [.int 1, .ref q16, .int 1]))]) hP hD [4] [0, 1, 2, 3] rfl rfl (by decide) (by decide) hk1 hFc hP1 hD1
  generalize H1 = H at hP hS ⊢
  have hP : va_P (dC, dI) vwCl [((b 1), .inr (4, [.int 0, .ref e0, .int 0])), ((b 3), .inr (4, [.int 0, .ref e0, .int 0])), ((b 2), .inr (4, [.int 0, .ref e0, .int 0])), (h0, .inr (15, zM 0 b)), ((b 0), .inr (4, [.int 1, .ref q16, .int 1]))] H := hP
  have hD : va_D A [((b 1), .inr (4, [.int 0, .ref e0, .int 0])), ((b 3), .inr (4, [.int 0, .ref e0, .int 0])), ((b 2), .inr (4, [.int 0, .ref e0, .int 0])), (h0, .inr (15, zM 0 b)), ((b 0), .inr (4, [.int 1, .ref q16, .int 1]))] := hD
  obtain rfl : r17 = 1 := hw
  refine lv_iconst (v := 1) hx hb dX10_leg_124 (by decide) ?_
  refine lv_isub hx hb dX10_leg_125 ?_
  refine lv_topi (fun y18 e19 => ?_)
  obtain rfl : y18 = 0 := e19.trans (by decide)
  have hP9 := hP.sub (ws' := [(h0, .inr (15, zM 0 b))]) [3] rfl
  have hD9 := hD.sub (ws' := [(h0, .inr (15, zM 0 b))]) [3] (by decide) rfl
  have hK9 := hK.sub (tys' := []) [] rfl
  exact W.iret (v := 0) hx hb hr (fun t ht hW => ⟨⟨0, (), rfl, rfl, ⟨by rw [ht]; exact hP9, va_K.moved hW.alike hK9, hD9⟩⟩, hS.F ht⟩) hS.2.2 dX10_leg_126

theorem dX10_leg_44 : decode cX10_leg 44 = .ok (.iconst 0, 1) := by decide +kernel
theorem dX10_leg_53 : decode cX10_leg 53 = .ok (.iconst 1, 1) := by decide +kernel
theorem dX10_leg_54 : decode cX10_leg 54 = .ok (.goto 33, 3) := by decide +kernel
theorem dX10_leg_93 : decode cX10_leg 93 = .ok (.iconst 0, 1) := by decide +kernel
theorem dX10_leg_94 : decode cX10_leg 94 = .ok (.ireturn, 1) := by decide +kernel
set_option maxHeartbeats 4000000 in
set_option maxRecDepth 100000 in
theorem c_X10_leg_no (l : Launch) (htr : l.stackTraces = false) (dC : Nat → ClassId) (dI : Nat → Nat → Nat) (e0 sz : Nat) (h0 : Nat) (th : Int32) (b : Nat → Nat) (p0 : Int32) (p1 : Int32) (p2 : Int32) (hnot : ¬ ((5 ≤ (p0).toInt64 ∧ (p0).toInt64 ≤ 120) ∧ (0 ≤ (p1).toInt64 ∧ (p1).toInt64 ≤ 9) ∧ ((-9) ≤ (p2).toInt64 ∧ (p2).toInt64 ≤ 9))) : Met l yX10_leg wsX10_leg ({ frames := 1, cells := 0, slots := 0, locals := 25 }) (va_Pc [.ref h0, .int p0, .int p1, .int p2] (fun U => U.heap.size = sz ∧ va_P (dC, dI) vwCl [(h0, .inr (15, zM th b)), ((b 0), .inr (4, [.int 0, .ref e0, .int 0])), ((b 1), .inr (4, [.int 0, .ref e0, .int 0])), ((b 2), .inr (4, [.int 0, .ref e0, .int 0])), ((b 3), .inr (4, [.int 0, .ref e0, .int 0]))] U.heap ∧ va_K (dC, dI) vwCl [] U ∧ va_D (fun _ => True) [(h0, .inr (15, zM th b)), ((b 0), .inr (4, [.int 0, .ref e0, .int 0])), ((b 1), .inr (4, [.int 0, .ref e0, .int 0])), ((b 2), .inr (4, [.int 0, .ref e0, .int 0])), ((b 3), .inr (4, [.int 0, .ref e0, .int 0]))] ∧ zE e0 (va_A [(h0, .inr (15, zM th b)), ((b 0), .inr (4, [.int 0, .ref e0, .int 0])), ((b 1), .inr (4, [.int 0, .ref e0, .int 0])), ((b 2), .inr (4, [.int 0, .ref e0, .int 0])), ((b 3), .inr (4, [.int 0, .ref e0, .int 0]))] sz) U U.heap)) (va_Qi (fun (r : Int32) (_ : Unit) => r = 0) (fun _ t => va_P (dC, dI) vwCl [(h0, .inr (15, zM 1 b))] t.heap ∧ va_K (dC, dI) vwCl [] t ∧ va_D (va_A [(h0, .inr (15, zM th b)), ((b 0), .inr (4, [.int 0, .ref e0, .int 0])), ((b 1), .inr (4, [.int 0, .ref e0, .int 0])), ((b 2), .inr (4, [.int 0, .ref e0, .int 0])), ((b 3), .inr (4, [.int 0, .ref e0, .int 0]))] sz) [(h0, .inr (15, zM 1 b))]) (va_A [(h0, .inr (15, zM th b)), ((b 0), .inr (4, [.int 0, .ref e0, .int 0])), ((b 1), .inr (4, [.int 0, .ref e0, .int 0])), ((b 2), .inr (4, [.int 0, .ref e0, .int 0])), ((b 3), .inr (4, [.int 0, .ref e0, .int 0]))] sz)) 0 0 (va_A [(h0, .inr (15, zM th b)), ((b 0), .inr (4, [.int 0, .ref e0, .int 0])), ((b 1), .inr (4, [.int 0, .ref e0, .int 0])), ((b 2), .inr (4, [.int 0, .ref e0, .int 0])), ((b 3), .inr (4, [.int 0, .ref e0, .int 0]))] sz) := by
  refine Met.ofW (cc := cX10_leg) (maxL := 5) (ret := (some .int)) (by decide) rfl ?_
  intro p e s m args below meth c s₁ B hml hv
  obtain ⟨rfl, hsz, hP, hK, hD0, hE⟩ := hv
  have hx := B.exec
  have hb := B.bytes
  have hr := B.returns
  have hts := atoms_spec (ws := wsX10_leg) B.pre
  have hown : s.vm.findClass RX10 = some m.cls := findClass_of_methodNamed B.named
  have hlocks := B.notSynchronized
  subst hsz
  have hD := hD0.self (sz := s.heap.size)
  generalize hAe : va_A [(h0, .inr (15, zM th b)), ((b 0), .inr (4, [.int 0, .ref e0, .int 0])), ((b 1), .inr (4, [.int 0, .ref e0, .int 0])), ((b 2), .inr (4, [.int 0, .ref e0, .int 0])), ((b 3), .inr (4, [.int 0, .ref e0, .int 0]))] s.heap.size = A at hD hE ⊢
  have hA : ∀ q : Nat, s.heap.size ≤ q → A q := fun q h => by rw [← hAe]; exact Or.inr h
  have hS : va_S A s.heap s.heap [] := va_S.rf
  have hl := lv_entry ([.ref h0, .int p0, .int p1, .int p2]) (n := 5) (Nat.le_of_ble_eq_true rfl)
  rw [lg_entry_eq]
  generalize (lg_sl ([.ref h0, .int p0, .int p1, .int p2]) ++ List.replicate (5 - (lg_sl ([.ref h0, .int p0, .int p1, .int p2])).length) Slot.unset).toArray = ls at hl ⊢
  have hl : lv_has ls 5 [(0, .ref h0), (1, .int p0), (2, .int p1), (3, .int p2)] := hl
  refine lv_iload_n hx hb dX10_leg_0 rfl (lv_at hl 1 rfl) ?_
  refine lv_i2l (v := (p0).toInt64) hx hb dX10_leg_1 rfl ?_
  refine lv_ldc2 hx hb hown (hts (.constantLong RX10 67 (5)) (by decide +kernel)) dX10_leg_2 ?_
  refine lv_ldc2 hx hb hown (hts (.constantLong RX10 69 (120)) (by decide +kernel)) dX10_leg_5 ?_
  have hPc := hP.sub (ws' := []) [] rfl
  have hDc := hD.sub (ws' := []) [] (by decide) rfl
  have hKc := hK.sub (tys' := []) [] rfl
  have hFc := va_free (wc := []) hD hS hA [] rfl
  refine va_calli (va_runS (As := [.long (p0).toInt64, .long (5), .long (120)]) (rest := []) ⟨hx, hb, hml, hown, hts⟩ (c_X10_in l htr dC dI e0 s.heap.size ((p0).toInt64) (5) (120)) (va_cwS 3 hts gX10_leg_X10_in rfl rfl rfl (by decide +kernel) ⟨Nat.le_of_ble_eq_true rfl, Nat.le_of_ble_eq_true rfl⟩) ⟨fun a U g mk q => by obtain ⟨q0, q1, qP, qK, qD⟩ := q; exact ⟨q0, q1, qP, va_K.moved (u := U) (U := U.calling g mk a) (Vm.Alike.refl U.vm) qK, qD⟩, fun U hU hW => ⟨rfl, by rw [hU], by rw [hU]; exact hPc, va_K.moved hW.alike hKc, hDc.weaken (fun _ _ _ _ => trivial)⟩⟩ rfl rfl hl.1 rfl (lv_room (Nat.le_of_ble_eq_true rfl)) dX10_leg_8 ⟨Nat.le_of_ble_eq_true rfl, Nat.le_of_ble_eq_true rfl⟩) hS (fun q _ h => hFc q h) hFc (fun r1 u t H1 locs ht hvm hw hB hz1 hk1 hS => ?_)
  have hP1 : va_P (dC, dI) vwCl [] H1 := fun k q h => by simp at h
  have hD1 : va_D (va_A [] s.heap.size) [] := ⟨fun i j p q h => by simp at h, fun k q h => by simp at h⟩
  obtain ⟨hP, hD⟩ := va_join (wr := [(h0, .inr (15, zM th b)), ((b 0), .inr (4, [.int 0, .ref e0, .int 0])), ((b 1), .inr (4, [.int 0, .ref e0, .int 0])), ((b 2), .inr (4, [.int 0, .ref e0, .int 0])), ((b 3), .inr (4, [.int 0, .ref e0, .int 0]))]) (w1 := []) hP hD [] [0, 1, 2, 3, 4] rfl rfl (by decide) (by decide) hk1 hFc hP1 hD1
  generalize H1 = H at hP hS ⊢
  have hP : va_P (dC, dI) vwCl [(h0, .inr (15, zM th b)), ((b 0), .inr (4, [.int 0, .ref e0, .int 0])), ((b 1), .inr (4, [.int 0, .ref e0, .int 0])), ((b 2), .inr (4, [.int 0, .ref e0, .int 0])), ((b 3), .inr (4, [.int 0, .ref e0, .int 0]))] H := hP
  have hD : va_D A [(h0, .inr (15, zM th b)), ((b 0), .inr (4, [.int 0, .ref e0, .int 0])), ((b 1), .inr (4, [.int 0, .ref e0, .int 0])), ((b 2), .inr (4, [.int 0, .ref e0, .int 0])), ((b 3), .inr (4, [.int 0, .ref e0, .int 0]))] := hD
  have hr1 : r1 = (if (5) ≤ ((p0).toInt64) ∧ ((p0).toInt64) ≤ (120) then 1 else 0) := hw
  refine lv_if_eq (tgt := 44) hx hb dX10_leg_11 (by decide) (fun c2 => ?_) (fun c2 => ?_)
  · refine lv_iconst (v := 0) hx hb dX10_leg_44 (by decide) ?_
    refine lv_istore (lv' := [(4, .int 0), (0, .ref h0), (1, .int p0), (2, .int p1), (3, .int p2)]) hx hb dX10_leg_45 hl (by decide) rfl (fun ls hl => ?_)
    refine lv_aload_n hx hb dX10_leg_47 rfl (lv_at hl 1 rfl) ?_
    refine lv_iload hx hb dX10_leg_48 (lv_at hl 0 rfl) ?_
    refine lv_if_ne (tgt := 57) hx hb dX10_leg_50 (by decide) (fun c3 => absurd (by decide) c3) (fun _ => ?_)
    refine lv_iconst (v := 1) hx hb dX10_leg_53 (by decide) ?_
    refine lv_goto (tgt := 87) hx hb dX10_leg_54 (by decide) ?_
    have hPc := hP.sub (ws' := [(h0, .inr (15, zM th b))]) [0] rfl
    have hDc := hD.sub (ws' := [(h0, .inr (15, zM th b))]) [0] (by decide) rfl
    have hKc := hK.sub (tys' := []) [] rfl
    have hFc := va_free (wc := [(h0, .inr (15, zM th b))]) hD hS hA [0] rfl
    refine va_calli (va_runV (As := [.int 1]) (rest := []) ⟨hx, hb, hml, hown, hts⟩ (c_X10_goesOn l htr dC dI e0 H.size h0 th b 1) (cwV 1 hts gX10_leg_X10_goesOn rfl rfl rfl (by decide +kernel) ⟨Nat.le_of_ble_eq_true rfl, Nat.le_of_ble_eq_true rfl⟩) ⟨fun a U g mk q => by obtain ⟨q0, q1, qP, qK, qD⟩ := q; exact ⟨q0, q1, qP, va_K.moved (u := U) (U := U.calling g mk a) (Vm.Alike.refl U.vm) qK, qD⟩, va_recv hKc hPc (ci := 15) (q0 := 0) rfl rfl, fun U hU hW => ⟨rfl, by rw [hU], by rw [hU]; exact hPc, va_K.moved hW.alike hKc, hDc.weaken (fun _ _ _ _ => trivial)⟩⟩ rfl rfl hl.1 rfl (lv_room (Nat.le_of_ble_eq_true rfl)) dX10_leg_87 ⟨Nat.le_of_ble_eq_true rfl, Nat.le_of_ble_eq_true rfl⟩) hS (fun q _ h => hFc q h) hFc (fun r4 u t H1 locs ht hvm hw hB hz1 hk1 hS => ?_)
    obtain ⟨hP1, hK1, hD1⟩ := hB
    rw [ht] at hP1
    obtain ⟨hP, hD⟩ := va_join (wr := [((b 0), .inr (4, [.int 0, .ref e0, .int 0])), ((b 1), .inr (4, [.int 0, .ref e0, .int 0])), ((b 2), .inr (4, [.int 0, .ref e0, .int 0])), ((b 3), .inr (4, [.int 0, .ref e0, .int 0]))]) (w1 := [(h0, .inr (15, zM 1 b))]) hP hD [0] [1, 2, 3, 4] rfl rfl (by decide) (by decide) hk1 hFc hP1 hD1
    generalize H1 = H at hP hS ⊢
    have hP : va_P (dC, dI) vwCl [((b 0), .inr (4, [.int 0, .ref e0, .int 0])), ((b 1), .inr (4, [.int 0, .ref e0, .int 0])), ((b 2), .inr (4, [.int 0, .ref e0, .int 0])), ((b 3), .inr (4, [.int 0, .ref e0, .int 0])), (h0, .inr (15, zM 1 b))] H := hP
    have hD : va_D A [((b 0), .inr (4, [.int 0, .ref e0, .int 0])), ((b 1), .inr (4, [.int 0, .ref e0, .int 0])), ((b 2), .inr (4, [.int 0, .ref e0, .int 0])), ((b 3), .inr (4, [.int 0, .ref e0, .int 0])), (h0, .inr (15, zM 1 b))] := hD
    obtain rfl : r4 = 0 := hw.trans (by decide)
    refine lv_if_ne (tgt := 95) hx hb dX10_leg_90 (by decide) (fun c5 => absurd (by decide) c5) (fun _ => ?_)
    refine lv_iconst (v := 0) hx hb dX10_leg_93 (by decide) ?_
    have hP9 := hP.sub (ws' := [(h0, .inr (15, zM 1 b))]) [4] rfl
    have hD9 := hD.sub (ws' := [(h0, .inr (15, zM 1 b))]) [4] (by decide) rfl
    have hK9 := hK.sub (tys' := []) [] rfl
    exact W.iret (v := 0) hx hb hr (fun t ht hW => ⟨⟨0, (), rfl, rfl, ⟨by rw [ht]; exact hP9, va_K.moved hW.alike hK9, hD9⟩⟩, hS.F ht⟩) hS.2.2 dX10_leg_94
  · refine lv_iload_n hx hb dX10_leg_14 rfl (lv_at hl 2 rfl) ?_
    refine lv_i2l (v := (p1).toInt64) hx hb dX10_leg_15 rfl ?_
    refine lv_lconst (v := 0) hx hb dX10_leg_16 (by decide) ?_
    refine lv_ldc2 hx hb hown (hts (.constantLong RX10 71 (9)) (by decide +kernel)) dX10_leg_17 ?_
    have hPc := hP.sub (ws' := []) [] rfl
    have hDc := hD.sub (ws' := []) [] (by decide) rfl
    have hKc := hK.sub (tys' := []) [] rfl
    have hFc := va_free (wc := []) hD hS hA [] rfl
    refine va_calli (va_runS (As := [.long (p1).toInt64, .long 0, .long (9)]) (rest := []) ⟨hx, hb, hml, hown, hts⟩ (c_X10_in l htr dC dI e0 H.size ((p1).toInt64) 0 (9)) (va_cwS 3 hts gX10_leg_X10_in rfl rfl rfl (by decide +kernel) ⟨Nat.le_of_ble_eq_true rfl, Nat.le_of_ble_eq_true rfl⟩) ⟨fun a U g mk q => by obtain ⟨q0, q1, qP, qK, qD⟩ := q; exact ⟨q0, q1, qP, va_K.moved (u := U) (U := U.calling g mk a) (Vm.Alike.refl U.vm) qK, qD⟩, fun U hU hW => ⟨rfl, by rw [hU], by rw [hU]; exact hPc, va_K.moved hW.alike hKc, hDc.weaken (fun _ _ _ _ => trivial)⟩⟩ rfl rfl hl.1 rfl (lv_room (Nat.le_of_ble_eq_true rfl)) dX10_leg_20 ⟨Nat.le_of_ble_eq_true rfl, Nat.le_of_ble_eq_true rfl⟩) hS (fun q _ h => hFc q h) hFc (fun r6 u t H1 locs ht hvm hw hB hz1 hk1 hS => ?_)
    have hP1 : va_P (dC, dI) vwCl [] H1 := fun k q h => by simp at h
    have hD1 : va_D (va_A [] H.size) [] := ⟨fun i j p q h => by simp at h, fun k q h => by simp at h⟩
    obtain ⟨hP, hD⟩ := va_join (wr := [(h0, .inr (15, zM th b)), ((b 0), .inr (4, [.int 0, .ref e0, .int 0])), ((b 1), .inr (4, [.int 0, .ref e0, .int 0])), ((b 2), .inr (4, [.int 0, .ref e0, .int 0])), ((b 3), .inr (4, [.int 0, .ref e0, .int 0]))]) (w1 := []) hP hD [] [0, 1, 2, 3, 4] rfl rfl (by decide) (by decide) hk1 hFc hP1 hD1
    generalize H1 = H at hP hS ⊢
    have hP : va_P (dC, dI) vwCl [(h0, .inr (15, zM th b)), ((b 0), .inr (4, [.int 0, .ref e0, .int 0])), ((b 1), .inr (4, [.int 0, .ref e0, .int 0])), ((b 2), .inr (4, [.int 0, .ref e0, .int 0])), ((b 3), .inr (4, [.int 0, .ref e0, .int 0]))] H := hP
    have hD : va_D A [(h0, .inr (15, zM th b)), ((b 0), .inr (4, [.int 0, .ref e0, .int 0])), ((b 1), .inr (4, [.int 0, .ref e0, .int 0])), ((b 2), .inr (4, [.int 0, .ref e0, .int 0])), ((b 3), .inr (4, [.int 0, .ref e0, .int 0]))] := hD
    have hr6 : r6 = (if 0 ≤ ((p1).toInt64) ∧ ((p1).toInt64) ≤ (9) then 1 else 0) := hw
    refine lv_if_eq (tgt := 44) hx hb dX10_leg_23 (by decide) (fun c7 => ?_) (fun c7 => ?_)
    · refine lv_iconst (v := 0) hx hb dX10_leg_44 (by decide) ?_
      refine lv_istore (lv' := [(4, .int 0), (0, .ref h0), (1, .int p0), (2, .int p1), (3, .int p2)]) hx hb dX10_leg_45 hl (by decide) rfl (fun ls hl => ?_)
      refine lv_aload_n hx hb dX10_leg_47 rfl (lv_at hl 1 rfl) ?_
      refine lv_iload hx hb dX10_leg_48 (lv_at hl 0 rfl) ?_
      refine lv_if_ne (tgt := 57) hx hb dX10_leg_50 (by decide) (fun c8 => absurd (by decide) c8) (fun _ => ?_)
      refine lv_iconst (v := 1) hx hb dX10_leg_53 (by decide) ?_
      refine lv_goto (tgt := 87) hx hb dX10_leg_54 (by decide) ?_
      have hPc := hP.sub (ws' := [(h0, .inr (15, zM th b))]) [0] rfl
      have hDc := hD.sub (ws' := [(h0, .inr (15, zM th b))]) [0] (by decide) rfl
      have hKc := hK.sub (tys' := []) [] rfl
      have hFc := va_free (wc := [(h0, .inr (15, zM th b))]) hD hS hA [0] rfl
      refine va_calli (va_runV (As := [.int 1]) (rest := []) ⟨hx, hb, hml, hown, hts⟩ (c_X10_goesOn l htr dC dI e0 H.size h0 th b 1) (cwV 1 hts gX10_leg_X10_goesOn rfl rfl rfl (by decide +kernel) ⟨Nat.le_of_ble_eq_true rfl, Nat.le_of_ble_eq_true rfl⟩) ⟨fun a U g mk q => by obtain ⟨q0, q1, qP, qK, qD⟩ := q; exact ⟨q0, q1, qP, va_K.moved (u := U) (U := U.calling g mk a) (Vm.Alike.refl U.vm) qK, qD⟩, va_recv hKc hPc (ci := 15) (q0 := 0) rfl rfl, fun U hU hW => ⟨rfl, by rw [hU], by rw [hU]; exact hPc, va_K.moved hW.alike hKc, hDc.weaken (fun _ _ _ _ => trivial)⟩⟩ rfl rfl hl.1 rfl (lv_room (Nat.le_of_ble_eq_true rfl)) dX10_leg_87 ⟨Nat.le_of_ble_eq_true rfl, Nat.le_of_ble_eq_true rfl⟩) hS (fun q _ h => hFc q h) hFc (fun r9 u t H1 locs ht hvm hw hB hz1 hk1 hS => ?_)
      obtain ⟨hP1, hK1, hD1⟩ := hB
      rw [ht] at hP1
      obtain ⟨hP, hD⟩ := va_join (wr := [((b 0), .inr (4, [.int 0, .ref e0, .int 0])), ((b 1), .inr (4, [.int 0, .ref e0, .int 0])), ((b 2), .inr (4, [.int 0, .ref e0, .int 0])), ((b 3), .inr (4, [.int 0, .ref e0, .int 0]))]) (w1 := [(h0, .inr (15, zM 1 b))]) hP hD [0] [1, 2, 3, 4] rfl rfl (by decide) (by decide) hk1 hFc hP1 hD1
      generalize H1 = H at hP hS ⊢
      have hP : va_P (dC, dI) vwCl [((b 0), .inr (4, [.int 0, .ref e0, .int 0])), ((b 1), .inr (4, [.int 0, .ref e0, .int 0])), ((b 2), .inr (4, [.int 0, .ref e0, .int 0])), ((b 3), .inr (4, [.int 0, .ref e0, .int 0])), (h0, .inr (15, zM 1 b))] H := hP
      have hD : va_D A [((b 0), .inr (4, [.int 0, .ref e0, .int 0])), ((b 1), .inr (4, [.int 0, .ref e0, .int 0])), ((b 2), .inr (4, [.int 0, .ref e0, .int 0])), ((b 3), .inr (4, [.int 0, .ref e0, .int 0])), (h0, .inr (15, zM 1 b))] := hD
      obtain rfl : r9 = 0 := hw.trans (by decide)
      refine lv_if_ne (tgt := 95) hx hb dX10_leg_90 (by decide) (fun c10 => absurd (by decide) c10) (fun _ => ?_)
      refine lv_iconst (v := 0) hx hb dX10_leg_93 (by decide) ?_
      have hP9 := hP.sub (ws' := [(h0, .inr (15, zM 1 b))]) [4] rfl
      have hD9 := hD.sub (ws' := [(h0, .inr (15, zM 1 b))]) [4] (by decide) rfl
      have hK9 := hK.sub (tys' := []) [] rfl
      exact W.iret (v := 0) hx hb hr (fun t ht hW => ⟨⟨0, (), rfl, rfl, ⟨by rw [ht]; exact hP9, va_K.moved hW.alike hK9, hD9⟩⟩, hS.F ht⟩) hS.2.2 dX10_leg_94
    · refine lv_iload_n hx hb dX10_leg_26 rfl (lv_at hl 3 rfl) ?_
      refine lv_i2l (v := (p2).toInt64) hx hb dX10_leg_27 rfl ?_
      refine lv_ldc2 hx hb hown (hts (.constantLong RX10 73 (-9)) (by decide +kernel)) dX10_leg_28 ?_
      refine lv_ldc2 hx hb hown (hts (.constantLong RX10 71 (9)) (by decide +kernel)) dX10_leg_31 ?_
      have hPc := hP.sub (ws' := []) [] rfl
      have hDc := hD.sub (ws' := []) [] (by decide) rfl
      have hKc := hK.sub (tys' := []) [] rfl
      have hFc := va_free (wc := []) hD hS hA [] rfl
      refine va_calli (va_runS (As := [.long (p2).toInt64, .long (-9), .long (9)]) (rest := []) ⟨hx, hb, hml, hown, hts⟩ (c_X10_in l htr dC dI e0 H.size ((p2).toInt64) (-9) (9)) (va_cwS 3 hts gX10_leg_X10_in rfl rfl rfl (by decide +kernel) ⟨Nat.le_of_ble_eq_true rfl, Nat.le_of_ble_eq_true rfl⟩) ⟨fun a U g mk q => by obtain ⟨q0, q1, qP, qK, qD⟩ := q; exact ⟨q0, q1, qP, va_K.moved (u := U) (U := U.calling g mk a) (Vm.Alike.refl U.vm) qK, qD⟩, fun U hU hW => ⟨rfl, by rw [hU], by rw [hU]; exact hPc, va_K.moved hW.alike hKc, hDc.weaken (fun _ _ _ _ => trivial)⟩⟩ rfl rfl hl.1 rfl (lv_room (Nat.le_of_ble_eq_true rfl)) dX10_leg_34 ⟨Nat.le_of_ble_eq_true rfl, Nat.le_of_ble_eq_true rfl⟩) hS (fun q _ h => hFc q h) hFc (fun r11 u t H1 locs ht hvm hw hB hz1 hk1 hS => ?_)
      have hP1 : va_P (dC, dI) vwCl [] H1 := fun k q h => by simp at h
      have hD1 : va_D (va_A [] H.size) [] := ⟨fun i j p q h => by simp at h, fun k q h => by simp at h⟩
      obtain ⟨hP, hD⟩ := va_join (wr := [(h0, .inr (15, zM th b)), ((b 0), .inr (4, [.int 0, .ref e0, .int 0])), ((b 1), .inr (4, [.int 0, .ref e0, .int 0])), ((b 2), .inr (4, [.int 0, .ref e0, .int 0])), ((b 3), .inr (4, [.int 0, .ref e0, .int 0]))]) (w1 := []) hP hD [] [0, 1, 2, 3, 4] rfl rfl (by decide) (by decide) hk1 hFc hP1 hD1
      generalize H1 = H at hP hS ⊢
      have hP : va_P (dC, dI) vwCl [(h0, .inr (15, zM th b)), ((b 0), .inr (4, [.int 0, .ref e0, .int 0])), ((b 1), .inr (4, [.int 0, .ref e0, .int 0])), ((b 2), .inr (4, [.int 0, .ref e0, .int 0])), ((b 3), .inr (4, [.int 0, .ref e0, .int 0]))] H := hP
      have hD : va_D A [(h0, .inr (15, zM th b)), ((b 0), .inr (4, [.int 0, .ref e0, .int 0])), ((b 1), .inr (4, [.int 0, .ref e0, .int 0])), ((b 2), .inr (4, [.int 0, .ref e0, .int 0])), ((b 3), .inr (4, [.int 0, .ref e0, .int 0]))] := hD
      have hr11 : r11 = (if (-9) ≤ ((p2).toInt64) ∧ ((p2).toInt64) ≤ (9) then 1 else 0) := hw
      refine lv_if_eq (tgt := 44) hx hb dX10_leg_37 (by decide) (fun c12 => ?_) (fun c12 => ?_)
      · refine lv_iconst (v := 0) hx hb dX10_leg_44 (by decide) ?_
        refine lv_istore (lv' := [(4, .int 0), (0, .ref h0), (1, .int p0), (2, .int p1), (3, .int p2)]) hx hb dX10_leg_45 hl (by decide) rfl (fun ls hl => ?_)
        refine lv_aload_n hx hb dX10_leg_47 rfl (lv_at hl 1 rfl) ?_
        refine lv_iload hx hb dX10_leg_48 (lv_at hl 0 rfl) ?_
        refine lv_if_ne (tgt := 57) hx hb dX10_leg_50 (by decide) (fun c13 => absurd (by decide) c13) (fun _ => ?_)
        refine lv_iconst (v := 1) hx hb dX10_leg_53 (by decide) ?_
        refine lv_goto (tgt := 87) hx hb dX10_leg_54 (by decide) ?_
        have hPc := hP.sub (ws' := [(h0, .inr (15, zM th b))]) [0] rfl
        have hDc := hD.sub (ws' := [(h0, .inr (15, zM th b))]) [0] (by decide) rfl
        have hKc := hK.sub (tys' := []) [] rfl
        have hFc := va_free (wc := [(h0, .inr (15, zM th b))]) hD hS hA [0] rfl
        refine va_calli (va_runV (As := [.int 1]) (rest := []) ⟨hx, hb, hml, hown, hts⟩ (c_X10_goesOn l htr dC dI e0 H.size h0 th b 1) (cwV 1 hts gX10_leg_X10_goesOn rfl rfl rfl (by decide +kernel) ⟨Nat.le_of_ble_eq_true rfl, Nat.le_of_ble_eq_true rfl⟩) ⟨fun a U g mk q => by obtain ⟨q0, q1, qP, qK, qD⟩ := q; exact ⟨q0, q1, qP, va_K.moved (u := U) (U := U.calling g mk a) (Vm.Alike.refl U.vm) qK, qD⟩, va_recv hKc hPc (ci := 15) (q0 := 0) rfl rfl, fun U hU hW => ⟨rfl, by rw [hU], by rw [hU]; exact hPc, va_K.moved hW.alike hKc, hDc.weaken (fun _ _ _ _ => trivial)⟩⟩ rfl rfl hl.1 rfl (lv_room (Nat.le_of_ble_eq_true rfl)) dX10_leg_87 ⟨Nat.le_of_ble_eq_true rfl, Nat.le_of_ble_eq_true rfl⟩) hS (fun q _ h => hFc q h) hFc (fun r14 u t H1 locs ht hvm hw hB hz1 hk1 hS => ?_)
        obtain ⟨hP1, hK1, hD1⟩ := hB
        rw [ht] at hP1
        obtain ⟨hP, hD⟩ := va_join (wr := [((b 0), .inr (4, [.int 0, .ref e0, .int 0])), ((b 1), .inr (4, [.int 0, .ref e0, .int 0])), ((b 2), .inr (4, [.int 0, .ref e0, .int 0])), ((b 3), .inr (4, [.int 0, .ref e0, .int 0]))]) (w1 := [(h0, .inr (15, zM 1 b))]) hP hD [0] [1, 2, 3, 4] rfl rfl (by decide) (by decide) hk1 hFc hP1 hD1
        generalize H1 = H at hP hS ⊢
        have hP : va_P (dC, dI) vwCl [((b 0), .inr (4, [.int 0, .ref e0, .int 0])), ((b 1), .inr (4, [.int 0, .ref e0, .int 0])), ((b 2), .inr (4, [.int 0, .ref e0, .int 0])), ((b 3), .inr (4, [.int 0, .ref e0, .int 0])), (h0, .inr (15, zM 1 b))] H := hP
        have hD : va_D A [((b 0), .inr (4, [.int 0, .ref e0, .int 0])), ((b 1), .inr (4, [.int 0, .ref e0, .int 0])), ((b 2), .inr (4, [.int 0, .ref e0, .int 0])), ((b 3), .inr (4, [.int 0, .ref e0, .int 0])), (h0, .inr (15, zM 1 b))] := hD
        obtain rfl : r14 = 0 := hw.trans (by decide)
        refine lv_if_ne (tgt := 95) hx hb dX10_leg_90 (by decide) (fun c15 => absurd (by decide) c15) (fun _ => ?_)
        refine lv_iconst (v := 0) hx hb dX10_leg_93 (by decide) ?_
        have hP9 := hP.sub (ws' := [(h0, .inr (15, zM 1 b))]) [4] rfl
        have hD9 := hD.sub (ws' := [(h0, .inr (15, zM 1 b))]) [4] (by decide) rfl
        have hK9 := hK.sub (tys' := []) [] rfl
        exact W.iret (v := 0) hx hb hr (fun t ht hW => ⟨⟨0, (), rfl, rfl, ⟨by rw [ht]; exact hP9, va_K.moved hW.alike hK9, hD9⟩⟩, hS.F ht⟩) hS.2.2 dX10_leg_94
      · exact absurd ⟨zx_pos hr1 c2, zx_pos hr6 c7, zx_pos hr11 c12⟩ hnot

set_option maxRecDepth 20000 in
theorem ggX10_team_Jx4a65c_add_9ea2d : GoodIn wsX10_team wsJx4a65c_add_9ea2d := goodIn_r _ [54, 55, 56, 40, 10, 57, 58, 59, 8, 60, 61, 62, 63, 64, 65, 66, 67, 68, 39, 69, 70, 71, 72, 73, 74, 75, 76, 77, 78, 79, 80, 81, 82, 83, 84, 85, 86, 87, 88, 89, 90, 91, 92, 93, 94, 95, 96, 97, 98, 99, 100, 101, 102, 136, 137, 138] (by decide +kernel) (by decide +kernel)
set_option maxRecDepth 20000 in
theorem gX10_team_Jx4a65c_add_9ea2d_f87Jx4a65c : GoodIn wsX10_team (va_wsF RX10 87 RJx4a65c ⟨"java/util/List", "add", "(Ljava/lang/Object;)Z"⟩ yJx4a65c_add_9ea2d wsJx4a65c_add_9ea2d) := goodIn_app (goodIn_of _ (by decide +kernel)) ggX10_team_Jx4a65c_add_9ea2d
set_option maxRecDepth 20000 in
theorem ggX10_team_Jx4a65c_size_8abf5 : GoodIn wsX10_team wsJx4a65c_size_8abf5 := goodIn_r _ [9, 10, 136, 137, 138] (by decide +kernel) (by decide +kernel)
set_option maxRecDepth 20000 in
theorem gX10_team_Jx4a65c_size_8abf5_f59Jx4a65c : GoodIn wsX10_team (va_wsF RX10 59 RJx4a65c ⟨"java/util/List", "size", "()I"⟩ yJx4a65c_size_8abf5 wsJx4a65c_size_8abf5) := goodIn_app (goodIn_of _ (by decide +kernel)) ggX10_team_Jx4a65c_size_8abf5
set_option maxRecDepth 20000 in
theorem ggX10_team_X10_goesOn : GoodIn wsX10_team wsX10_goesOn := goodIn_r _ [15, 16, 103, 104, 105, 106, 107, 108, 109, 110, 111, 112, 113] (by decide +kernel) (by decide +kernel)
set_option maxRecDepth 20000 in
theorem gX10_team_X10_goesOn : GoodIn wsX10_team (wsV RX10 78 RX10 yX10_goesOn wsX10_goesOn) := goodIn_app (goodIn_of _ (by decide +kernel)) ggX10_team_X10_goesOn
set_option maxRecDepth 20000 in
theorem ggX10_team_X9_init : GoodIn wsX10_team wsX9_init := goodIn_r _ [19, 20, 21, 22, 23, 24, 8, 25, 26, 27, 28, 29, 30, 31, 32, 33, 34, 35, 36, 37, 38, 39, 40, 41, 42, 43, 44, 45, 46, 47, 48, 49, 50, 136, 137, 138, 114, 115, 116, 117, 118, 119, 120, 121, 122, 123, 124, 125, 126, 127, 128, 129, 130, 131, 132, 133, 134, 135] (by decide +kernel) (by decide +kernel)
set_option maxRecDepth 20000 in
theorem gX10_team_X9_init : GoodIn wsX10_team (wsX9_init) := ggX10_team_X9_init
theorem dX10_team_0 : decode cX10_team 0 = .ok (.aload_n 0, 1) := by decide +kernel
theorem dX10_team_1 : decode cX10_team 1 = .ok (.aload_n 0, 1) := by decide +kernel
theorem dX10_team_2 : decode cX10_team 2 = .ok (.getfield 19, 3) := by decide +kernel
theorem dX10_team_5 : decode cX10_team 5 = .ok (.invokeinterface 59 1, 5) := by decide +kernel
theorem dX10_team_10 : decode cX10_team 10 = .ok (.bipush 6, 2) := by decide +kernel
theorem dX10_team_12 : decode cX10_team 12 = .ok (.if_icmp .ne 7, 3) := by decide +kernel
theorem dX10_team_19 : decode cX10_team 19 = .ok (.iconst 0, 1) := by decide +kernel
theorem dX10_team_20 : decode cX10_team 20 = .ok (.invokevirtual 78, 3) := by decide +kernel
theorem dX10_team_23 : decode cX10_team 23 = .ok (.ifCond .ne 5, 3) := by decide +kernel
theorem dX10_team_28 : decode cX10_team 28 = .ok (.aload_n 0, 1) := by decide +kernel
theorem dX10_team_29 : decode cX10_team 29 = .ok (.getfield 19, 3) := by decide +kernel
theorem dX10_team_32 : decode cX10_team 32 = .ok (.new 54, 3) := by decide +kernel
theorem dX10_team_35 : decode cX10_team 35 = .ok (.dup, 1) := by decide +kernel
theorem dX10_team_36 : decode cX10_team 36 = .ok (.aload_n 0, 1) := by decide +kernel
theorem dX10_team_37 : decode cX10_team 37 = .ok (.getfield 19, 3) := by decide +kernel
theorem dX10_team_40 : decode cX10_team 40 = .ok (.invokeinterface 59 1, 5) := by decide +kernel
theorem dX10_team_45 : decode cX10_team 45 = .ok (.invokespecial 108, 3) := by decide +kernel
theorem dX10_team_48 : decode cX10_team 48 = .ok (.invokeinterface 87 2, 5) := by decide +kernel
theorem dX10_team_53 : decode cX10_team 53 = .ok (.pop, 1) := by decide +kernel
theorem dX10_team_54 : decode cX10_team 54 = .ok (.aload_n 0, 1) := by decide +kernel
theorem dX10_team_55 : decode cX10_team 55 = .ok (.getfield 19, 3) := by decide +kernel
theorem dX10_team_58 : decode cX10_team 58 = .ok (.invokeinterface 59 1, 5) := by decide +kernel
theorem dX10_team_63 : decode cX10_team 63 = .ok (.iconst 1, 1) := by decide +kernel
theorem dX10_team_64 : decode cX10_team 64 = .ok (.isub, 1) := by decide +kernel
theorem dX10_team_65 : decode cX10_team 65 = .ok (.ireturn, 1) := by decide +kernel
set_option maxHeartbeats 4000000 in
set_option maxRecDepth 100000 in
theorem c_X10_team (l : Launch) (htr : l.stackTraces = false) (dC : Nat → ClassId) (dI : Nat → Nat → Nat) (e0 sz : Nat) (h0 : Nat) (th : Int32) (b : Nat → Nat) : Met l yX10_team wsX10_team ({ frames := 5, cells := 5, slots := 49, locals := 102 }) (va_Pc [.ref h0] (fun U => U.heap.size = sz ∧ va_P (dC, dI) vwCl [(h0, .inr (15, zM th b)), ((b 0), .inr (4, [.int 0, .ref e0, .int 0])), ((b 1), .inr (4, [.int 0, .ref e0, .int 0])), ((b 2), .inr (4, [.int 0, .ref e0, .int 0])), ((b 3), .inr (4, [.int 0, .ref e0, .int 0]))] U.heap ∧ va_K (dC, dI) vwCl [] U ∧ va_D (fun _ => True) [(h0, .inr (15, zM th b)), ((b 0), .inr (4, [.int 0, .ref e0, .int 0])), ((b 1), .inr (4, [.int 0, .ref e0, .int 0])), ((b 2), .inr (4, [.int 0, .ref e0, .int 0])), ((b 3), .inr (4, [.int 0, .ref e0, .int 0]))] ∧ zE e0 (va_A [(h0, .inr (15, zM th b)), ((b 0), .inr (4, [.int 0, .ref e0, .int 0])), ((b 1), .inr (4, [.int 0, .ref e0, .int 0])), ((b 2), .inr (4, [.int 0, .ref e0, .int 0])), ((b 3), .inr (4, [.int 0, .ref e0, .int 0]))] sz) U U.heap)) (va_Qi (fun (r : Int32) (_ : Unit) => r = 0) (fun _ t => va_P (dC, dI) vwCl [(h0, .inr (15, zM 0 b))] t.heap ∧ va_K (dC, dI) vwCl [] t ∧ va_D (va_A [(h0, .inr (15, zM th b)), ((b 0), .inr (4, [.int 0, .ref e0, .int 0])), ((b 1), .inr (4, [.int 0, .ref e0, .int 0])), ((b 2), .inr (4, [.int 0, .ref e0, .int 0])), ((b 3), .inr (4, [.int 0, .ref e0, .int 0]))] sz) [(h0, .inr (15, zM 0 b))]) (va_A [(h0, .inr (15, zM th b)), ((b 0), .inr (4, [.int 0, .ref e0, .int 0])), ((b 1), .inr (4, [.int 0, .ref e0, .int 0])), ((b 2), .inr (4, [.int 0, .ref e0, .int 0])), ((b 3), .inr (4, [.int 0, .ref e0, .int 0]))] sz)) 5 49 (va_A [(h0, .inr (15, zM th b)), ((b 0), .inr (4, [.int 0, .ref e0, .int 0])), ((b 1), .inr (4, [.int 0, .ref e0, .int 0])), ((b 2), .inr (4, [.int 0, .ref e0, .int 0])), ((b 3), .inr (4, [.int 0, .ref e0, .int 0]))] sz) := by
  refine Met.ofW (cc := cX10_team) (maxL := 1) (ret := (some .int)) (by decide) rfl ?_
  intro p e s m args below meth c s₁ B hml hv
  obtain ⟨rfl, hsz, hP, hK, hD0, hE⟩ := hv
  have hx := B.exec
  have hb := B.bytes
  have hr := B.returns
  have hts := atoms_spec (ws := wsX10_team) B.pre
  have hown : s.vm.findClass RX10 = some m.cls := findClass_of_methodNamed B.named
  have hlocks := B.notSynchronized
  subst hsz
  have hD := hD0.self (sz := s.heap.size)
  generalize hAe : va_A [(h0, .inr (15, zM th b)), ((b 0), .inr (4, [.int 0, .ref e0, .int 0])), ((b 1), .inr (4, [.int 0, .ref e0, .int 0])), ((b 2), .inr (4, [.int 0, .ref e0, .int 0])), ((b 3), .inr (4, [.int 0, .ref e0, .int 0]))] s.heap.size = A at hD hE ⊢
  have hA : ∀ q : Nat, s.heap.size ≤ q → A q := fun q h => by rw [← hAe]; exact Or.inr h
  have hS : va_S A s.heap s.heap [] := va_S.rf
  have hl := lv_entry ([.ref h0]) (n := 1) (Nat.le_of_ble_eq_true rfl)
  rw [lg_entry_eq]
  generalize (lg_sl ([.ref h0]) ++ List.replicate (1 - (lg_sl ([.ref h0])).length) Slot.unset).toArray = ls at hl ⊢
  have hl : lv_has ls 1 [(0, .ref h0)] := hl
  refine lv_aload_n hx hb dX10_team_0 rfl (lv_at hl 0 rfl) ?_
  refine lv_aload_n hx hb dX10_team_1 rfl (lv_at hl 0 rfl) ?_
  refine va_get (D := (dC, dI)) (ci := 15) (v := .ref (b 2)) (C := RX10) (T := TX10) (N := 11) hx hb hts (by decide +kernel) hown hK hP 0 rfl rfl 3 (by decide) (hts (.fieldLink RX10 19 "GanglineModel" "teams" "Ljava/util/List;") (by decide +kernel)) (fun _ h9 => h9) rfl dX10_team_2 ?_
  have hPc := hP.sub (ws' := [((b 2), .inr (4, [.int 0, .ref e0, .int 0]))]) [3] rfl
  have hDc := hD.sub (ws' := [((b 2), .inr (4, [.int 0, .ref e0, .int 0]))]) [3] (by decide) rfl
  have hKc := hK.sub (tys' := []) [] rfl
  have hFc := va_free (wc := [((b 2), .inr (4, [.int 0, .ref e0, .int 0]))]) hD hS hA [3] rfl
  refine va_callFi (va_runF (As := []) (rest := [.ref h0]) (hK.1 4 _ rfl).2 ⟨hx, hb, hml, hown, hts⟩ (c_Jx4a65c_size_8abf5 l htr dC dI e0 s.heap.size (b 2) 0 e0 0) (va_cwF 0 hts gX10_team_Jx4a65c_size_8abf5_f59Jx4a65c rfl rfl rfl (zV_W_size hE.v) (by decide +kernel) ⟨Nat.le_of_ble_eq_true rfl, Nat.le_of_ble_eq_true rfl⟩) ⟨fun a U g mk q => by obtain ⟨q0, q1, qP, qK, qD⟩ := q; exact ⟨q0, q1, qP, va_K.moved (u := U) (U := U.calling g mk a) (Vm.Alike.refl U.vm) qK, qD⟩, va_recv hKc hPc (ci := 4) (q0 := 0) rfl rfl, fun U hU hW => ⟨rfl, by rw [hU], by rw [hU]; exact hPc, va_K.moved hW.alike hKc, hDc.weaken (fun _ _ _ _ => trivial)⟩⟩ rfl rfl hl.1 rfl (lv_room (Nat.le_of_ble_eq_true rfl)) dX10_team_5 ⟨Nat.le_of_ble_eq_true rfl, Nat.le_of_ble_eq_true rfl⟩) hS (fun q _ h => hFc q h) hFc (fun r1 u t H1 locs ht hvm hw hB hz1 hk1 hS => ?_)
  obtain ⟨hP1, hK1, hD1⟩ := hB
  rw [ht] at hP1
  obtain ⟨hP, hD⟩ := va_join (wr := [(h0, .inr (15, zM th b)), ((b 0), .inr (4, [.int 0, .ref e0, .int 0])), ((b 1), .inr (4, [.int 0, .ref e0, .int 0])), ((b 3), .inr (4, [.int 0, .ref e0, .int 0]))]) (w1 := [((b 2), .inr (4, [.int 0, .ref e0, .int 0]))]) hP hD [3] [0, 1, 2, 4] rfl rfl (by decide) (by decide) hk1 hFc hP1 hD1
  generalize H1 = H at hP hS ⊢
  have hP : va_P (dC, dI) vwCl [(h0, .inr (15, zM th b)), ((b 0), .inr (4, [.int 0, .ref e0, .int 0])), ((b 1), .inr (4, [.int 0, .ref e0, .int 0])), ((b 3), .inr (4, [.int 0, .ref e0, .int 0])), ((b 2), .inr (4, [.int 0, .ref e0, .int 0]))] H := hP
  have hD : va_D A [(h0, .inr (15, zM th b)), ((b 0), .inr (4, [.int 0, .ref e0, .int 0])), ((b 1), .inr (4, [.int 0, .ref e0, .int 0])), ((b 3), .inr (4, [.int 0, .ref e0, .int 0])), ((b 2), .inr (4, [.int 0, .ref e0, .int 0]))] := hD
  obtain rfl : r1 = 0 := hw
  refine lv_bipush (v := 6) hx hb dX10_team_10 (by decide) ?_
  refine lv_icmp_ne (tgt := 19) hx hb dX10_team_12 (by decide) (fun _ => ?_) (fun c2 => absurd c2 (by decide))
  refine lv_iconst (v := 0) hx hb dX10_team_19 (by decide) ?_
  have hPc := hP.sub (ws' := [(h0, .inr (15, zM th b))]) [0] rfl
  have hDc := hD.sub (ws' := [(h0, .inr (15, zM th b))]) [0] (by decide) rfl
  have hKc := hK.sub (tys' := []) [] rfl
  have hFc := va_free (wc := [(h0, .inr (15, zM th b))]) hD hS hA [0] rfl
  refine va_calli (va_runV (As := [.int 0]) (rest := []) ⟨hx, hb, hml, hown, hts⟩ (c_X10_goesOn l htr dC dI e0 H.size h0 th b 0) (cwV 1 hts gX10_team_X10_goesOn rfl rfl rfl (by decide +kernel) ⟨Nat.le_of_ble_eq_true rfl, Nat.le_of_ble_eq_true rfl⟩) ⟨fun a U g mk q => by obtain ⟨q0, q1, qP, qK, qD⟩ := q; exact ⟨q0, q1, qP, va_K.moved (u := U) (U := U.calling g mk a) (Vm.Alike.refl U.vm) qK, qD⟩, va_recv hKc hPc (ci := 15) (q0 := 0) rfl rfl, fun U hU hW => ⟨rfl, by rw [hU], by rw [hU]; exact hPc, va_K.moved hW.alike hKc, hDc.weaken (fun _ _ _ _ => trivial)⟩⟩ rfl rfl hl.1 rfl (lv_room (Nat.le_of_ble_eq_true rfl)) dX10_team_20 ⟨Nat.le_of_ble_eq_true rfl, Nat.le_of_ble_eq_true rfl⟩) hS (fun q _ h => hFc q h) hFc (fun r3 u t H1 locs ht hvm hw hB hz1 hk1 hS => ?_)
  obtain ⟨hP1, hK1, hD1⟩ := hB
  rw [ht] at hP1
  obtain ⟨hP, hD⟩ := va_join (wr := [((b 0), .inr (4, [.int 0, .ref e0, .int 0])), ((b 1), .inr (4, [.int 0, .ref e0, .int 0])), ((b 3), .inr (4, [.int 0, .ref e0, .int 0])), ((b 2), .inr (4, [.int 0, .ref e0, .int 0]))]) (w1 := [(h0, .inr (15, zM 0 b))]) hP hD [0] [1, 2, 3, 4] rfl rfl (by decide) (by decide) hk1 hFc hP1 hD1
  generalize H1 = H at hP hS ⊢
  have hP : va_P (dC, dI) vwCl [((b 0), .inr (4, [.int 0, .ref e0, .int 0])), ((b 1), .inr (4, [.int 0, .ref e0, .int 0])), ((b 3), .inr (4, [.int 0, .ref e0, .int 0])), ((b 2), .inr (4, [.int 0, .ref e0, .int 0])), (h0, .inr (15, zM 0 b))] H := hP
  have hD : va_D A [((b 0), .inr (4, [.int 0, .ref e0, .int 0])), ((b 1), .inr (4, [.int 0, .ref e0, .int 0])), ((b 3), .inr (4, [.int 0, .ref e0, .int 0])), ((b 2), .inr (4, [.int 0, .ref e0, .int 0])), (h0, .inr (15, zM 0 b))] := hD
  obtain rfl : r3 = 1 := hw.trans (by decide)
  refine lv_if_ne (tgt := 28) hx hb dX10_team_23 (by decide) (fun _ => ?_) (fun c4 => absurd c4 (by decide))
  refine lv_aload_n hx hb dX10_team_28 rfl (lv_at hl 0 rfl) ?_
  refine va_get (D := (dC, dI)) (ci := 15) (v := .ref (b 2)) (C := RX10) (T := TX10) (N := 11) hx hb hts (by decide +kernel) hown hK hP 4 rfl rfl 3 (by decide) (hts (.fieldLink RX10 19 "GanglineModel" "teams" "Ljava/util/List;") (by decide +kernel)) (fun _ h9 => h9) rfl dX10_team_29 ?_
  refine va_new (ci := 14) (fs := [.int 0, .null, .null, .null, .int 0, .int 0, .int 0, .int 0, .int 0, .int 0, .int 0, .int 0, .int 0, .int 0, .int 0, .int 0, .int 0, .int 0, .int 0, .int 0, .int 0, .int 0]) (C := RX9) (T := TX9) (N := 22) hx hb hts (by decide +kernel) tyX9 tyX9_ok hown (hts (.classLink RX10 54 RX9) (by decide +kernel)) (hts (.instantiable RX9 22) (by decide +kernel)) (hts (.initialized RX9) (by decide +kernel)) hK hP hD hS hA rfl (fun j hj => by rcases (show j = 0 ∨ j = 1 ∨ j = 2 ∨ j = 3 ∨ j = 4 ∨ j = 5 ∨ j = 6 ∨ j = 7 ∨ j = 8 ∨ j = 9 ∨ j = 10 ∨ j = 11 ∨ j = 12 ∨ j = 13 ∨ j = 14 ∨ j = 15 ∨ j = 16 ∨ j = 17 ∨ j = 18 ∨ j = 19 ∨ j = 20 ∨ j = 21 by omega) with rfl | rfl | rfl | rfl | rfl | rfl | rfl | rfl | rfl | rfl | rfl | rfl | rfl | rfl | rfl | rfl | rfl | rfl | rfl | rfl | rfl | rfl <;> rfl) (Nat.le_of_ble_eq_true rfl) (Nat.le_of_ble_eq_true rfl) dX10_team_32 (fun q5 H hP hD hS => ?_)
  have hP : va_P (dC, dI) vwCl [((b 0), .inr (4, [.int 0, .ref e0, .int 0])), ((b 1), .inr (4, [.int 0, .ref e0, .int 0])), ((b 3), .inr (4, [.int 0, .ref e0, .int 0])), ((b 2), .inr (4, [.int 0, .ref e0, .int 0])), (h0, .inr (15, zM 0 b)), (q5, .inr (14, [.int 0, .null, .null, .null, .int 0, .int 0, .int 0, .int 0, .int 0, .int 0, .int 0, .int 0, .int 0, .int 0, .int 0, .int 0, .int 0, .int 0, .int 0, .int 0, .int 0, .int 0]))] H := hP
  have hD : va_D A [((b 0), .inr (4, [.int 0, .ref e0, .int 0])), ((b 1), .inr (4, [.int 0, .ref e0, .int 0])), ((b 3), .inr (4, [.int 0, .ref e0, .int 0])), ((b 2), .inr (4, [.int 0, .ref e0, .int 0])), (h0, .inr (15, zM 0 b)), (q5, .inr (14, [.int 0, .null, .null, .null, .int 0, .int 0, .int 0, .int 0, .int 0, .int 0, .int 0, .int 0, .int 0, .int 0, .int 0, .int 0, .int 0, .int 0, .int 0, .int 0, .int 0, .int 0]))] := hD
  refine W.widen (k := 1) (n := 22) (by decide) (by decide) ?_
  refine lv_dup hx hb dX10_team_35 rfl ?_
  refine lv_aload_n hx hb dX10_team_36 rfl (lv_at hl 0 rfl) ?_
  refine va_get (D := (dC, dI)) (ci := 15) (v := .ref (b 2)) (C := RX10) (T := TX10) (N := 11) hx hb hts (by decide +kernel) hown hK hP 4 rfl rfl 3 (by decide) (hts (.fieldLink RX10 19 "GanglineModel" "teams" "Ljava/util/List;") (by decide +kernel)) (fun _ h9 => h9) rfl dX10_team_37 ?_
  have hPc := hP.sub (ws' := [((b 2), .inr (4, [.int 0, .ref e0, .int 0]))]) [3] rfl
  have hDc := hD.sub (ws' := [((b 2), .inr (4, [.int 0, .ref e0, .int 0]))]) [3] (by decide) rfl
  have hKc := hK.sub (tys' := []) [] rfl
  have hFc := va_free (wc := [((b 2), .inr (4, [.int 0, .ref e0, .int 0]))]) hD hS hA [3] rfl
  refine va_callFi (va_runF (As := []) (rest := [.ref q5, .ref q5, .ref (b 2)]) (hK.1 4 _ rfl).2 ⟨hx, hb, hml, hown, hts⟩ (c_Jx4a65c_size_8abf5 l htr dC dI e0 H.size (b 2) 0 e0 0) (va_cwF 0 hts gX10_team_Jx4a65c_size_8abf5_f59Jx4a65c rfl rfl rfl (zV_W_size hE.v) (by decide +kernel) ⟨Nat.le_of_ble_eq_true rfl, Nat.le_of_ble_eq_true rfl⟩) ⟨fun a U g mk q => by obtain ⟨q0, q1, qP, qK, qD⟩ := q; exact ⟨q0, q1, qP, va_K.moved (u := U) (U := U.calling g mk a) (Vm.Alike.refl U.vm) qK, qD⟩, va_recv hKc hPc (ci := 4) (q0 := 0) rfl rfl, fun U hU hW => ⟨rfl, by rw [hU], by rw [hU]; exact hPc, va_K.moved hW.alike hKc, hDc.weaken (fun _ _ _ _ => trivial)⟩⟩ rfl rfl hl.1 rfl (lv_room (Nat.le_of_ble_eq_true rfl)) dX10_team_40 ⟨Nat.le_of_ble_eq_true rfl, Nat.le_of_ble_eq_true rfl⟩) hS (fun q _ h => hFc q h) hFc (fun r6 u t H1 locs ht hvm hw hB hz1 hk1 hS => ?_)
  obtain ⟨hP1, hK1, hD1⟩ := hB
  rw [ht] at hP1
  obtain ⟨hP, hD⟩ := va_join (wr := [((b 0), .inr (4, [.int 0, .ref e0, .int 0])), ((b 1), .inr (4, [.int 0, .ref e0, .int 0])), ((b 3), .inr (4, [.int 0, .ref e0, .int 0])), (h0, .inr (15, zM 0 b)), (q5, .inr (14, [.int 0, .null, .null, .null, .int 0, .int 0, .int 0, .int 0, .int 0, .int 0, .int 0, .int 0, .int 0, .int 0, .int 0, .int 0, .int 0, .int 0, .int 0, .int 0, .int 0, .int 0]))]) (w1 := [((b 2), .inr (4, [.int 0, .ref e0, .int 0]))]) hP hD [3] [0, 1, 2, 4, 5] rfl rfl (by decide) (by decide) hk1 hFc hP1 hD1
  generalize H1 = H at hP hS ⊢
  have hP : va_P (dC, dI) vwCl [((b 0), .inr (4, [.int 0, .ref e0, .int 0])), ((b 1), .inr (4, [.int 0, .ref e0, .int 0])), ((b 3), .inr (4, [.int 0, .ref e0, .int 0])), (h0, .inr (15, zM 0 b)), (q5, .inr (14, [.int 0, .null, .null, .null, .int 0, .int 0, .int 0, .int 0, .int 0, .int 0, .int 0, .int 0, .int 0, .int 0, .int 0, .int 0, .int 0, .int 0, .int 0, .int 0, .int 0, .int 0])), ((b 2), .inr (4, [.int 0, .ref e0, .int 0]))] H := hP
  have hD : va_D A [((b 0), .inr (4, [.int 0, .ref e0, .int 0])), ((b 1), .inr (4, [.int 0, .ref e0, .int 0])), ((b 3), .inr (4, [.int 0, .ref e0, .int 0])), (h0, .inr (15, zM 0 b)), (q5, .inr (14, [.int 0, .null, .null, .null, .int 0, .int 0, .int 0, .int 0, .int 0, .int 0, .int 0, .int 0, .int 0, .int 0, .int 0, .int 0, .int 0, .int 0, .int 0, .int 0, .int 0, .int 0])), ((b 2), .inr (4, [.int 0, .ref e0, .int 0]))] := hD
  obtain rfl : r6 = 0 := hw
  have hPc := hP.sub (ws' := [(q5, .inr (14, [.int 0, .null, .null, .null, .int 0, .int 0, .int 0, .int 0, .int 0, .int 0, .int 0, .int 0, .int 0, .int 0, .int 0, .int 0, .int 0, .int 0, .int 0, .int 0, .int 0, .int 0]))]) [4] rfl
  have hDc := hD.sub (ws' := [(q5, .inr (14, [.int 0, .null, .null, .null, .int 0, .int 0, .int 0, .int 0, .int 0, .int 0, .int 0, .int 0, .int 0, .int 0, .int 0, .int 0, .int 0, .int 0, .int 0, .int 0, .int 0, .int 0]))]) [4] (by decide) rfl
  have hKc := hK.sub (tys' := []) [] rfl
  have hFc := va_free (wc := [(q5, .inr (14, [.int 0, .null, .null, .null, .int 0, .int 0, .int 0, .int 0, .int 0, .int 0, .int 0, .int 0, .int 0, .int 0, .int 0, .int 0, .int 0, .int 0, .int 0, .int 0, .int 0, .int 0]))]) hD hS hA [4] rfl
  have hEc := (hE.kept hS.2.1).narrow hFc
  refine va_callv (va_runI (As := [.int 0]) (rest := [.ref q5, .ref (b 2)]) ⟨hx, hb, hml, hown, hts⟩ (c_X9_init l htr dC dI e0 H.size q5 0) (cwI 1 hts gX10_team_X9_init rfl rfl rfl (hts (.initialized RX9) (by decide +kernel)) (hts (.methodLink RX10 108 yX9_init) (by decide +kernel)) (hts (.instanceMethod yX9_init) (by decide +kernel)) rfl (by decide +kernel) ⟨Nat.le_of_ble_eq_true rfl, Nat.le_of_ble_eq_true rfl⟩) ⟨fun a U g mk q => by obtain ⟨q0, q1, qP, qK, qD, qE⟩ := q; exact ⟨q0, q1, qP, va_K.moved (u := U) (U := U.calling g mk a) (Vm.Alike.refl U.vm) qK, qD, zE.same rfl qE⟩, fun U hU hW => ⟨rfl, by rw [hU], by rw [hU]; exact hPc, va_K.moved hW.alike hKc, hDc.weaken (fun _ _ _ _ => trivial), by rw [hU]; exact zE.warm hW hEc⟩⟩ rfl rfl hl.1 rfl (lv_room (Nat.le_of_ble_eq_true rfl)) dX10_team_45 ⟨Nat.le_of_ble_eq_true rfl, Nat.le_of_ble_eq_true rfl⟩) hS (fun q _ h => hFc q h) hFc (fun u t H1 locs ht hvm hw hB hz1 hk1 hS => ?_)
  obtain ⟨q7, q8, q9, hP1, hK1, hD1⟩ := hB
  rw [ht] at hP1
  obtain ⟨hP, hD⟩ := va_join (wr := [((b 0), .inr (4, [.int 0, .ref e0, .int 0])), ((b 1), .inr (4, [.int 0, .ref e0, .int 0])), ((b 3), .inr (4, [.int 0, .ref e0, .int 0])), (h0, .inr (15, zM 0 b)), ((b 2), .inr (4, [.int 0, .ref e0, .int 0]))]) (w1 := [(q5, .inr (14, [.int 0, .ref q7, .ref q8, .ref q9, .int 45, .int 0, .int 0, .int 0, .int 0, .int 100, .int 0, .int 3, .int 6, .int 0, .int 2, .int 0, .int 0, .int 0, .int 0, .int 45, .int 0, .int 0]))]) hP hD [4] [0, 1, 2, 3, 5] rfl rfl (by decide) (by decide) hk1 hFc hP1 hD1
  generalize H1 = H at hP hS ⊢
  have hP : va_P (dC, dI) vwCl [((b 0), .inr (4, [.int 0, .ref e0, .int 0])), ((b 1), .inr (4, [.int 0, .ref e0, .int 0])), ((b 3), .inr (4, [.int 0, .ref e0, .int 0])), (h0, .inr (15, zM 0 b)), ((b 2), .inr (4, [.int 0, .ref e0, .int 0])), (q5, .inr (14, [.int 0, .ref q7, .ref q8, .ref q9, .int 45, .int 0, .int 0, .int 0, .int 0, .int 100, .int 0, .int 3, .int 6, .int 0, .int 2, .int 0, .int 0, .int 0, .int 0, .int 45, .int 0, .int 0]))] H := hP
  have hD : va_D A [((b 0), .inr (4, [.int 0, .ref e0, .int 0])), ((b 1), .inr (4, [.int 0, .ref e0, .int 0])), ((b 3), .inr (4, [.int 0, .ref e0, .int 0])), (h0, .inr (15, zM 0 b)), ((b 2), .inr (4, [.int 0, .ref e0, .int 0])), (q5, .inr (14, [.int 0, .ref q7, .ref q8, .ref q9, .int 45, .int 0, .int 0, .int 0, .int 0, .int 100, .int 0, .int 3, .int 6, .int 0, .int 2, .int 0, .int 0, .int 0, .int 0, .int 45, .int 0, .int 0]))] := hD
  have hPc := hP.sub (ws' := [((b 2), .inr (4, [.int 0, .ref e0, .int 0])), (q5, .inr (14, [.int 0, .ref q7, .ref q8, .ref q9, .int 45, .int 0, .int 0, .int 0, .int 0, .int 100, .int 0, .int 3, .int 6, .int 0, .int 2, .int 0, .int 0, .int 0, .int 0, .int 45, .int 0, .int 0]))]) [4, 5] rfl
  have hDc := hD.sub (ws' := [((b 2), .inr (4, [.int 0, .ref e0, .int 0])), (q5, .inr (14, [.int 0, .ref q7, .ref q8, .ref q9, .int 45, .int 0, .int 0, .int 0, .int 0, .int 100, .int 0, .int 3, .int 6, .int 0, .int 2, .int 0, .int 0, .int 0, .int 0, .int 45, .int 0, .int 0]))]) [4, 5] (by decide) rfl
  have hKc := hK.sub (tys' := []) [] rfl
  have hFc := va_free (wc := [((b 2), .inr (4, [.int 0, .ref e0, .int 0])), (q5, .inr (14, [.int 0, .ref q7, .ref q8, .ref q9, .int 45, .int 0, .int 0, .int 0, .int 0, .int 100, .int 0, .int 3, .int 6, .int 0, .int 2, .int 0, .int 0, .int 0, .int 0, .int 45, .int 0, .int 0]))]) hD hS hA [4, 5] rfl
  have hEc := (hE.kept hS.2.1).narrow hFc
  refine va_callFi (va_runF (As := [.ref q5]) (rest := []) (hK.1 4 _ rfl).2 ⟨hx, hb, hml, hown, hts⟩ (c_Jx4a65c_add1_X9 l htr dC dI e0 H.size (b 2) q5 [.int 0, .ref q7, .ref q8, .ref q9, .int 45, .int 0, .int 0, .int 0, .int 0, .int 100, .int 0, .int 3, .int 6, .int 0, .int 2, .int 0, .int 0, .int 0, .int 0, .int 45, .int 0, .int 0]) (va_cwF 1 hts gX10_team_Jx4a65c_add_9ea2d_f87Jx4a65c rfl rfl rfl (zV_W_add hE.v) (by decide +kernel) ⟨Nat.le_of_ble_eq_true rfl, Nat.le_of_ble_eq_true rfl⟩) ⟨fun a U g mk q => by obtain ⟨q0, q1, qP, qK, qD, qE⟩ := q; exact ⟨q0, q1, qP, va_K.moved (u := U) (U := U.calling g mk a) (Vm.Alike.refl U.vm) qK, qD, zE.same rfl qE⟩, va_recv hKc hPc (ci := 4) (q0 := 0) rfl rfl, fun U hU hW => ⟨rfl, by rw [hU], by rw [hU]; exact hPc, va_K.moved hW.alike hKc, hDc.weaken (fun _ _ _ _ => trivial), by rw [hU]; exact zE.warm hW hEc⟩⟩ rfl rfl hl.1 rfl (lv_room (Nat.le_of_ble_eq_true rfl)) dX10_team_48 ⟨Nat.le_of_ble_eq_true rfl, Nat.le_of_ble_eq_true rfl⟩) hS (fun q _ h => hFc q h) hFc (fun r10 u t H1 locs ht hvm hw hB hz1 hk1 hS => ?_)
  obtain ⟨q11, hP1, hK1, hD1⟩ := hB
  rw [ht] at hP1
  obtain ⟨hP, hD⟩ := va_join (wr := [((b 0), .inr (4, [.int 0, .ref e0, .int 0])), ((b 1), .inr (4, [.int 0, .ref e0, .int 0])), ((b 3), .inr (4, [.int 0, .ref e0, .int 0])), (h0, .inr (15, zM 0 b))]) (w1 := [((b 2), .inr (4, [.int 1, .ref q11, .int 1]))]) hP hD [4, 5] [0, 1, 2, 3] rfl rfl (by decide) (by decide) hk1 hFc hP1 hD1
  generalize H1 = H at hP hS ⊢
  have hP : va_P (dC, dI) vwCl [((b 0), .inr (4, [.int 0, .ref e0, .int 0])), ((b 1), .inr (4, [.int 0, .ref e0, .int 0])), ((b 3), .inr (4, [.int 0, .ref e0, .int 0])), (h0, .inr (15, zM 0 b)), ((b 2), .inr (4, [.int 1, .ref q11, .int 1]))] H := hP
  have hD : va_D A [((b 0), .inr (4, [.int 0, .ref e0, .int 0])), ((b 1), .inr (4, [.int 0, .ref e0, .int 0])), ((b 3), .inr (4, [.int 0, .ref e0, .int 0])), (h0, .inr (15, zM 0 b)), ((b 2), .inr (4, [.int 1, .ref q11, .int 1]))] := hD
  obtain rfl : r10 = 1 := hw
  refine lv_pop hx hb dX10_team_53 rfl ?_
  refine lv_aload_n hx hb dX10_team_54 rfl (lv_at hl 0 rfl) ?_
  refine va_get (D := (dC, dI)) (ci := 15) (v := .ref (b 2)) (C := RX10) (T := TX10) (N := 11) hx hb hts (by decide +kernel) hown hK hP 3 rfl rfl 3 (by decide) (hts (.fieldLink RX10 19 "GanglineModel" "teams" "Ljava/util/List;") (by decide +kernel)) (fun _ h9 => h9) rfl dX10_team_55 ?_
  have hPc := hP.sub (ws' := [((b 2), .inr (4, [.int 1, .ref q11, .int 1]))]) [4] rfl
  have hDc := hD.sub (ws' := [((b 2), .inr (4, [.int 1, .ref q11, .int 1]))]) [4] (by decide) rfl
  have hKc := hK.sub (tys' := []) [] rfl
  have hFc := va_free (wc := [((b 2), .inr (4, [.int 1, .ref q11, .int 1]))]) hD hS hA [4] rfl
  refine va_callFi (va_runF (As := []) (rest := []) (hK.1 4 _ rfl).2 ⟨hx, hb, hml, hown, hts⟩ (c_Jx4a65c_size_8abf5 l htr dC dI e0 H.size (b 2) 1 q11 1) (va_cwF 0 hts gX10_team_Jx4a65c_size_8abf5_f59Jx4a65c rfl rfl rfl (zV_W_size hE.v) (by decide +kernel) ⟨Nat.le_of_ble_eq_true rfl, Nat.le_of_ble_eq_true rfl⟩) ⟨fun a U g mk q => by obtain ⟨q0, q1, qP, qK, qD⟩ := q; exact ⟨q0, q1, qP, va_K.moved (u := U) (U := U.calling g mk a) (Vm.Alike.refl U.vm) qK, qD⟩, va_recv hKc hPc (ci := 4) (q0 := 0) rfl rfl, fun U hU hW => ⟨rfl, by rw [hU], by rw [hU]; exact hPc, va_K.moved hW.alike hKc, hDc.weaken (fun _ _ _ _ => trivial)⟩⟩ rfl rfl hl.1 rfl (lv_room (Nat.le_of_ble_eq_true rfl)) dX10_team_58 ⟨Nat.le_of_ble_eq_true rfl, Nat.le_of_ble_eq_true rfl⟩) hS (fun q _ h => hFc q h) hFc (fun r12 u t H1 locs ht hvm hw hB hz1 hk1 hS => ?_)
  obtain ⟨hP1, hK1, hD1⟩ := hB
  rw [ht] at hP1
  obtain ⟨hP, hD⟩ := va_join (wr := [((b 0), .inr (4, [.int 0, .ref e0, .int 0])), ((b 1), .inr (4, [.int 0, .ref e0, .int 0])), ((b 3), .inr (4, [.int 0, .ref e0, .int 0])), (h0, .inr (15, zM 0 b))]) (w1 := [((b 2), .inr (4, [.int 1, .ref q11, .int 1]))]) hP hD [4] [0, 1, 2, 3] rfl rfl (by decide) (by decide) hk1 hFc hP1 hD1
  generalize H1 = H at hP hS ⊢
  have hP : va_P (dC, dI) vwCl [((b 0), .inr (4, [.int 0, .ref e0, .int 0])), ((b 1), .inr (4, [.int 0, .ref e0, .int 0])), ((b 3), .inr (4, [.int 0, .ref e0, .int 0])), (h0, .inr (15, zM 0 b)), ((b 2), .inr (4, [.int 1, .ref q11, .int 1]))] H := hP
  have hD : va_D A [((b 0), .inr (4, [.int 0, .ref e0, .int 0])), ((b 1), .inr (4, [.int 0, .ref e0, .int 0])), ((b 3), .inr (4, [.int 0, .ref e0, .int 0])), (h0, .inr (15, zM 0 b)), ((b 2), .inr (4, [.int 1, .ref q11, .int 1]))] := hD
  obtain rfl : r12 = 1 := hw
  refine lv_iconst (v := 1) hx hb dX10_team_63 (by decide) ?_
  refine lv_isub hx hb dX10_team_64 ?_
  refine lv_topi (fun y13 e14 => ?_)
  obtain rfl : y13 = 0 := e14.trans (by decide)
  have hP9 := hP.sub (ws' := [(h0, .inr (15, zM 0 b))]) [3] rfl
  have hD9 := hD.sub (ws' := [(h0, .inr (15, zM 0 b))]) [3] (by decide) rfl
  have hK9 := hK.sub (tys' := []) [] rfl
  exact W.iret (v := 0) hx hb hr (fun t ht hW => ⟨⟨0, (), rfl, rfl, ⟨by rw [ht]; exact hP9, va_K.moved hW.alike hK9, hD9⟩⟩, hS.F ht⟩) hS.2.2 dX10_team_65

set_option maxRecDepth 20000 in
theorem ggX10_purse_X10_goesOn : GoodIn wsX10_purse wsX10_goesOn := goodIn_r _ [10, 11, 12, 13, 14, 15, 16, 17, 18, 19, 20, 21, 22] (by decide +kernel) (by decide +kernel)
set_option maxRecDepth 20000 in
theorem gX10_purse_X10_goesOn : GoodIn wsX10_purse (wsV RX10 78 RX10 yX10_goesOn wsX10_goesOn) := goodIn_app (goodIn_of _ (by decide +kernel)) ggX10_purse_X10_goesOn
set_option maxRecDepth 20000 in
theorem ggX10_purse_X10_in : GoodIn wsX10_purse wsX10_in := goodIn_r _ [6] (by decide +kernel) (by decide +kernel)
set_option maxRecDepth 20000 in
theorem gX10_purse_X10_in : GoodIn wsX10_purse (va_wsS RX10 63 yX10_in wsX10_in) := goodIn_app (goodIn_of _ (by decide +kernel)) ggX10_purse_X10_in
theorem dX10_purse_0 : decode cX10_purse 0 = .ok (.aload_n 0, 1) := by decide +kernel
theorem dX10_purse_1 : decode cX10_purse 1 = .ok (.iload_n 1, 1) := by decide +kernel
theorem dX10_purse_2 : decode cX10_purse 2 = .ok (.i2l, 1) := by decide +kernel
theorem dX10_purse_3 : decode cX10_purse 3 = .ok (.lconst 0, 1) := by decide +kernel
theorem dX10_purse_4 : decode cX10_purse 4 = .ok (.ldc2_w 389, 3) := by decide +kernel
theorem dX10_purse_7 : decode cX10_purse 7 = .ok (.invokestatic 63, 3) := by decide +kernel
theorem dX10_purse_10 : decode cX10_purse 10 = .ok (.ifCond .eq 7, 3) := by decide +kernel
theorem dX10_purse_13 : decode cX10_purse 13 = .ok (.iconst 0, 1) := by decide +kernel
theorem dX10_purse_14 : decode cX10_purse 14 = .ok (.goto 4, 3) := by decide +kernel
theorem dX10_purse_18 : decode cX10_purse 18 = .ok (.invokevirtual 78, 3) := by decide +kernel
theorem dX10_purse_21 : decode cX10_purse 21 = .ok (.ifCond .ne 5, 3) := by decide +kernel
theorem dX10_purse_26 : decode cX10_purse 26 = .ok (.aload_n 0, 1) := by decide +kernel
theorem dX10_purse_27 : decode cX10_purse 27 = .ok (.dup, 1) := by decide +kernel
theorem dX10_purse_28 : decode cX10_purse 28 = .ok (.getfield 391, 3) := by decide +kernel
theorem dX10_purse_31 : decode cX10_purse 31 = .ok (.iload_n 1, 1) := by decide +kernel
theorem dX10_purse_32 : decode cX10_purse 32 = .ok (.i2l, 1) := by decide +kernel
theorem dX10_purse_33 : decode cX10_purse 33 = .ok (.ladd, 1) := by decide +kernel
theorem dX10_purse_34 : decode cX10_purse 34 = .ok (.putfield 391, 3) := by decide +kernel
theorem dX10_purse_37 : decode cX10_purse 37 = .ok (.aload_n 0, 1) := by decide +kernel
theorem dX10_purse_38 : decode cX10_purse 38 = .ok (.getfield 391, 3) := by decide +kernel
theorem dX10_purse_41 : decode cX10_purse 41 = .ok (.lreturn, 1) := by decide +kernel
set_option maxHeartbeats 4000000 in
set_option maxRecDepth 100000 in
theorem c_X10_purse_in (l : Launch) (htr : l.stackTraces = false) (dC : Nat → ClassId) (dI : Nat → Nat → Nat) (e0 sz : Nat) (h0 : Nat) (th : Int32) (b : Nat → Nat) (p0 : Int32) (hin : (0 ≤ (p0).toInt64 ∧ (p0).toInt64 ≤ 99999)) : Met l yX10_purse wsX10_purse ({ frames := 1, cells := 0, slots := 0, locals := 25 }) (va_Pc [.ref h0, .int p0] (fun U => U.heap.size = sz ∧ va_P (dC, dI) vwCl [(h0, .inr (15, zM th b)), ((b 0), .inr (4, [.int 0, .ref e0, .int 0])), ((b 1), .inr (4, [.int 0, .ref e0, .int 0])), ((b 2), .inr (4, [.int 0, .ref e0, .int 0])), ((b 3), .inr (4, [.int 0, .ref e0, .int 0]))] U.heap ∧ va_K (dC, dI) vwCl [] U ∧ va_D (fun _ => True) [(h0, .inr (15, zM th b)), ((b 0), .inr (4, [.int 0, .ref e0, .int 0])), ((b 1), .inr (4, [.int 0, .ref e0, .int 0])), ((b 2), .inr (4, [.int 0, .ref e0, .int 0])), ((b 3), .inr (4, [.int 0, .ref e0, .int 0]))] ∧ zE e0 (va_A [(h0, .inr (15, zM th b)), ((b 0), .inr (4, [.int 0, .ref e0, .int 0])), ((b 1), .inr (4, [.int 0, .ref e0, .int 0])), ((b 2), .inr (4, [.int 0, .ref e0, .int 0])), ((b 3), .inr (4, [.int 0, .ref e0, .int 0]))] sz) U U.heap)) (va_Ql (fun (r : Int64) (_ : Unit) => r = (p0).toInt64) (fun _ t => va_P (dC, dI) vwCl [(h0, .inr (15, [.int 0, .ref (b 0), .ref (b 1), .ref (b 2), .ref (b 3), .int 0, .long (p0).toInt64, .int 0, .int 0, .int 0, .int 0]))] t.heap ∧ va_K (dC, dI) vwCl [] t ∧ va_D (va_A [(h0, .inr (15, zM th b)), ((b 0), .inr (4, [.int 0, .ref e0, .int 0])), ((b 1), .inr (4, [.int 0, .ref e0, .int 0])), ((b 2), .inr (4, [.int 0, .ref e0, .int 0])), ((b 3), .inr (4, [.int 0, .ref e0, .int 0]))] sz) [(h0, .inr (15, [.int 0, .ref (b 0), .ref (b 1), .ref (b 2), .ref (b 3), .int 0, .long (p0).toInt64, .int 0, .int 0, .int 0, .int 0]))]) (va_A [(h0, .inr (15, zM th b)), ((b 0), .inr (4, [.int 0, .ref e0, .int 0])), ((b 1), .inr (4, [.int 0, .ref e0, .int 0])), ((b 2), .inr (4, [.int 0, .ref e0, .int 0])), ((b 3), .inr (4, [.int 0, .ref e0, .int 0]))] sz)) 0 0 (va_A [(h0, .inr (15, zM th b)), ((b 0), .inr (4, [.int 0, .ref e0, .int 0])), ((b 1), .inr (4, [.int 0, .ref e0, .int 0])), ((b 2), .inr (4, [.int 0, .ref e0, .int 0])), ((b 3), .inr (4, [.int 0, .ref e0, .int 0]))] sz) := by
  refine Met.ofW (cc := cX10_purse) (maxL := 2) (ret := (some .long)) (by decide) rfl ?_
  intro p e s m args below meth c s₁ B hml hv
  obtain ⟨rfl, hsz, hP, hK, hD0, hE⟩ := hv
  have hx := B.exec
  have hb := B.bytes
  have hr := B.returns
  have hts := atoms_spec (ws := wsX10_purse) B.pre
  have hown : s.vm.findClass RX10 = some m.cls := findClass_of_methodNamed B.named
  have hlocks := B.notSynchronized
  subst hsz
  have hD := hD0.self (sz := s.heap.size)
  generalize hAe : va_A [(h0, .inr (15, zM th b)), ((b 0), .inr (4, [.int 0, .ref e0, .int 0])), ((b 1), .inr (4, [.int 0, .ref e0, .int 0])), ((b 2), .inr (4, [.int 0, .ref e0, .int 0])), ((b 3), .inr (4, [.int 0, .ref e0, .int 0]))] s.heap.size = A at hD hE ⊢
  have hA : ∀ q : Nat, s.heap.size ≤ q → A q := fun q h => by rw [← hAe]; exact Or.inr h
  have hS : va_S A s.heap s.heap [] := va_S.rf
  have hl := lv_entry ([.ref h0, .int p0]) (n := 2) (Nat.le_of_ble_eq_true rfl)
  rw [lg_entry_eq]
  generalize (lg_sl ([.ref h0, .int p0]) ++ List.replicate (2 - (lg_sl ([.ref h0, .int p0])).length) Slot.unset).toArray = ls at hl ⊢
  have hl : lv_has ls 2 [(0, .ref h0), (1, .int p0)] := hl
  refine lv_aload_n hx hb dX10_purse_0 rfl (lv_at hl 0 rfl) ?_
  refine lv_iload_n hx hb dX10_purse_1 rfl (lv_at hl 1 rfl) ?_
  refine lv_i2l (v := (p0).toInt64) hx hb dX10_purse_2 rfl ?_
  refine lv_lconst (v := 0) hx hb dX10_purse_3 (by decide) ?_
  refine lv_ldc2 hx hb hown (hts (.constantLong RX10 389 (99999)) (by decide +kernel)) dX10_purse_4 ?_
  have hPc := hP.sub (ws' := []) [] rfl
  have hDc := hD.sub (ws' := []) [] (by decide) rfl
  have hKc := hK.sub (tys' := []) [] rfl
  have hFc := va_free (wc := []) hD hS hA [] rfl
  refine va_calli (va_runS (As := [.long (p0).toInt64, .long 0, .long (99999)]) (rest := [.ref h0]) ⟨hx, hb, hml, hown, hts⟩ (c_X10_in l htr dC dI e0 s.heap.size ((p0).toInt64) 0 (99999)) (va_cwS 3 hts gX10_purse_X10_in rfl rfl rfl (by decide +kernel) ⟨Nat.le_of_ble_eq_true rfl, Nat.le_of_ble_eq_true rfl⟩) ⟨fun a U g mk q => by obtain ⟨q0, q1, qP, qK, qD⟩ := q; exact ⟨q0, q1, qP, va_K.moved (u := U) (U := U.calling g mk a) (Vm.Alike.refl U.vm) qK, qD⟩, fun U hU hW => ⟨rfl, by rw [hU], by rw [hU]; exact hPc, va_K.moved hW.alike hKc, hDc.weaken (fun _ _ _ _ => trivial)⟩⟩ rfl rfl hl.1 rfl (lv_room (Nat.le_of_ble_eq_true rfl)) dX10_purse_7 ⟨Nat.le_of_ble_eq_true rfl, Nat.le_of_ble_eq_true rfl⟩) hS (fun q _ h => hFc q h) hFc (fun r1 u t H1 locs ht hvm hw hB hz1 hk1 hS => ?_)
  have hP1 : va_P (dC, dI) vwCl [] H1 := fun k q h => by simp at h
  have hD1 : va_D (va_A [] s.heap.size) [] := ⟨fun i j p q h => by simp at h, fun k q h => by simp at h⟩
  obtain ⟨hP, hD⟩ := va_join (wr := [(h0, .inr (15, zM th b)), ((b 0), .inr (4, [.int 0, .ref e0, .int 0])), ((b 1), .inr (4, [.int 0, .ref e0, .int 0])), ((b 2), .inr (4, [.int 0, .ref e0, .int 0])), ((b 3), .inr (4, [.int 0, .ref e0, .int 0]))]) (w1 := []) hP hD [] [0, 1, 2, 3, 4] rfl rfl (by decide) (by decide) hk1 hFc hP1 hD1
  generalize H1 = H at hP hS ⊢
  have hP : va_P (dC, dI) vwCl [(h0, .inr (15, zM th b)), ((b 0), .inr (4, [.int 0, .ref e0, .int 0])), ((b 1), .inr (4, [.int 0, .ref e0, .int 0])), ((b 2), .inr (4, [.int 0, .ref e0, .int 0])), ((b 3), .inr (4, [.int 0, .ref e0, .int 0]))] H := hP
  have hD : va_D A [(h0, .inr (15, zM th b)), ((b 0), .inr (4, [.int 0, .ref e0, .int 0])), ((b 1), .inr (4, [.int 0, .ref e0, .int 0])), ((b 2), .inr (4, [.int 0, .ref e0, .int 0])), ((b 3), .inr (4, [.int 0, .ref e0, .int 0]))] := hD
  obtain rfl : r1 = 1 := hw.trans (if_pos hin)
  refine lv_if_eq (tgt := 17) hx hb dX10_purse_10 (by decide) (fun c2 => absurd c2 (by decide)) (fun _ => ?_)
  refine lv_iconst (v := 0) hx hb dX10_purse_13 (by decide) ?_
  refine lv_goto (tgt := 18) hx hb dX10_purse_14 (by decide) ?_
  have hPc := hP.sub (ws' := [(h0, .inr (15, zM th b))]) [0] rfl
  have hDc := hD.sub (ws' := [(h0, .inr (15, zM th b))]) [0] (by decide) rfl
  have hKc := hK.sub (tys' := []) [] rfl
  have hFc := va_free (wc := [(h0, .inr (15, zM th b))]) hD hS hA [0] rfl
  refine va_calli (va_runV (As := [.int 0]) (rest := []) ⟨hx, hb, hml, hown, hts⟩ (c_X10_goesOn l htr dC dI e0 H.size h0 th b 0) (cwV 1 hts gX10_purse_X10_goesOn rfl rfl rfl (by decide +kernel) ⟨Nat.le_of_ble_eq_true rfl, Nat.le_of_ble_eq_true rfl⟩) ⟨fun a U g mk q => by obtain ⟨q0, q1, qP, qK, qD⟩ := q; exact ⟨q0, q1, qP, va_K.moved (u := U) (U := U.calling g mk a) (Vm.Alike.refl U.vm) qK, qD⟩, va_recv hKc hPc (ci := 15) (q0 := 0) rfl rfl, fun U hU hW => ⟨rfl, by rw [hU], by rw [hU]; exact hPc, va_K.moved hW.alike hKc, hDc.weaken (fun _ _ _ _ => trivial)⟩⟩ rfl rfl hl.1 rfl (lv_room (Nat.le_of_ble_eq_true rfl)) dX10_purse_18 ⟨Nat.le_of_ble_eq_true rfl, Nat.le_of_ble_eq_true rfl⟩) hS (fun q _ h => hFc q h) hFc (fun r3 u t H1 locs ht hvm hw hB hz1 hk1 hS => ?_)
  obtain ⟨hP1, hK1, hD1⟩ := hB
  rw [ht] at hP1
  obtain ⟨hP, hD⟩ := va_join (wr := [((b 0), .inr (4, [.int 0, .ref e0, .int 0])), ((b 1), .inr (4, [.int 0, .ref e0, .int 0])), ((b 2), .inr (4, [.int 0, .ref e0, .int 0])), ((b 3), .inr (4, [.int 0, .ref e0, .int 0]))]) (w1 := [(h0, .inr (15, zM 0 b))]) hP hD [0] [1, 2, 3, 4] rfl rfl (by decide) (by decide) hk1 hFc hP1 hD1
  generalize H1 = H at hP hS ⊢
  have hP : va_P (dC, dI) vwCl [((b 0), .inr (4, [.int 0, .ref e0, .int 0])), ((b 1), .inr (4, [.int 0, .ref e0, .int 0])), ((b 2), .inr (4, [.int 0, .ref e0, .int 0])), ((b 3), .inr (4, [.int 0, .ref e0, .int 0])), (h0, .inr (15, zM 0 b))] H := hP
  have hD : va_D A [((b 0), .inr (4, [.int 0, .ref e0, .int 0])), ((b 1), .inr (4, [.int 0, .ref e0, .int 0])), ((b 2), .inr (4, [.int 0, .ref e0, .int 0])), ((b 3), .inr (4, [.int 0, .ref e0, .int 0])), (h0, .inr (15, zM 0 b))] := hD
  obtain rfl : r3 = 1 := hw.trans (by decide)
  refine lv_if_ne (tgt := 26) hx hb dX10_purse_21 (by decide) (fun _ => ?_) (fun c4 => absurd c4 (by decide))
  refine lv_aload_n hx hb dX10_purse_26 rfl (lv_at hl 0 rfl) ?_
  refine lv_dup hx hb dX10_purse_27 rfl ?_
  refine va_get (D := (dC, dI)) (ci := 15) (v := .long 0) (C := RX10) (T := TX10) (N := 11) hx hb hts (by decide +kernel) hown hK hP 4 rfl rfl 6 (by decide) (hts (.fieldLink RX10 391 "GanglineModel" "purse" "J") (by decide +kernel)) (fun _ h9 => h9) rfl dX10_purse_28 ?_
  refine lv_iload_n hx hb dX10_purse_31 rfl (lv_at hl 1 rfl) ?_
  refine lv_i2l (v := (p0).toInt64) hx hb dX10_purse_32 rfl ?_
  refine lv_ladd hx hb dX10_purse_33 ?_
  refine lv_topl (fun y5 e6 => ?_)
  obtain rfl : y5 = (p0).toInt64 := e6.trans (Int64.zero_add _)
  refine va_put (D := (dC, dI)) (ci := 15) (v := .long (p0).toInt64) (ty := .long) (C := RX10) (T := TX10) (N := 11) hx hb hts (by decide +kernel) tyX10 tyX10_ok nmX10 hown hK hP hD hS 4 rfl rfl 6 (by decide) (hts (.fieldLink RX10 391 "GanglineModel" "purse" "J") (by decide +kernel)) (fun _ h9 => h9) rfl (by decide +kernel) rfl rfl (Nat.le_of_ble_eq_true rfl) dX10_purse_34 (fun H locs hP hD hS => ?_)
  have hP : va_P (dC, dI) vwCl [((b 0), .inr (4, [.int 0, .ref e0, .int 0])), ((b 1), .inr (4, [.int 0, .ref e0, .int 0])), ((b 2), .inr (4, [.int 0, .ref e0, .int 0])), ((b 3), .inr (4, [.int 0, .ref e0, .int 0])), (h0, .inr (15, [.int 0, .ref (b 0), .ref (b 1), .ref (b 2), .ref (b 3), .int 0, .long (p0).toInt64, .int 0, .int 0, .int 0, .int 0]))] H := hP
  have hD : va_D A [((b 0), .inr (4, [.int 0, .ref e0, .int 0])), ((b 1), .inr (4, [.int 0, .ref e0, .int 0])), ((b 2), .inr (4, [.int 0, .ref e0, .int 0])), ((b 3), .inr (4, [.int 0, .ref e0, .int 0])), (h0, .inr (15, [.int 0, .ref (b 0), .ref (b 1), .ref (b 2), .ref (b 3), .int 0, .long (p0).toInt64, .int 0, .int 0, .int 0, .int 0]))] := hD
  refine lv_aload_n hx hb dX10_purse_37 rfl (lv_at hl 0 rfl) ?_
  refine va_get (D := (dC, dI)) (ci := 15) (v := .long (p0).toInt64) (C := RX10) (T := TX10) (N := 11) hx hb hts (by decide +kernel) hown hK hP 4 rfl rfl 6 (by decide) (hts (.fieldLink RX10 391 "GanglineModel" "purse" "J") (by decide +kernel)) (fun _ h9 => h9) rfl dX10_purse_38 ?_
  have hP9 := hP.sub (ws' := [(h0, .inr (15, [.int 0, .ref (b 0), .ref (b 1), .ref (b 2), .ref (b 3), .int 0, .long (p0).toInt64, .int 0, .int 0, .int 0, .int 0]))]) [4] rfl
  have hD9 := hD.sub (ws' := [(h0, .inr (15, [.int 0, .ref (b 0), .ref (b 1), .ref (b 2), .ref (b 3), .int 0, .long (p0).toInt64, .int 0, .int 0, .int 0, .int 0]))]) [4] (by decide) rfl
  have hK9 := hK.sub (tys' := []) [] rfl
  exact W.lret (v := (p0).toInt64) hx hb hr (fun t ht hW => ⟨⟨(p0).toInt64, (), rfl, rfl, ⟨by rw [ht]; exact hP9, va_K.moved hW.alike hK9, hD9⟩⟩, hS.F ht⟩) hS.2.2 dX10_purse_41

theorem dX10_purse_17 : decode cX10_purse 17 = .ok (.iconst 1, 1) := by decide +kernel
theorem dX10_purse_24 : decode cX10_purse 24 = .ok (.lconst 0, 1) := by decide +kernel
theorem dX10_purse_25 : decode cX10_purse 25 = .ok (.lreturn, 1) := by decide +kernel
set_option maxHeartbeats 4000000 in
set_option maxRecDepth 100000 in
theorem c_X10_purse_no (l : Launch) (htr : l.stackTraces = false) (dC : Nat → ClassId) (dI : Nat → Nat → Nat) (e0 sz : Nat) (h0 : Nat) (th : Int32) (b : Nat → Nat) (p0 : Int32) (hnot : ¬ (0 ≤ (p0).toInt64 ∧ (p0).toInt64 ≤ 99999)) : Met l yX10_purse wsX10_purse ({ frames := 1, cells := 0, slots := 0, locals := 25 }) (va_Pc [.ref h0, .int p0] (fun U => U.heap.size = sz ∧ va_P (dC, dI) vwCl [(h0, .inr (15, zM th b)), ((b 0), .inr (4, [.int 0, .ref e0, .int 0])), ((b 1), .inr (4, [.int 0, .ref e0, .int 0])), ((b 2), .inr (4, [.int 0, .ref e0, .int 0])), ((b 3), .inr (4, [.int 0, .ref e0, .int 0]))] U.heap ∧ va_K (dC, dI) vwCl [] U ∧ va_D (fun _ => True) [(h0, .inr (15, zM th b)), ((b 0), .inr (4, [.int 0, .ref e0, .int 0])), ((b 1), .inr (4, [.int 0, .ref e0, .int 0])), ((b 2), .inr (4, [.int 0, .ref e0, .int 0])), ((b 3), .inr (4, [.int 0, .ref e0, .int 0]))] ∧ zE e0 (va_A [(h0, .inr (15, zM th b)), ((b 0), .inr (4, [.int 0, .ref e0, .int 0])), ((b 1), .inr (4, [.int 0, .ref e0, .int 0])), ((b 2), .inr (4, [.int 0, .ref e0, .int 0])), ((b 3), .inr (4, [.int 0, .ref e0, .int 0]))] sz) U U.heap)) (va_Ql (fun (r : Int64) (_ : Unit) => r = 0) (fun _ t => va_P (dC, dI) vwCl [(h0, .inr (15, zM 1 b))] t.heap ∧ va_K (dC, dI) vwCl [] t ∧ va_D (va_A [(h0, .inr (15, zM th b)), ((b 0), .inr (4, [.int 0, .ref e0, .int 0])), ((b 1), .inr (4, [.int 0, .ref e0, .int 0])), ((b 2), .inr (4, [.int 0, .ref e0, .int 0])), ((b 3), .inr (4, [.int 0, .ref e0, .int 0]))] sz) [(h0, .inr (15, zM 1 b))]) (va_A [(h0, .inr (15, zM th b)), ((b 0), .inr (4, [.int 0, .ref e0, .int 0])), ((b 1), .inr (4, [.int 0, .ref e0, .int 0])), ((b 2), .inr (4, [.int 0, .ref e0, .int 0])), ((b 3), .inr (4, [.int 0, .ref e0, .int 0]))] sz)) 0 0 (va_A [(h0, .inr (15, zM th b)), ((b 0), .inr (4, [.int 0, .ref e0, .int 0])), ((b 1), .inr (4, [.int 0, .ref e0, .int 0])), ((b 2), .inr (4, [.int 0, .ref e0, .int 0])), ((b 3), .inr (4, [.int 0, .ref e0, .int 0]))] sz) := by
  refine Met.ofW (cc := cX10_purse) (maxL := 2) (ret := (some .long)) (by decide) rfl ?_
  intro p e s m args below meth c s₁ B hml hv
  obtain ⟨rfl, hsz, hP, hK, hD0, hE⟩ := hv
  have hx := B.exec
  have hb := B.bytes
  have hr := B.returns
  have hts := atoms_spec (ws := wsX10_purse) B.pre
  have hown : s.vm.findClass RX10 = some m.cls := findClass_of_methodNamed B.named
  have hlocks := B.notSynchronized
  subst hsz
  have hD := hD0.self (sz := s.heap.size)
  generalize hAe : va_A [(h0, .inr (15, zM th b)), ((b 0), .inr (4, [.int 0, .ref e0, .int 0])), ((b 1), .inr (4, [.int 0, .ref e0, .int 0])), ((b 2), .inr (4, [.int 0, .ref e0, .int 0])), ((b 3), .inr (4, [.int 0, .ref e0, .int 0]))] s.heap.size = A at hD hE ⊢
  have hA : ∀ q : Nat, s.heap.size ≤ q → A q := fun q h => by rw [← hAe]; exact Or.inr h
  have hS : va_S A s.heap s.heap [] := va_S.rf
  have hl := lv_entry ([.ref h0, .int p0]) (n := 2) (Nat.le_of_ble_eq_true rfl)
  rw [lg_entry_eq]
  generalize (lg_sl ([.ref h0, .int p0]) ++ List.replicate (2 - (lg_sl ([.ref h0, .int p0])).length) Slot.unset).toArray = ls at hl ⊢
  have hl : lv_has ls 2 [(0, .ref h0), (1, .int p0)] := hl
  refine lv_aload_n hx hb dX10_purse_0 rfl (lv_at hl 0 rfl) ?_
  refine lv_iload_n hx hb dX10_purse_1 rfl (lv_at hl 1 rfl) ?_
  refine lv_i2l (v := (p0).toInt64) hx hb dX10_purse_2 rfl ?_
  refine lv_lconst (v := 0) hx hb dX10_purse_3 (by decide) ?_
  refine lv_ldc2 hx hb hown (hts (.constantLong RX10 389 (99999)) (by decide +kernel)) dX10_purse_4 ?_
  have hPc := hP.sub (ws' := []) [] rfl
  have hDc := hD.sub (ws' := []) [] (by decide) rfl
  have hKc := hK.sub (tys' := []) [] rfl
  have hFc := va_free (wc := []) hD hS hA [] rfl
  refine va_calli (va_runS (As := [.long (p0).toInt64, .long 0, .long (99999)]) (rest := [.ref h0]) ⟨hx, hb, hml, hown, hts⟩ (c_X10_in l htr dC dI e0 s.heap.size ((p0).toInt64) 0 (99999)) (va_cwS 3 hts gX10_purse_X10_in rfl rfl rfl (by decide +kernel) ⟨Nat.le_of_ble_eq_true rfl, Nat.le_of_ble_eq_true rfl⟩) ⟨fun a U g mk q => by obtain ⟨q0, q1, qP, qK, qD⟩ := q; exact ⟨q0, q1, qP, va_K.moved (u := U) (U := U.calling g mk a) (Vm.Alike.refl U.vm) qK, qD⟩, fun U hU hW => ⟨rfl, by rw [hU], by rw [hU]; exact hPc, va_K.moved hW.alike hKc, hDc.weaken (fun _ _ _ _ => trivial)⟩⟩ rfl rfl hl.1 rfl (lv_room (Nat.le_of_ble_eq_true rfl)) dX10_purse_7 ⟨Nat.le_of_ble_eq_true rfl, Nat.le_of_ble_eq_true rfl⟩) hS (fun q _ h => hFc q h) hFc (fun r1 u t H1 locs ht hvm hw hB hz1 hk1 hS => ?_)
  have hP1 : va_P (dC, dI) vwCl [] H1 := fun k q h => by simp at h
  have hD1 : va_D (va_A [] s.heap.size) [] := ⟨fun i j p q h => by simp at h, fun k q h => by simp at h⟩
  obtain ⟨hP, hD⟩ := va_join (wr := [(h0, .inr (15, zM th b)), ((b 0), .inr (4, [.int 0, .ref e0, .int 0])), ((b 1), .inr (4, [.int 0, .ref e0, .int 0])), ((b 2), .inr (4, [.int 0, .ref e0, .int 0])), ((b 3), .inr (4, [.int 0, .ref e0, .int 0]))]) (w1 := []) hP hD [] [0, 1, 2, 3, 4] rfl rfl (by decide) (by decide) hk1 hFc hP1 hD1
  generalize H1 = H at hP hS ⊢
  have hP : va_P (dC, dI) vwCl [(h0, .inr (15, zM th b)), ((b 0), .inr (4, [.int 0, .ref e0, .int 0])), ((b 1), .inr (4, [.int 0, .ref e0, .int 0])), ((b 2), .inr (4, [.int 0, .ref e0, .int 0])), ((b 3), .inr (4, [.int 0, .ref e0, .int 0]))] H := hP
  have hD : va_D A [(h0, .inr (15, zM th b)), ((b 0), .inr (4, [.int 0, .ref e0, .int 0])), ((b 1), .inr (4, [.int 0, .ref e0, .int 0])), ((b 2), .inr (4, [.int 0, .ref e0, .int 0])), ((b 3), .inr (4, [.int 0, .ref e0, .int 0]))] := hD
  obtain rfl : r1 = 0 := hw.trans (if_neg hnot)
  refine lv_if_eq (tgt := 17) hx hb dX10_purse_10 (by decide) (fun _ => ?_) (fun c2 => absurd (by decide) c2)
  refine lv_iconst (v := 1) hx hb dX10_purse_17 (by decide) ?_
  have hPc := hP.sub (ws' := [(h0, .inr (15, zM th b))]) [0] rfl
  have hDc := hD.sub (ws' := [(h0, .inr (15, zM th b))]) [0] (by decide) rfl
  have hKc := hK.sub (tys' := []) [] rfl
  have hFc := va_free (wc := [(h0, .inr (15, zM th b))]) hD hS hA [0] rfl
  refine va_calli (va_runV (As := [.int 1]) (rest := []) ⟨hx, hb, hml, hown, hts⟩ (c_X10_goesOn l htr dC dI e0 H.size h0 th b 1) (cwV 1 hts gX10_purse_X10_goesOn rfl rfl rfl (by decide +kernel) ⟨Nat.le_of_ble_eq_true rfl, Nat.le_of_ble_eq_true rfl⟩) ⟨fun a U g mk q => by obtain ⟨q0, q1, qP, qK, qD⟩ := q; exact ⟨q0, q1, qP, va_K.moved (u := U) (U := U.calling g mk a) (Vm.Alike.refl U.vm) qK, qD⟩, va_recv hKc hPc (ci := 15) (q0 := 0) rfl rfl, fun U hU hW => ⟨rfl, by rw [hU], by rw [hU]; exact hPc, va_K.moved hW.alike hKc, hDc.weaken (fun _ _ _ _ => trivial)⟩⟩ rfl rfl hl.1 rfl (lv_room (Nat.le_of_ble_eq_true rfl)) dX10_purse_18 ⟨Nat.le_of_ble_eq_true rfl, Nat.le_of_ble_eq_true rfl⟩) hS (fun q _ h => hFc q h) hFc (fun r3 u t H1 locs ht hvm hw hB hz1 hk1 hS => ?_)
  obtain ⟨hP1, hK1, hD1⟩ := hB
  rw [ht] at hP1
  obtain ⟨hP, hD⟩ := va_join (wr := [((b 0), .inr (4, [.int 0, .ref e0, .int 0])), ((b 1), .inr (4, [.int 0, .ref e0, .int 0])), ((b 2), .inr (4, [.int 0, .ref e0, .int 0])), ((b 3), .inr (4, [.int 0, .ref e0, .int 0]))]) (w1 := [(h0, .inr (15, zM 1 b))]) hP hD [0] [1, 2, 3, 4] rfl rfl (by decide) (by decide) hk1 hFc hP1 hD1
  generalize H1 = H at hP hS ⊢
  have hP : va_P (dC, dI) vwCl [((b 0), .inr (4, [.int 0, .ref e0, .int 0])), ((b 1), .inr (4, [.int 0, .ref e0, .int 0])), ((b 2), .inr (4, [.int 0, .ref e0, .int 0])), ((b 3), .inr (4, [.int 0, .ref e0, .int 0])), (h0, .inr (15, zM 1 b))] H := hP
  have hD : va_D A [((b 0), .inr (4, [.int 0, .ref e0, .int 0])), ((b 1), .inr (4, [.int 0, .ref e0, .int 0])), ((b 2), .inr (4, [.int 0, .ref e0, .int 0])), ((b 3), .inr (4, [.int 0, .ref e0, .int 0])), (h0, .inr (15, zM 1 b))] := hD
  obtain rfl : r3 = 0 := hw.trans (by decide)
  refine lv_if_ne (tgt := 26) hx hb dX10_purse_21 (by decide) (fun c4 => absurd (by decide) c4) (fun _ => ?_)
  refine lv_lconst (v := 0) hx hb dX10_purse_24 (by decide) ?_
  have hP9 := hP.sub (ws' := [(h0, .inr (15, zM 1 b))]) [4] rfl
  have hD9 := hD.sub (ws' := [(h0, .inr (15, zM 1 b))]) [4] (by decide) rfl
  have hK9 := hK.sub (tys' := []) [] rfl
  exact W.lret (v := 0) hx hb hr (fun t ht hW => ⟨⟨0, (), rfl, rfl, ⟨by rw [ht]; exact hP9, va_K.moved hW.alike hK9, hD9⟩⟩, hS.F ht⟩) hS.2.2 dX10_purse_25

set_option maxRecDepth 20000 in
theorem ggX10_endYear_Jx35411_hasNext_aae02 : GoodIn wsX10_endYear wsJx35411_hasNext_aae02 := goodIn_r _ [41, 42, 30, 247, 248, 249, 250, 251, 252, 253] (by decide +kernel) (by decide +kernel)
set_option maxRecDepth 20000 in
theorem gX10_endYear_Jx35411_hasNext_aae02_f44Jx35411 : GoodIn wsX10_endYear (va_wsF RX10 44 RJx35411 ⟨"java/util/Iterator", "hasNext", "()Z"⟩ yJx35411_hasNext_aae02 wsJx35411_hasNext_aae02) := goodIn_app (goodIn_of _ (by decide +kernel)) ggX10_endYear_Jx35411_hasNext_aae02
set_option maxRecDepth 20000 in
theorem ggX10_endYear_Jx4a65c_clear_da8c8 : GoodIn wsX10_endYear wsJx4a65c_clear_da8c8 := goodIn_r _ [195, 123, 36, 73, 88, 251, 252, 253] (by decide +kernel) (by decide +kernel)
set_option maxRecDepth 20000 in
theorem gX10_endYear_Jx4a65c_clear_da8c8_f333Jx4a65c : GoodIn wsX10_endYear (va_wsF RX10 333 RJx4a65c ⟨"java/util/List", "clear", "()V"⟩ yJx4a65c_clear_da8c8 wsJx4a65c_clear_da8c8) := goodIn_app (goodIn_of _ (by decide +kernel)) ggX10_endYear_Jx4a65c_clear_da8c8
set_option maxRecDepth 20000 in
theorem ggX10_endYear_Jx4a65c_iterator_32c93 : GoodIn wsX10_endYear wsJx4a65c_iterator_32c93 := goodIn_r _ [23, 24, 25, 26, 27, 28, 29, 30, 31, 32, 33, 34, 35, 36, 37, 247, 248, 249, 250, 251, 252, 253] (by decide +kernel) (by decide +kernel)
set_option maxRecDepth 20000 in
theorem gX10_endYear_Jx4a65c_iterator_32c93_f38Jx4a65c : GoodIn wsX10_endYear (va_wsF RX10 38 RJx4a65c ⟨"java/util/List", "iterator", "()Ljava/util/Iterator;"⟩ yJx4a65c_iterator_32c93 wsJx4a65c_iterator_32c93) := goodIn_app (goodIn_of _ (by decide +kernel)) ggX10_endYear_Jx4a65c_iterator_32c93
set_option maxRecDepth 20000 in
theorem ggX10_endYear_Jx4a65c_size_8abf5 : GoodIn wsX10_endYear wsJx4a65c_size_8abf5 := goodIn_r _ [87, 88, 251, 252, 253] (by decide +kernel) (by decide +kernel)
set_option maxRecDepth 20000 in
theorem gX10_endYear_Jx4a65c_size_8abf5_f59Jx4a65c : GoodIn wsX10_endYear (va_wsF RX10 59 RJx4a65c ⟨"java/util/List", "size", "()I"⟩ yJx4a65c_size_8abf5 wsJx4a65c_size_8abf5) := goodIn_app (goodIn_of _ (by decide +kernel)) ggX10_endYear_Jx4a65c_size_8abf5
set_option maxRecDepth 20000 in
theorem ggX10_endYear_X10_goesOn : GoodIn wsX10_endYear wsX10_goesOn := goodIn_r _ [61, 62, 197, 198, 199, 200, 201, 202, 203, 204, 205, 206, 207] (by decide +kernel) (by decide +kernel)
set_option maxRecDepth 20000 in
theorem gX10_endYear_X10_goesOn : GoodIn wsX10_endYear (wsV RX10 78 RX10 yX10_goesOn wsX10_goesOn) := goodIn_app (goodIn_of _ (by decide +kernel)) ggX10_endYear_X10_goesOn
set_option maxRecDepth 20000 in
theorem ggX10_endYear_X10_isOnWay : GoodIn wsX10_endYear wsX10_isOnWay := goodIn_r _ [18, 5, 4, 19, 20, 21, 22, 23, 24, 25, 26, 27, 28, 29, 30, 31, 32, 33, 34, 35, 36, 37, 38, 39, 40, 41, 42, 43, 44, 45, 46, 47, 48, 49, 50, 51, 52, 53, 54, 55, 56, 57, 197, 198, 199, 200, 201, 202, 203, 204, 205, 206, 207, 247, 248, 249, 250, 251, 252, 253, 208, 209, 210, 211, 212, 213, 214, 215, 216, 217, 218, 219, 220, 221, 222, 223, 224, 225, 226, 227, 228, 229] (by decide +kernel) (by decide +kernel)
set_option maxRecDepth 20000 in
theorem gX10_endYear_X10_isOnWay : GoodIn wsX10_endYear (wsV RX10 75 RX10 yX10_isOnWay wsX10_isOnWay) := goodIn_app (goodIn_of _ (by decide +kernel)) ggX10_endYear_X10_isOnWay
set_option maxRecDepth 20000 in
theorem ggX10_endYear_X10_standings : GoodIn wsX10_endYear wsX10_standings := goodIn_r _ [66, 67, 68, 22, 5, 4, 69, 70, 71, 72, 73, 74, 75, 76, 77, 78, 79, 80, 81, 82, 83, 32, 33, 19, 20, 21, 23, 24, 25, 26, 27, 28, 29, 30, 31, 34, 35, 36, 37, 38, 39, 40, 41, 42, 43, 44, 45, 46, 47, 48, 49, 50, 51, 52, 53, 54, 55, 56, 57, 84, 85, 86, 87, 88, 89, 90, 91, 92, 93, 94, 95, 96, 97, 98, 99, 100, 101, 102, 103, 104, 105, 106, 107, 17, 108, 109, 110, 111, 112, 113, 114, 115, 116, 117, 118, 9, 119, 120, 121, 122, 123, 124, 125, 126, 127, 128, 129, 130, 131, 132, 133, 134, 135, 136, 137, 138, 139, 140, 141, 142, 143, 144, 145, 146, 147, 148, 149, 150, 151, 152, 153, 154, 155, 156, 157, 158, 159, 160, 161, 162, 163, 164, 165, 166, 167, 168, 169, 170, 251, 252, 253, 197, 198, 199, 200, 201, 202, 203, 204, 205, 206, 207, 208, 209, 210, 211, 212, 213, 214, 215, 216, 217, 218, 219, 220, 221, 222, 223, 224, 225, 226, 227, 228, 229, 247, 248, 249, 250, 254, 255, 256, 257, 258] (by decide +kernel) (by decide +kernel)
set_option maxRecDepth 20000 in
theorem gX10_endYear_X10_standings : GoodIn wsX10_endYear (wsV RX10 382 RX10 yX10_standings wsX10_standings) := goodIn_app (goodIn_of _ (by decide +kernel)) ggX10_endYear_X10_standings
theorem dX10_endYear_0 : decode cX10_endYear 0 = .ok (.aload_n 0, 1) := by decide +kernel
theorem dX10_endYear_1 : decode cX10_endYear 1 = .ok (.aload_n 0, 1) := by decide +kernel
theorem dX10_endYear_2 : decode cX10_endYear 2 = .ok (.invokevirtual 75, 3) := by decide +kernel
theorem dX10_endYear_5 : decode cX10_endYear 5 = .ok (.ifCond .eq 7, 3) := by decide +kernel
theorem dX10_endYear_12 : decode cX10_endYear 12 = .ok (.iconst 0, 1) := by decide +kernel
theorem dX10_endYear_13 : decode cX10_endYear 13 = .ok (.invokevirtual 78, 3) := by decide +kernel
theorem dX10_endYear_16 : decode cX10_endYear 16 = .ok (.ifCond .ne 5, 3) := by decide +kernel
theorem dX10_endYear_21 : decode cX10_endYear 21 = .ok (.aload_n 0, 1) := by decide +kernel
theorem dX10_endYear_22 : decode cX10_endYear 22 = .ok (.invokevirtual 382, 3) := by decide +kernel
theorem dX10_endYear_25 : decode cX10_endYear 25 = .ok (.astore_n 1, 1) := by decide +kernel
theorem dX10_endYear_26 : decode cX10_endYear 26 = .ok (.iconst 3, 1) := by decide +kernel
theorem dX10_endYear_27 : decode cX10_endYear 27 = .ok (.newarray .int, 2) := by decide +kernel
theorem dX10_endYear_29 : decode cX10_endYear 29 = .ok (.dup, 1) := by decide +kernel
theorem dX10_endYear_30 : decode cX10_endYear 30 = .ok (.iconst 0, 1) := by decide +kernel
theorem dX10_endYear_31 : decode cX10_endYear 31 = .ok (.iconst 5, 1) := by decide +kernel
theorem dX10_endYear_32 : decode cX10_endYear 32 = .ok (.iastore, 1) := by decide +kernel
theorem dX10_endYear_33 : decode cX10_endYear 33 = .ok (.dup, 1) := by decide +kernel
theorem dX10_endYear_34 : decode cX10_endYear 34 = .ok (.iconst 1, 1) := by decide +kernel
theorem dX10_endYear_35 : decode cX10_endYear 35 = .ok (.iconst 3, 1) := by decide +kernel
theorem dX10_endYear_36 : decode cX10_endYear 36 = .ok (.iastore, 1) := by decide +kernel
theorem dX10_endYear_37 : decode cX10_endYear 37 = .ok (.dup, 1) := by decide +kernel
theorem dX10_endYear_38 : decode cX10_endYear 38 = .ok (.iconst 2, 1) := by decide +kernel
theorem dX10_endYear_39 : decode cX10_endYear 39 = .ok (.iconst 2, 1) := by decide +kernel
theorem dX10_endYear_40 : decode cX10_endYear 40 = .ok (.iastore, 1) := by decide +kernel
theorem dX10_endYear_41 : decode cX10_endYear 41 = .ok (.astore_n 2, 1) := by decide +kernel
theorem dX10_endYear_42 : decode cX10_endYear 42 = .ok (.aload_n 0, 1) := by decide +kernel
theorem dX10_endYear_43 : decode cX10_endYear 43 = .ok (.getfield 391, 3) := by decide +kernel
theorem dX10_endYear_46 : decode cX10_endYear 46 = .ok (.lstore_n 3, 1) := by decide +kernel
theorem dX10_endYear_47 : decode cX10_endYear 47 = .ok (.iconst 0, 1) := by decide +kernel
theorem dX10_endYear_48 : decode cX10_endYear 48 = .ok (.istore 5, 2) := by decide +kernel
theorem dX10_endYear_50 : decode cX10_endYear 50 = .ok (.iload 5, 2) := by decide +kernel
theorem dX10_endYear_52 : decode cX10_endYear 52 = .ok (.iconst 3, 1) := by decide +kernel
theorem dX10_endYear_53 : decode cX10_endYear 53 = .ok (.if_icmp .ge 66, 3) := by decide +kernel
theorem dX10_endYear_56 : decode cX10_endYear 56 = .ok (.iload 5, 2) := by decide +kernel
theorem dX10_endYear_58 : decode cX10_endYear 58 = .ok (.aload_n 1, 1) := by decide +kernel
theorem dX10_endYear_59 : decode cX10_endYear 59 = .ok (.invokeinterface 59 1, 5) := by decide +kernel
theorem dX10_endYear_64 : decode cX10_endYear 64 = .ok (.if_icmp .ge 55, 3) := by decide +kernel
theorem dX10_endYear_119 : decode cX10_endYear 119 = .ok (.aload_n 0, 1) := by decide +kernel
theorem dX10_endYear_120 : decode cX10_endYear 120 = .ok (.getfield 19, 3) := by decide +kernel
theorem dX10_endYear_123 : decode cX10_endYear 123 = .ok (.invokeinterface 38 1, 5) := by decide +kernel
theorem dX10_endYear_128 : decode cX10_endYear 128 = .ok (.astore 5, 2) := by decide +kernel
theorem dX10_endYear_130 : decode cX10_endYear 130 = .ok (.aload 5, 2) := by decide +kernel
theorem dX10_endYear_132 : decode cX10_endYear 132 = .ok (.invokeinterface 44 1, 5) := by decide +kernel
theorem dX10_endYear_137 : decode cX10_endYear 137 = .ok (.ifCond .eq 23, 3) := by decide +kernel
theorem dX10_endYear_160 : decode cX10_endYear 160 = .ok (.aload_n 0, 1) := by decide +kernel
theorem dX10_endYear_161 : decode cX10_endYear 161 = .ok (.getfield 22, 3) := by decide +kernel
theorem dX10_endYear_164 : decode cX10_endYear 164 = .ok (.invokeinterface 38 1, 5) := by decide +kernel
theorem dX10_endYear_169 : decode cX10_endYear 169 = .ok (.astore 5, 2) := by decide +kernel
theorem dX10_endYear_171 : decode cX10_endYear 171 = .ok (.aload 5, 2) := by decide +kernel
theorem dX10_endYear_173 : decode cX10_endYear 173 = .ok (.invokeinterface 44 1, 5) := by decide +kernel
theorem dX10_endYear_178 : decode cX10_endYear 178 = .ok (.ifCond .eq 94, 3) := by decide +kernel
theorem dX10_endYear_272 : decode cX10_endYear 272 = .ok (.aload_n 0, 1) := by decide +kernel
theorem dX10_endYear_273 : decode cX10_endYear 273 = .ok (.getfield 16, 3) := by decide +kernel
theorem dX10_endYear_276 : decode cX10_endYear 276 = .ok (.invokeinterface 333 1, 5) := by decide +kernel
theorem dX10_endYear_281 : decode cX10_endYear 281 = .ok (.aload_n 0, 1) := by decide +kernel
theorem dX10_endYear_282 : decode cX10_endYear 282 = .ok (.iconst 0, 1) := by decide +kernel
theorem dX10_endYear_283 : decode cX10_endYear 283 = .ok (.putfield 169, 3) := by decide +kernel
theorem dX10_endYear_286 : decode cX10_endYear 286 = .ok (.aload_n 0, 1) := by decide +kernel
theorem dX10_endYear_287 : decode cX10_endYear 287 = .ok (.iconst 0, 1) := by decide +kernel
theorem dX10_endYear_288 : decode cX10_endYear 288 = .ok (.putfield 157, 3) := by decide +kernel
theorem dX10_endYear_291 : decode cX10_endYear 291 = .ok (.aload_n 0, 1) := by decide +kernel
theorem dX10_endYear_292 : decode cX10_endYear 292 = .ok (.iconst 0, 1) := by decide +kernel
theorem dX10_endYear_293 : decode cX10_endYear 293 = .ok (.putfield 172, 3) := by decide +kernel
theorem dX10_endYear_296 : decode cX10_endYear 296 = .ok (.aload_n 0, 1) := by decide +kernel
theorem dX10_endYear_297 : decode cX10_endYear 297 = .ok (.iconst 0, 1) := by decide +kernel
theorem dX10_endYear_298 : decode cX10_endYear 298 = .ok (.putfield 149, 3) := by decide +kernel
theorem dX10_endYear_301 : decode cX10_endYear 301 = .ok (.aload_n 0, 1) := by decide +kernel
theorem dX10_endYear_302 : decode cX10_endYear 302 = .ok (.dup, 1) := by decide +kernel
theorem dX10_endYear_303 : decode cX10_endYear 303 = .ok (.getfield 403, 3) := by decide +kernel
theorem dX10_endYear_306 : decode cX10_endYear 306 = .ok (.iconst 1, 1) := by decide +kernel
theorem dX10_endYear_307 : decode cX10_endYear 307 = .ok (.iadd, 1) := by decide +kernel
theorem dX10_endYear_308 : decode cX10_endYear 308 = .ok (.putfield 403, 3) := by decide +kernel
theorem dX10_endYear_311 : decode cX10_endYear 311 = .ok (.aload_n 0, 1) := by decide +kernel
theorem dX10_endYear_312 : decode cX10_endYear 312 = .ok (.getfield 403, 3) := by decide +kernel
theorem dX10_endYear_315 : decode cX10_endYear 315 = .ok (.ireturn, 1) := by decide +kernel
set_option maxHeartbeats 4000000 in
set_option maxRecDepth 100000 in
theorem c_X10_endYear (l : Launch) (htr : l.stackTraces = false) (dC : Nat → ClassId) (dI : Nat → Nat → Nat) (e0 sz : Nat) (h0 : Nat) (th : Int32) (b : Nat → Nat) : Met l yX10_endYear wsX10_endYear ({ frames := 5, cells := 6, slots := 22, locals := 96 }) (va_Pc [.ref h0] (fun U => U.heap.size = sz ∧ va_P (dC, dI) vwCl [(h0, .inr (15, zM th b)), ((b 0), .inr (4, [.int 0, .ref e0, .int 0])), ((b 1), .inr (4, [.int 0, .ref e0, .int 0])), ((b 2), .inr (4, [.int 0, .ref e0, .int 0])), ((b 3), .inr (4, [.int 0, .ref e0, .int 0]))] U.heap ∧ va_K (dC, dI) vwCl [] U ∧ va_D (fun _ => True) [(h0, .inr (15, zM th b)), ((b 0), .inr (4, [.int 0, .ref e0, .int 0])), ((b 1), .inr (4, [.int 0, .ref e0, .int 0])), ((b 2), .inr (4, [.int 0, .ref e0, .int 0])), ((b 3), .inr (4, [.int 0, .ref e0, .int 0]))] ∧ zE e0 (va_A [(h0, .inr (15, zM th b)), ((b 0), .inr (4, [.int 0, .ref e0, .int 0])), ((b 1), .inr (4, [.int 0, .ref e0, .int 0])), ((b 2), .inr (4, [.int 0, .ref e0, .int 0])), ((b 3), .inr (4, [.int 0, .ref e0, .int 0]))] sz) U U.heap)) (va_Qi (fun (r : Int32) (_ : Unit) => r = 1) (fun _ t => va_P (dC, dI) vwCl [(h0, .inr (15, [.int 0, .ref (b 0), .ref (b 1), .ref (b 2), .ref (b 3), .int 1, .long 0, .int 0, .int 0, .int 0, .int 0]))] t.heap ∧ va_K (dC, dI) vwCl [] t ∧ va_D (va_A [(h0, .inr (15, zM th b)), ((b 0), .inr (4, [.int 0, .ref e0, .int 0])), ((b 1), .inr (4, [.int 0, .ref e0, .int 0])), ((b 2), .inr (4, [.int 0, .ref e0, .int 0])), ((b 3), .inr (4, [.int 0, .ref e0, .int 0]))] sz) [(h0, .inr (15, [.int 0, .ref (b 0), .ref (b 1), .ref (b 2), .ref (b 3), .int 1, .long 0, .int 0, .int 0, .int 0, .int 0]))]) (va_A [(h0, .inr (15, zM th b)), ((b 0), .inr (4, [.int 0, .ref e0, .int 0])), ((b 1), .inr (4, [.int 0, .ref e0, .int 0])), ((b 2), .inr (4, [.int 0, .ref e0, .int 0])), ((b 3), .inr (4, [.int 0, .ref e0, .int 0]))] sz)) 6 22 (va_A [(h0, .inr (15, zM th b)), ((b 0), .inr (4, [.int 0, .ref e0, .int 0])), ((b 1), .inr (4, [.int 0, .ref e0, .int 0])), ((b 2), .inr (4, [.int 0, .ref e0, .int 0])), ((b 3), .inr (4, [.int 0, .ref e0, .int 0]))] sz) := by
  refine Met.ofW (cc := cX10_endYear) (maxL := 8) (ret := (some .int)) (by decide) rfl ?_
  intro p e s m args below meth c s₁ B hml hv
  obtain ⟨rfl, hsz, hP, hK, hD0, hE⟩ := hv
  have hx := B.exec
  have hb := B.bytes
  have hr := B.returns
  have hts := atoms_spec (ws := wsX10_endYear) B.pre
  have hown : s.vm.findClass RX10 = some m.cls := findClass_of_methodNamed B.named
  have hlocks := B.notSynchronized
  subst hsz
  have hD := hD0.self (sz := s.heap.size)
  generalize hAe : va_A [(h0, .inr (15, zM th b)), ((b 0), .inr (4, [.int 0, .ref e0, .int 0])), ((b 1), .inr (4, [.int 0, .ref e0, .int 0])), ((b 2), .inr (4, [.int 0, .ref e0, .int 0])), ((b 3), .inr (4, [.int 0, .ref e0, .int 0]))] s.heap.size = A at hD hE ⊢
  have hA : ∀ q : Nat, s.heap.size ≤ q → A q := fun q h => by rw [← hAe]; exact Or.inr h
  have hS : va_S A s.heap s.heap [] := va_S.rf
  have hl := lv_entry ([.ref h0]) (n := 8) (Nat.le_of_ble_eq_true rfl)
  rw [lg_entry_eq]
  generalize (lg_sl ([.ref h0]) ++ List.replicate (8 - (lg_sl ([.ref h0])).length) Slot.unset).toArray = ls at hl ⊢
  have hl : lv_has ls 8 [(0, .ref h0)] := hl
  refine lv_aload_n hx hb dX10_endYear_0 rfl (lv_at hl 0 rfl) ?_
  refine lv_aload_n hx hb dX10_endYear_1 rfl (lv_at hl 0 rfl) ?_
  have hPc := hP.sub (ws' := [(h0, .inr (15, zM th b)), ((b 2), .inr (4, [.int 0, .ref e0, .int 0]))]) [0, 3] rfl
  have hDc := hD.sub (ws' := [(h0, .inr (15, zM th b)), ((b 2), .inr (4, [.int 0, .ref e0, .int 0]))]) [0, 3] (by decide) rfl
  have hKc := hK.sub (tys' := []) [] rfl
  have hFc := va_free (wc := [(h0, .inr (15, zM th b)), ((b 2), .inr (4, [.int 0, .ref e0, .int 0]))]) hD hS hA [0, 3] rfl
  have hEc := (hE.kept hS.2.1).narrow hFc
  refine va_calli (va_runV (As := []) (rest := [.ref h0]) ⟨hx, hb, hml, hown, hts⟩ (c_X10_isOnWay l htr dC dI e0 s.heap.size h0 th b) (cwV 0 hts gX10_endYear_X10_isOnWay rfl rfl rfl (by decide +kernel) ⟨Nat.le_of_ble_eq_true rfl, Nat.le_of_ble_eq_true rfl⟩) ⟨fun a U g mk q => by obtain ⟨q0, q1, qP, qK, qD, qE⟩ := q; exact ⟨q0, q1, qP, va_K.moved (u := U) (U := U.calling g mk a) (Vm.Alike.refl U.vm) qK, qD, zE.same rfl qE⟩, va_recv hKc hPc (ci := 15) (q0 := 0) rfl rfl, fun U hU hW => ⟨rfl, by rw [hU], by rw [hU]; exact hPc, va_K.moved hW.alike hKc, hDc.weaken (fun _ _ _ _ => trivial), by rw [hU]; exact zE.warm hW hEc⟩⟩ rfl rfl hl.1 rfl (lv_room (Nat.le_of_ble_eq_true rfl)) dX10_endYear_2 ⟨Nat.le_of_ble_eq_true rfl, Nat.le_of_ble_eq_true rfl⟩) hS (fun q _ h => hFc q h) hFc (fun r1 u t H1 locs ht hvm hw hB hz1 hk1 hS => ?_)
  obtain ⟨hP1, hK1, hD1⟩ := hB
  rw [ht] at hP1
  obtain ⟨hP, hD⟩ := va_join (wr := [((b 0), .inr (4, [.int 0, .ref e0, .int 0])), ((b 1), .inr (4, [.int 0, .ref e0, .int 0])), ((b 3), .inr (4, [.int 0, .ref e0, .int 0]))]) (w1 := [(h0, .inr (15, zM th b)), ((b 2), .inr (4, [.int 0, .ref e0, .int 0]))]) hP hD [0, 3] [1, 2, 4] rfl rfl (by decide) (by decide) hk1 hFc hP1 hD1
  generalize H1 = H at hP hS ⊢
  have hP : va_P (dC, dI) vwCl [((b 0), .inr (4, [.int 0, .ref e0, .int 0])), ((b 1), .inr (4, [.int 0, .ref e0, .int 0])), ((b 3), .inr (4, [.int 0, .ref e0, .int 0])), (h0, .inr (15, zM th b)), ((b 2), .inr (4, [.int 0, .ref e0, .int 0]))] H := hP
  have hD : va_D A [((b 0), .inr (4, [.int 0, .ref e0, .int 0])), ((b 1), .inr (4, [.int 0, .ref e0, .int 0])), ((b 3), .inr (4, [.int 0, .ref e0, .int 0])), (h0, .inr (15, zM th b)), ((b 2), .inr (4, [.int 0, .ref e0, .int 0]))] := hD
  obtain rfl : r1 = 0 := hw
  refine lv_if_eq (tgt := 12) hx hb dX10_endYear_5 (by decide) (fun _ => ?_) (fun c2 => absurd (by decide) c2)
  refine lv_iconst (v := 0) hx hb dX10_endYear_12 (by decide) ?_
  have hPc := hP.sub (ws' := [(h0, .inr (15, zM th b))]) [3] rfl
  have hDc := hD.sub (ws' := [(h0, .inr (15, zM th b))]) [3] (by decide) rfl
  have hKc := hK.sub (tys' := []) [] rfl
  have hFc := va_free (wc := [(h0, .inr (15, zM th b))]) hD hS hA [3] rfl
  refine va_calli (va_runV (As := [.int 0]) (rest := []) ⟨hx, hb, hml, hown, hts⟩ (c_X10_goesOn l htr dC dI e0 H.size h0 th b 0) (cwV 1 hts gX10_endYear_X10_goesOn rfl rfl rfl (by decide +kernel) ⟨Nat.le_of_ble_eq_true rfl, Nat.le_of_ble_eq_true rfl⟩) ⟨fun a U g mk q => by obtain ⟨q0, q1, qP, qK, qD⟩ := q; exact ⟨q0, q1, qP, va_K.moved (u := U) (U := U.calling g mk a) (Vm.Alike.refl U.vm) qK, qD⟩, va_recv hKc hPc (ci := 15) (q0 := 0) rfl rfl, fun U hU hW => ⟨rfl, by rw [hU], by rw [hU]; exact hPc, va_K.moved hW.alike hKc, hDc.weaken (fun _ _ _ _ => trivial)⟩⟩ rfl rfl hl.1 rfl (lv_room (Nat.le_of_ble_eq_true rfl)) dX10_endYear_13 ⟨Nat.le_of_ble_eq_true rfl, Nat.le_of_ble_eq_true rfl⟩) hS (fun q _ h => hFc q h) hFc (fun r3 u t H1 locs ht hvm hw hB hz1 hk1 hS => ?_)
  obtain ⟨hP1, hK1, hD1⟩ := hB
  rw [ht] at hP1
  obtain ⟨hP, hD⟩ := va_join (wr := [((b 0), .inr (4, [.int 0, .ref e0, .int 0])), ((b 1), .inr (4, [.int 0, .ref e0, .int 0])), ((b 3), .inr (4, [.int 0, .ref e0, .int 0])), ((b 2), .inr (4, [.int 0, .ref e0, .int 0]))]) (w1 := [(h0, .inr (15, zM 0 b))]) hP hD [3] [0, 1, 2, 4] rfl rfl (by decide) (by decide) hk1 hFc hP1 hD1
  generalize H1 = H at hP hS ⊢
  have hP : va_P (dC, dI) vwCl [((b 0), .inr (4, [.int 0, .ref e0, .int 0])), ((b 1), .inr (4, [.int 0, .ref e0, .int 0])), ((b 3), .inr (4, [.int 0, .ref e0, .int 0])), ((b 2), .inr (4, [.int 0, .ref e0, .int 0])), (h0, .inr (15, zM 0 b))] H := hP
  have hD : va_D A [((b 0), .inr (4, [.int 0, .ref e0, .int 0])), ((b 1), .inr (4, [.int 0, .ref e0, .int 0])), ((b 3), .inr (4, [.int 0, .ref e0, .int 0])), ((b 2), .inr (4, [.int 0, .ref e0, .int 0])), (h0, .inr (15, zM 0 b))] := hD
  obtain rfl : r3 = 1 := hw.trans (by decide)
  refine lv_if_ne (tgt := 21) hx hb dX10_endYear_16 (by decide) (fun _ => ?_) (fun c4 => absurd c4 (by decide))
  refine lv_aload_n hx hb dX10_endYear_21 rfl (lv_at hl 0 rfl) ?_
  have hPc := hP.sub (ws' := [(h0, .inr (15, zM 0 b)), ((b 2), .inr (4, [.int 0, .ref e0, .int 0]))]) [4, 3] rfl
  have hDc := hD.sub (ws' := [(h0, .inr (15, zM 0 b)), ((b 2), .inr (4, [.int 0, .ref e0, .int 0]))]) [4, 3] (by decide) rfl
  have hKc := hK.sub (tys' := []) [] rfl
  have hFc := va_free (wc := [(h0, .inr (15, zM 0 b)), ((b 2), .inr (4, [.int 0, .ref e0, .int 0]))]) hD hS hA [4, 3] rfl
  have hEc := (hE.kept hS.2.1).narrow hFc
  refine va_callr (va_runV (As := []) (rest := []) ⟨hx, hb, hml, hown, hts⟩ (c_X10_standings l htr dC dI e0 H.size h0 0 b) (cwV 0 hts gX10_endYear_X10_standings rfl rfl rfl (by decide +kernel) ⟨Nat.le_of_ble_eq_true rfl, Nat.le_of_ble_eq_true rfl⟩) ⟨fun a U g mk q => by obtain ⟨q0, q1, qP, qK, qD, qE⟩ := q; exact ⟨q0, q1, qP, va_K.moved (u := U) (U := U.calling g mk a) (Vm.Alike.refl U.vm) qK, qD, zE.same rfl qE⟩, va_recv hKc hPc (ci := 15) (q0 := 0) rfl rfl, fun U hU hW => ⟨rfl, by rw [hU], by rw [hU]; exact hPc, va_K.moved hW.alike hKc, hDc.weaken (fun _ _ _ _ => trivial), by rw [hU]; exact zE.warm hW hEc⟩⟩ rfl rfl hl.1 rfl (lv_room (Nat.le_of_ble_eq_true rfl)) dX10_endYear_22 ⟨Nat.le_of_ble_eq_true rfl, Nat.le_of_ble_eq_true rfl⟩) hS (fun q _ h => hFc q h) hFc (fun u r5 t H1 locs ht hvm hw hB hz1 hk1 hS => ?_)
  obtain ⟨hP1, hK1, hD1⟩ := hB
  rw [ht] at hP1
  obtain ⟨hP, hD⟩ := va_join (wr := [((b 0), .inr (4, [.int 0, .ref e0, .int 0])), ((b 1), .inr (4, [.int 0, .ref e0, .int 0])), ((b 3), .inr (4, [.int 0, .ref e0, .int 0]))]) (w1 := [(h0, .inr (15, zM 0 b)), ((b 2), .inr (4, [.int 0, .ref e0, .int 0])), (r5, .inr (4, [.int 0, .ref e0, .int 0]))]) hP hD [4, 3] [0, 1, 2] rfl rfl (by decide) (by decide) hk1 hFc hP1 hD1
  generalize H1 = H at hP hS ⊢
  have hP : va_P (dC, dI) vwCl [((b 0), .inr (4, [.int 0, .ref e0, .int 0])), ((b 1), .inr (4, [.int 0, .ref e0, .int 0])), ((b 3), .inr (4, [.int 0, .ref e0, .int 0])), (h0, .inr (15, zM 0 b)), ((b 2), .inr (4, [.int 0, .ref e0, .int 0])), (r5, .inr (4, [.int 0, .ref e0, .int 0]))] H := hP
  have hD : va_D A [((b 0), .inr (4, [.int 0, .ref e0, .int 0])), ((b 1), .inr (4, [.int 0, .ref e0, .int 0])), ((b 3), .inr (4, [.int 0, .ref e0, .int 0])), (h0, .inr (15, zM 0 b)), ((b 2), .inr (4, [.int 0, .ref e0, .int 0])), (r5, .inr (4, [.int 0, .ref e0, .int 0]))] := hD
  refine lv_astore_n (lv' := [(1, .ref r5), (0, .ref h0)]) hx hb dX10_endYear_25 rfl hl (by decide) rfl (fun ls hl => ?_)
  refine lv_iconst (v := 3) hx hb dX10_endYear_26 (by decide) ?_
  refine va_newa (atype := .int) (ty := .int) (N' := 3) (a0 := (3, .inl (fun _ => 0))) hx hb (hts (.arrayClass .int) (by decide +kernel)) rfl hK hP hD hS hA (fun _ => rfl) (by decide) (by decide) (by decide) (Nat.le_of_ble_eq_true rfl) (Nat.le_of_ble_eq_true rfl) dX10_endYear_27 (fun q6 k7 H hK hP hD hS => ?_)
  have hK : va_K (dC, dI) vwCl [(k7, .int)] s := hK
  have hP : va_P (dC, dI) vwCl [((b 0), .inr (4, [.int 0, .ref e0, .int 0])), ((b 1), .inr (4, [.int 0, .ref e0, .int 0])), ((b 3), .inr (4, [.int 0, .ref e0, .int 0])), (h0, .inr (15, zM 0 b)), ((b 2), .inr (4, [.int 0, .ref e0, .int 0])), (r5, .inr (4, [.int 0, .ref e0, .int 0])), (q6, .inl (k7, 3, .inl (fun _ => 0)))] H := hP
  have hD : va_D A [((b 0), .inr (4, [.int 0, .ref e0, .int 0])), ((b 1), .inr (4, [.int 0, .ref e0, .int 0])), ((b 3), .inr (4, [.int 0, .ref e0, .int 0])), (h0, .inr (15, zM 0 b)), ((b 2), .inr (4, [.int 0, .ref e0, .int 0])), (r5, .inr (4, [.int 0, .ref e0, .int 0])), (q6, .inl (k7, 3, .inl (fun _ => 0)))] := hD
  refine W.widen (k := 4) (n := 14) (by decide) (by decide) ?_
  refine lv_dup hx hb dX10_endYear_29 rfl ?_
  refine lv_iconst (v := 0) hx hb dX10_endYear_30 (by decide) ?_
  refine lv_iconst (v := 5) hx hb dX10_endYear_31 (by decide) ?_
  refine va_iast hx hb hK hP hD hS 6 0 rfl rfl (by unfold vp_in; decide) dX10_endYear_32 (fun H locs hP hD hS => ?_)
  have hP : va_P (dC, dI) vwCl [((b 0), .inr (4, [.int 0, .ref e0, .int 0])), ((b 1), .inr (4, [.int 0, .ref e0, .int 0])), ((b 3), .inr (4, [.int 0, .ref e0, .int 0])), (h0, .inr (15, zM 0 b)), ((b 2), .inr (4, [.int 0, .ref e0, .int 0])), (r5, .inr (4, [.int 0, .ref e0, .int 0])), (q6, .inl (k7, 3, .inl (upd (fun _ => 0) (0 : Int32).toNatClampNeg 5)))] H := hP
  have hD : va_D A [((b 0), .inr (4, [.int 0, .ref e0, .int 0])), ((b 1), .inr (4, [.int 0, .ref e0, .int 0])), ((b 3), .inr (4, [.int 0, .ref e0, .int 0])), (h0, .inr (15, zM 0 b)), ((b 2), .inr (4, [.int 0, .ref e0, .int 0])), (r5, .inr (4, [.int 0, .ref e0, .int 0])), (q6, .inl (k7, 3, .inl (upd (fun _ => 0) (0 : Int32).toNatClampNeg 5)))] := hD
  refine lv_dup hx hb dX10_endYear_33 rfl ?_
  refine lv_iconst (v := 1) hx hb dX10_endYear_34 (by decide) ?_
  refine lv_iconst (v := 3) hx hb dX10_endYear_35 (by decide) ?_
  refine va_iast hx hb hK hP hD hS 6 0 rfl rfl (by unfold vp_in; decide) dX10_endYear_36 (fun H locs hP hD hS => ?_)
  have hP : va_P (dC, dI) vwCl [((b 0), .inr (4, [.int 0, .ref e0, .int 0])), ((b 1), .inr (4, [.int 0, .ref e0, .int 0])), ((b 3), .inr (4, [.int 0, .ref e0, .int 0])), (h0, .inr (15, zM 0 b)), ((b 2), .inr (4, [.int 0, .ref e0, .int 0])), (r5, .inr (4, [.int 0, .ref e0, .int 0])), (q6, .inl (k7, 3, .inl (upd (upd (fun _ => 0) (0 : Int32).toNatClampNeg 5) (1 : Int32).toNatClampNeg 3)))] H := hP
  have hD : va_D A [((b 0), .inr (4, [.int 0, .ref e0, .int 0])), ((b 1), .inr (4, [.int 0, .ref e0, .int 0])), ((b 3), .inr (4, [.int 0, .ref e0, .int 0])), (h0, .inr (15, zM 0 b)), ((b 2), .inr (4, [.int 0, .ref e0, .int 0])), (r5, .inr (4, [.int 0, .ref e0, .int 0])), (q6, .inl (k7, 3, .inl (upd (upd (fun _ => 0) (0 : Int32).toNatClampNeg 5) (1 : Int32).toNatClampNeg 3)))] := hD
  refine lv_dup hx hb dX10_endYear_37 rfl ?_
  refine lv_iconst (v := 2) hx hb dX10_endYear_38 (by decide) ?_
  refine lv_iconst (v := 2) hx hb dX10_endYear_39 (by decide) ?_
  refine va_iast hx hb hK hP hD hS 6 0 rfl rfl (by unfold vp_in; decide) dX10_endYear_40 (fun H locs hP hD hS => ?_)
  have hP : va_P (dC, dI) vwCl [((b 0), .inr (4, [.int 0, .ref e0, .int 0])), ((b 1), .inr (4, [.int 0, .ref e0, .int 0])), ((b 3), .inr (4, [.int 0, .ref e0, .int 0])), (h0, .inr (15, zM 0 b)), ((b 2), .inr (4, [.int 0, .ref e0, .int 0])), (r5, .inr (4, [.int 0, .ref e0, .int 0])), (q6, .inl (k7, 3, .inl (upd (upd (upd (fun _ => 0) (0 : Int32).toNatClampNeg 5) (1 : Int32).toNatClampNeg 3) (2 : Int32).toNatClampNeg 2)))] H := hP
  have hD : va_D A [((b 0), .inr (4, [.int 0, .ref e0, .int 0])), ((b 1), .inr (4, [.int 0, .ref e0, .int 0])), ((b 3), .inr (4, [.int 0, .ref e0, .int 0])), (h0, .inr (15, zM 0 b)), ((b 2), .inr (4, [.int 0, .ref e0, .int 0])), (r5, .inr (4, [.int 0, .ref e0, .int 0])), (q6, .inl (k7, 3, .inl (upd (upd (upd (fun _ => 0) (0 : Int32).toNatClampNeg 5) (1 : Int32).toNatClampNeg 3) (2 : Int32).toNatClampNeg 2)))] := hD
  refine lv_astore_n (lv' := [(2, .ref q6), (1, .ref r5), (0, .ref h0)]) hx hb dX10_endYear_41 rfl hl (by decide) rfl (fun ls hl => ?_)
  refine lv_aload_n hx hb dX10_endYear_42 rfl (lv_at hl 2 rfl) ?_
  refine va_get (D := (dC, dI)) (ci := 15) (v := .long 0) (C := RX10) (T := TX10) (N := 11) hx hb hts (by decide +kernel) hown hK hP 3 rfl rfl 6 (by decide) (hts (.fieldLink RX10 391 "GanglineModel" "purse" "J") (by decide +kernel)) (fun _ h9 => h9) rfl dX10_endYear_43 ?_
  refine lv_lstore_n (lv' := [(3, .long 0), (2, .ref q6), (1, .ref r5), (0, .ref h0)]) hx hb dX10_endYear_46 rfl hl (by decide) rfl (fun ls hl => ?_)
  refine lv_iconst (v := 0) hx hb dX10_endYear_47 (by decide) ?_
  refine lv_istore (lv' := [(5, .int 0), (3, .long 0), (2, .ref q6), (1, .ref r5), (0, .ref h0)]) hx hb dX10_endYear_48 hl (by decide) rfl (fun ls hl => ?_)
  refine lv_iload hx hb dX10_endYear_50 (lv_at hl 0 rfl) ?_
  refine lv_iconst (v := 3) hx hb dX10_endYear_52 (by decide) ?_
  refine lv_icmp_ge (tgt := 119) hx hb dX10_endYear_53 (by decide) (fun c8 => absurd c8 (by decide)) (fun _ => ?_)
  refine lv_iload hx hb dX10_endYear_56 (lv_at hl 0 rfl) ?_
  refine lv_aload_n hx hb dX10_endYear_58 rfl (lv_at hl 3 rfl) ?_
  have hPc := hP.sub (ws' := [(r5, .inr (4, [.int 0, .ref e0, .int 0]))]) [5] rfl
  have hDc := hD.sub (ws' := [(r5, .inr (4, [.int 0, .ref e0, .int 0]))]) [5] (by decide) rfl
  have hKc := hK.sub (tys' := []) [] rfl
  have hFc := va_free (wc := [(r5, .inr (4, [.int 0, .ref e0, .int 0]))]) hD hS hA [5] rfl
  refine va_callFi (va_runF (As := []) (rest := [.int 0]) (hK.1 4 _ rfl).2 ⟨hx, hb, hml, hown, hts⟩ (c_Jx4a65c_size_8abf5 l htr dC dI e0 H.size r5 0 e0 0) (va_cwF 0 hts gX10_endYear_Jx4a65c_size_8abf5_f59Jx4a65c rfl rfl rfl (zV_W_size hE.v) (by decide +kernel) ⟨Nat.le_of_ble_eq_true rfl, Nat.le_of_ble_eq_true rfl⟩) ⟨fun a U g mk q => by obtain ⟨q0, q1, qP, qK, qD⟩ := q; exact ⟨q0, q1, qP, va_K.moved (u := U) (U := U.calling g mk a) (Vm.Alike.refl U.vm) qK, qD⟩, va_recv hKc hPc (ci := 4) (q0 := 0) rfl rfl, fun U hU hW => ⟨rfl, by rw [hU], by rw [hU]; exact hPc, va_K.moved hW.alike hKc, hDc.weaken (fun _ _ _ _ => trivial)⟩⟩ rfl rfl hl.1 rfl (lv_room (Nat.le_of_ble_eq_true rfl)) dX10_endYear_59 ⟨Nat.le_of_ble_eq_true rfl, Nat.le_of_ble_eq_true rfl⟩) hS (fun q _ h => hFc q h) hFc (fun r9 u t H1 locs ht hvm hw hB hz1 hk1 hS => ?_)
  obtain ⟨hP1, hK1, hD1⟩ := hB
  rw [ht] at hP1
  obtain ⟨hP, hD⟩ := va_join (wr := [((b 0), .inr (4, [.int 0, .ref e0, .int 0])), ((b 1), .inr (4, [.int 0, .ref e0, .int 0])), ((b 3), .inr (4, [.int 0, .ref e0, .int 0])), (h0, .inr (15, zM 0 b)), ((b 2), .inr (4, [.int 0, .ref e0, .int 0])), (q6, .inl (k7, 3, .inl (upd (upd (upd (fun _ => 0) (0 : Int32).toNatClampNeg 5) (1 : Int32).toNatClampNeg 3) (2 : Int32).toNatClampNeg 2)))]) (w1 := [(r5, .inr (4, [.int 0, .ref e0, .int 0]))]) hP hD [5] [0, 1, 2, 3, 4, 6] rfl rfl (by decide) (by decide) hk1 hFc hP1 hD1
  generalize H1 = H at hP hS ⊢
  have hP : va_P (dC, dI) vwCl [((b 0), .inr (4, [.int 0, .ref e0, .int 0])), ((b 1), .inr (4, [.int 0, .ref e0, .int 0])), ((b 3), .inr (4, [.int 0, .ref e0, .int 0])), (h0, .inr (15, zM 0 b)), ((b 2), .inr (4, [.int 0, .ref e0, .int 0])), (q6, .inl (k7, 3, .inl (upd (upd (upd (fun _ => 0) (0 : Int32).toNatClampNeg 5) (1 : Int32).toNatClampNeg 3) (2 : Int32).toNatClampNeg 2))), (r5, .inr (4, [.int 0, .ref e0, .int 0]))] H := hP
  have hD : va_D A [((b 0), .inr (4, [.int 0, .ref e0, .int 0])), ((b 1), .inr (4, [.int 0, .ref e0, .int 0])), ((b 3), .inr (4, [.int 0, .ref e0, .int 0])), (h0, .inr (15, zM 0 b)), ((b 2), .inr (4, [.int 0, .ref e0, .int 0])), (q6, .inl (k7, 3, .inl (upd (upd (upd (fun _ => 0) (0 : Int32).toNatClampNeg 5) (1 : Int32).toNatClampNeg 3) (2 : Int32).toNatClampNeg 2))), (r5, .inr (4, [.int 0, .ref e0, .int 0]))] := hD
  obtain rfl : r9 = 0 := hw
  refine lv_icmp_ge (tgt := 119) hx hb dX10_endYear_64 (by decide) (fun _ => ?_) (fun c10 => absurd (by decide) c10)
  refine lv_aload_n hx hb dX10_endYear_119 rfl (lv_at hl 4 rfl) ?_
  refine va_get (D := (dC, dI)) (ci := 15) (v := .ref (b 2)) (C := RX10) (T := TX10) (N := 11) hx hb hts (by decide +kernel) hown hK hP 3 rfl rfl 3 (by decide) (hts (.fieldLink RX10 19 "GanglineModel" "teams" "Ljava/util/List;") (by decide +kernel)) (fun _ h9 => h9) rfl dX10_endYear_120 ?_
  have hPc := hP.sub (ws' := [((b 2), .inr (4, [.int 0, .ref e0, .int 0]))]) [4] rfl
  have hDc := hD.sub (ws' := [((b 2), .inr (4, [.int 0, .ref e0, .int 0]))]) [4] (by decide) rfl
  have hKc := hK.sub (tys' := []) [] rfl
  have hFc := va_free (wc := [((b 2), .inr (4, [.int 0, .ref e0, .int 0]))]) hD hS hA [4] rfl
  refine va_callFr (va_runF (As := []) (rest := []) (hK.1 4 _ rfl).2 ⟨hx, hb, hml, hown, hts⟩ (c_Jx4a65c_iterator_32c93 l htr dC dI e0 H.size (b 2)) (va_cwF 0 hts gX10_endYear_Jx4a65c_iterator_32c93_f38Jx4a65c rfl rfl rfl (zV_W_iter hE.v) (by decide +kernel) ⟨Nat.le_of_ble_eq_true rfl, Nat.le_of_ble_eq_true rfl⟩) ⟨fun a U g mk q => by obtain ⟨q0, q1, qP, qK, qD⟩ := q; exact ⟨q0, q1, qP, va_K.moved (u := U) (U := U.calling g mk a) (Vm.Alike.refl U.vm) qK, qD⟩, va_recv hKc hPc (ci := 4) (q0 := 0) rfl rfl, fun U hU hW => ⟨rfl, by rw [hU], by rw [hU]; exact hPc, va_K.moved hW.alike hKc, hDc.weaken (fun _ _ _ _ => trivial)⟩⟩ rfl rfl hl.1 rfl (lv_room (Nat.le_of_ble_eq_true rfl)) dX10_endYear_123 ⟨Nat.le_of_ble_eq_true rfl, Nat.le_of_ble_eq_true rfl⟩) hS (fun q _ h => hFc q h) hFc (fun u r11 t H1 locs ht hvm hw hB hz1 hk1 hS => ?_)
  obtain ⟨hP1, hK1, hD1⟩ := hB
  rw [ht] at hP1
  obtain ⟨hP, hD⟩ := va_join (wr := [((b 0), .inr (4, [.int 0, .ref e0, .int 0])), ((b 1), .inr (4, [.int 0, .ref e0, .int 0])), ((b 3), .inr (4, [.int 0, .ref e0, .int 0])), (h0, .inr (15, zM 0 b)), (q6, .inl (k7, 3, .inl (upd (upd (upd (fun _ => 0) (0 : Int32).toNatClampNeg 5) (1 : Int32).toNatClampNeg 3) (2 : Int32).toNatClampNeg 2))), (r5, .inr (4, [.int 0, .ref e0, .int 0]))]) (w1 := [(r11, .inr (3, [.int 0, .int (-1), .int 0, .ref (b 2)])), ((b 2), .inr (4, [.int 0, .ref e0, .int 0]))]) hP hD [4] [0, 1, 2, 3, 5, 6] rfl rfl (by decide) (by decide) hk1 hFc hP1 hD1
  generalize H1 = H at hP hS ⊢
  have hP : va_P (dC, dI) vwCl [((b 0), .inr (4, [.int 0, .ref e0, .int 0])), ((b 1), .inr (4, [.int 0, .ref e0, .int 0])), ((b 3), .inr (4, [.int 0, .ref e0, .int 0])), (h0, .inr (15, zM 0 b)), (q6, .inl (k7, 3, .inl (upd (upd (upd (fun _ => 0) (0 : Int32).toNatClampNeg 5) (1 : Int32).toNatClampNeg 3) (2 : Int32).toNatClampNeg 2))), (r5, .inr (4, [.int 0, .ref e0, .int 0])), (r11, .inr (3, [.int 0, .int (-1), .int 0, .ref (b 2)])), ((b 2), .inr (4, [.int 0, .ref e0, .int 0]))] H := hP
  have hD : va_D A [((b 0), .inr (4, [.int 0, .ref e0, .int 0])), ((b 1), .inr (4, [.int 0, .ref e0, .int 0])), ((b 3), .inr (4, [.int 0, .ref e0, .int 0])), (h0, .inr (15, zM 0 b)), (q6, .inl (k7, 3, .inl (upd (upd (upd (fun _ => 0) (0 : Int32).toNatClampNeg 5) (1 : Int32).toNatClampNeg 3) (2 : Int32).toNatClampNeg 2))), (r5, .inr (4, [.int 0, .ref e0, .int 0])), (r11, .inr (3, [.int 0, .int (-1), .int 0, .ref (b 2)])), ((b 2), .inr (4, [.int 0, .ref e0, .int 0]))] := hD
  refine lv_astore (lv' := [(5, .ref r11), (3, .long 0), (2, .ref q6), (1, .ref r5), (0, .ref h0)]) hx hb dX10_endYear_128 hl (by decide) rfl (fun ls hl => ?_)
  refine lv_aload hx hb dX10_endYear_130 (lv_at hl 0 rfl) ?_
  have hPc := hP.sub (ws' := [(r11, .inr (3, [.int 0, .int (-1), .int 0, .ref (b 2)])), ((b 2), .inr (4, [.int 0, .ref e0, .int 0]))]) [6, 7] rfl
  have hDc := hD.sub (ws' := [(r11, .inr (3, [.int 0, .int (-1), .int 0, .ref (b 2)])), ((b 2), .inr (4, [.int 0, .ref e0, .int 0]))]) [6, 7] (by decide) rfl
  have hKc := hK.sub (tys' := []) [] rfl
  have hFc := va_free (wc := [(r11, .inr (3, [.int 0, .int (-1), .int 0, .ref (b 2)])), ((b 2), .inr (4, [.int 0, .ref e0, .int 0]))]) hD hS hA [6, 7] rfl
  have hEc := (hE.kept hS.2.1).narrow hFc
  refine va_callFi (va_runF (As := []) (rest := []) (hK.1 3 _ rfl).2 ⟨hx, hb, hml, hown, hts⟩ (c_Jx35411_hasNext_aae02 l htr dC dI e0 H.size r11 (b 2)) (va_cwF 0 hts gX10_endYear_Jx35411_hasNext_aae02_f44Jx35411 rfl rfl rfl (zV_W_hasNext hE.v) (by decide +kernel) ⟨Nat.le_of_ble_eq_true rfl, Nat.le_of_ble_eq_true rfl⟩) ⟨fun a U g mk q => by obtain ⟨q0, q1, qP, qK, qD, qE⟩ := q; exact ⟨q0, q1, qP, va_K.moved (u := U) (U := U.calling g mk a) (Vm.Alike.refl U.vm) qK, qD, zE.same rfl qE⟩, va_recv hKc hPc (ci := 3) (q0 := 0) rfl rfl, fun U hU hW => ⟨rfl, by rw [hU], by rw [hU]; exact hPc, va_K.moved hW.alike hKc, hDc.weaken (fun _ _ _ _ => trivial), by rw [hU]; exact zE.warm hW hEc⟩⟩ rfl rfl hl.1 rfl (lv_room (Nat.le_of_ble_eq_true rfl)) dX10_endYear_132 ⟨Nat.le_of_ble_eq_true rfl, Nat.le_of_ble_eq_true rfl⟩) hS (fun q _ h => hFc q h) hFc (fun r12 u t H1 locs ht hvm hw hB hz1 hk1 hS => ?_)
  obtain ⟨hP1, hK1, hD1⟩ := hB
  rw [ht] at hP1
  obtain ⟨hP, hD⟩ := va_join (wr := [((b 0), .inr (4, [.int 0, .ref e0, .int 0])), ((b 1), .inr (4, [.int 0, .ref e0, .int 0])), ((b 3), .inr (4, [.int 0, .ref e0, .int 0])), (h0, .inr (15, zM 0 b)), (q6, .inl (k7, 3, .inl (upd (upd (upd (fun _ => 0) (0 : Int32).toNatClampNeg 5) (1 : Int32).toNatClampNeg 3) (2 : Int32).toNatClampNeg 2))), (r5, .inr (4, [.int 0, .ref e0, .int 0]))]) (w1 := [(r11, .inr (3, [.int 0, .int (-1), .int 0, .ref (b 2)])), ((b 2), .inr (4, [.int 0, .ref e0, .int 0]))]) hP hD [6, 7] [0, 1, 2, 3, 4, 5] rfl rfl (by decide) (by decide) hk1 hFc hP1 hD1
  generalize H1 = H at hP hS ⊢
  have hP : va_P (dC, dI) vwCl [((b 0), .inr (4, [.int 0, .ref e0, .int 0])), ((b 1), .inr (4, [.int 0, .ref e0, .int 0])), ((b 3), .inr (4, [.int 0, .ref e0, .int 0])), (h0, .inr (15, zM 0 b)), (q6, .inl (k7, 3, .inl (upd (upd (upd (fun _ => 0) (0 : Int32).toNatClampNeg 5) (1 : Int32).toNatClampNeg 3) (2 : Int32).toNatClampNeg 2))), (r5, .inr (4, [.int 0, .ref e0, .int 0])), (r11, .inr (3, [.int 0, .int (-1), .int 0, .ref (b 2)])), ((b 2), .inr (4, [.int 0, .ref e0, .int 0]))] H := hP
  have hD : va_D A [((b 0), .inr (4, [.int 0, .ref e0, .int 0])), ((b 1), .inr (4, [.int 0, .ref e0, .int 0])), ((b 3), .inr (4, [.int 0, .ref e0, .int 0])), (h0, .inr (15, zM 0 b)), (q6, .inl (k7, 3, .inl (upd (upd (upd (fun _ => 0) (0 : Int32).toNatClampNeg 5) (1 : Int32).toNatClampNeg 3) (2 : Int32).toNatClampNeg 2))), (r5, .inr (4, [.int 0, .ref e0, .int 0])), (r11, .inr (3, [.int 0, .int (-1), .int 0, .ref (b 2)])), ((b 2), .inr (4, [.int 0, .ref e0, .int 0]))] := hD
  obtain rfl : r12 = 0 := hw
  refine lv_if_eq (tgt := 160) hx hb dX10_endYear_137 (by decide) (fun _ => ?_) (fun c13 => absurd (by decide) c13)
  refine lv_aload_n hx hb dX10_endYear_160 rfl (lv_at hl 4 rfl) ?_
  refine va_get (D := (dC, dI)) (ci := 15) (v := .ref (b 3)) (C := RX10) (T := TX10) (N := 11) hx hb hts (by decide +kernel) hown hK hP 3 rfl rfl 4 (by decide) (hts (.fieldLink RX10 22 "GanglineModel" "dogs" "Ljava/util/List;") (by decide +kernel)) (fun _ h9 => h9) rfl dX10_endYear_161 ?_
  have hPc := hP.sub (ws' := [((b 3), .inr (4, [.int 0, .ref e0, .int 0]))]) [2] rfl
  have hDc := hD.sub (ws' := [((b 3), .inr (4, [.int 0, .ref e0, .int 0]))]) [2] (by decide) rfl
  have hKc := hK.sub (tys' := []) [] rfl
  have hFc := va_free (wc := [((b 3), .inr (4, [.int 0, .ref e0, .int 0]))]) hD hS hA [2] rfl
  refine va_callFr (va_runF (As := []) (rest := []) (hK.1 4 _ rfl).2 ⟨hx, hb, hml, hown, hts⟩ (c_Jx4a65c_iterator_32c93 l htr dC dI e0 H.size (b 3)) (va_cwF 0 hts gX10_endYear_Jx4a65c_iterator_32c93_f38Jx4a65c rfl rfl rfl (zV_W_iter hE.v) (by decide +kernel) ⟨Nat.le_of_ble_eq_true rfl, Nat.le_of_ble_eq_true rfl⟩) ⟨fun a U g mk q => by obtain ⟨q0, q1, qP, qK, qD⟩ := q; exact ⟨q0, q1, qP, va_K.moved (u := U) (U := U.calling g mk a) (Vm.Alike.refl U.vm) qK, qD⟩, va_recv hKc hPc (ci := 4) (q0 := 0) rfl rfl, fun U hU hW => ⟨rfl, by rw [hU], by rw [hU]; exact hPc, va_K.moved hW.alike hKc, hDc.weaken (fun _ _ _ _ => trivial)⟩⟩ rfl rfl hl.1 rfl (lv_room (Nat.le_of_ble_eq_true rfl)) dX10_endYear_164 ⟨Nat.le_of_ble_eq_true rfl, Nat.le_of_ble_eq_true rfl⟩) hS (fun q _ h => hFc q h) hFc (fun u r14 t H1 locs ht hvm hw hB hz1 hk1 hS => ?_)
  obtain ⟨hP1, hK1, hD1⟩ := hB
  rw [ht] at hP1
  obtain ⟨hP, hD⟩ := va_join (wr := [((b 0), .inr (4, [.int 0, .ref e0, .int 0])), ((b 1), .inr (4, [.int 0, .ref e0, .int 0])), (h0, .inr (15, zM 0 b)), (q6, .inl (k7, 3, .inl (upd (upd (upd (fun _ => 0) (0 : Int32).toNatClampNeg 5) (1 : Int32).toNatClampNeg 3) (2 : Int32).toNatClampNeg 2))), (r5, .inr (4, [.int 0, .ref e0, .int 0])), (r11, .inr (3, [.int 0, .int (-1), .int 0, .ref (b 2)])), ((b 2), .inr (4, [.int 0, .ref e0, .int 0]))]) (w1 := [(r14, .inr (3, [.int 0, .int (-1), .int 0, .ref (b 3)])), ((b 3), .inr (4, [.int 0, .ref e0, .int 0]))]) hP hD [2] [0, 1, 3, 4, 5, 6, 7] rfl rfl (by decide) (by decide) hk1 hFc hP1 hD1
  generalize H1 = H at hP hS ⊢
  have hP : va_P (dC, dI) vwCl [((b 0), .inr (4, [.int 0, .ref e0, .int 0])), ((b 1), .inr (4, [.int 0, .ref e0, .int 0])), (h0, .inr (15, zM 0 b)), (q6, .inl (k7, 3, .inl (upd (upd (upd (fun _ => 0) (0 : Int32).toNatClampNeg 5) (1 : Int32).toNatClampNeg 3) (2 : Int32).toNatClampNeg 2))), (r5, .inr (4, [.int 0, .ref e0, .int 0])), (r11, .inr (3, [.int 0, .int (-1), .int 0, .ref (b 2)])), ((b 2), .inr (4, [.int 0, .ref e0, .int 0])), (r14, .inr (3, [.int 0, .int (-1), .int 0, .ref (b 3)])), ((b 3), .inr (4, [.int 0, .ref e0, .int 0]))] H := hP
  have hD : va_D A [((b 0), .inr (4, [.int 0, .ref e0, .int 0])), ((b 1), .inr (4, [.int 0, .ref e0, .int 0])), (h0, .inr (15, zM 0 b)), (q6, .inl (k7, 3, .inl (upd (upd (upd (fun _ => 0) (0 : Int32).toNatClampNeg 5) (1 : Int32).toNatClampNeg 3) (2 : Int32).toNatClampNeg 2))), (r5, .inr (4, [.int 0, .ref e0, .int 0])), (r11, .inr (3, [.int 0, .int (-1), .int 0, .ref (b 2)])), ((b 2), .inr (4, [.int 0, .ref e0, .int 0])), (r14, .inr (3, [.int 0, .int (-1), .int 0, .ref (b 3)])), ((b 3), .inr (4, [.int 0, .ref e0, .int 0]))] := hD
  refine lv_astore (lv' := [(5, .ref r14), (3, .long 0), (2, .ref q6), (1, .ref r5), (0, .ref h0)]) hx hb dX10_endYear_169 hl (by decide) rfl (fun ls hl => ?_)
  refine lv_aload hx hb dX10_endYear_171 (lv_at hl 0 rfl) ?_
  have hPc := hP.sub (ws' := [(r14, .inr (3, [.int 0, .int (-1), .int 0, .ref (b 3)])), ((b 3), .inr (4, [.int 0, .ref e0, .int 0]))]) [7, 8] rfl
  have hDc := hD.sub (ws' := [(r14, .inr (3, [.int 0, .int (-1), .int 0, .ref (b 3)])), ((b 3), .inr (4, [.int 0, .ref e0, .int 0]))]) [7, 8] (by decide) rfl
  have hKc := hK.sub (tys' := []) [] rfl
  have hFc := va_free (wc := [(r14, .inr (3, [.int 0, .int (-1), .int 0, .ref (b 3)])), ((b 3), .inr (4, [.int 0, .ref e0, .int 0]))]) hD hS hA [7, 8] rfl
  have hEc := (hE.kept hS.2.1).narrow hFc
  refine va_callFi (va_runF (As := []) (rest := []) (hK.1 3 _ rfl).2 ⟨hx, hb, hml, hown, hts⟩ (c_Jx35411_hasNext_aae02 l htr dC dI e0 H.size r14 (b 3)) (va_cwF 0 hts gX10_endYear_Jx35411_hasNext_aae02_f44Jx35411 rfl rfl rfl (zV_W_hasNext hE.v) (by decide +kernel) ⟨Nat.le_of_ble_eq_true rfl, Nat.le_of_ble_eq_true rfl⟩) ⟨fun a U g mk q => by obtain ⟨q0, q1, qP, qK, qD, qE⟩ := q; exact ⟨q0, q1, qP, va_K.moved (u := U) (U := U.calling g mk a) (Vm.Alike.refl U.vm) qK, qD, zE.same rfl qE⟩, va_recv hKc hPc (ci := 3) (q0 := 0) rfl rfl, fun U hU hW => ⟨rfl, by rw [hU], by rw [hU]; exact hPc, va_K.moved hW.alike hKc, hDc.weaken (fun _ _ _ _ => trivial), by rw [hU]; exact zE.warm hW hEc⟩⟩ rfl rfl hl.1 rfl (lv_room (Nat.le_of_ble_eq_true rfl)) dX10_endYear_173 ⟨Nat.le_of_ble_eq_true rfl, Nat.le_of_ble_eq_true rfl⟩) hS (fun q _ h => hFc q h) hFc (fun r15 u t H1 locs ht hvm hw hB hz1 hk1 hS => ?_)
  obtain ⟨hP1, hK1, hD1⟩ := hB
  rw [ht] at hP1
  obtain ⟨hP, hD⟩ := va_join (wr := [((b 0), .inr (4, [.int 0, .ref e0, .int 0])), ((b 1), .inr (4, [.int 0, .ref e0, .int 0])), (h0, .inr (15, zM 0 b)), (q6, .inl (k7, 3, .inl (upd (upd (upd (fun _ => 0) (0 : Int32).toNatClampNeg 5) (1 : Int32).toNatClampNeg 3) (2 : Int32).toNatClampNeg 2))), (r5, .inr (4, [.int 0, .ref e0, .int 0])), (r11, .inr (3, [.int 0, .int (-1), .int 0, .ref (b 2)])), ((b 2), .inr (4, [.int 0, .ref e0, .int 0]))]) (w1 := [(r14, .inr (3, [.int 0, .int (-1), .int 0, .ref (b 3)])), ((b 3), .inr (4, [.int 0, .ref e0, .int 0]))]) hP hD [7, 8] [0, 1, 2, 3, 4, 5, 6] rfl rfl (by decide) (by decide) hk1 hFc hP1 hD1
  generalize H1 = H at hP hS ⊢
  have hP : va_P (dC, dI) vwCl [((b 0), .inr (4, [.int 0, .ref e0, .int 0])), ((b 1), .inr (4, [.int 0, .ref e0, .int 0])), (h0, .inr (15, zM 0 b)), (q6, .inl (k7, 3, .inl (upd (upd (upd (fun _ => 0) (0 : Int32).toNatClampNeg 5) (1 : Int32).toNatClampNeg 3) (2 : Int32).toNatClampNeg 2))), (r5, .inr (4, [.int 0, .ref e0, .int 0])), (r11, .inr (3, [.int 0, .int (-1), .int 0, .ref (b 2)])), ((b 2), .inr (4, [.int 0, .ref e0, .int 0])), (r14, .inr (3, [.int 0, .int (-1), .int 0, .ref (b 3)])), ((b 3), .inr (4, [.int 0, .ref e0, .int 0]))] H := hP
  have hD : va_D A [((b 0), .inr (4, [.int 0, .ref e0, .int 0])), ((b 1), .inr (4, [.int 0, .ref e0, .int 0])), (h0, .inr (15, zM 0 b)), (q6, .inl (k7, 3, .inl (upd (upd (upd (fun _ => 0) (0 : Int32).toNatClampNeg 5) (1 : Int32).toNatClampNeg 3) (2 : Int32).toNatClampNeg 2))), (r5, .inr (4, [.int 0, .ref e0, .int 0])), (r11, .inr (3, [.int 0, .int (-1), .int 0, .ref (b 2)])), ((b 2), .inr (4, [.int 0, .ref e0, .int 0])), (r14, .inr (3, [.int 0, .int (-1), .int 0, .ref (b 3)])), ((b 3), .inr (4, [.int 0, .ref e0, .int 0]))] := hD
  obtain rfl : r15 = 0 := hw
  refine lv_if_eq (tgt := 272) hx hb dX10_endYear_178 (by decide) (fun _ => ?_) (fun c16 => absurd (by decide) c16)
  refine lv_aload_n hx hb dX10_endYear_272 rfl (lv_at hl 4 rfl) ?_
  refine va_get (D := (dC, dI)) (ci := 15) (v := .ref (b 1)) (C := RX10) (T := TX10) (N := 11) hx hb hts (by decide +kernel) hown hK hP 2 rfl rfl 2 (by decide) (hts (.fieldLink RX10 16 "GanglineModel" "storms" "Ljava/util/List;") (by decide +kernel)) (fun _ h9 => h9) rfl dX10_endYear_273 ?_
  have hPc := hP.sub (ws' := [((b 1), .inr (4, [.int 0, .ref e0, .int 0]))]) [1] rfl
  have hDc := hD.sub (ws' := [((b 1), .inr (4, [.int 0, .ref e0, .int 0]))]) [1] (by decide) rfl
  have hKc := hK.sub (tys' := []) [] rfl
  have hFc := va_free (wc := [((b 1), .inr (4, [.int 0, .ref e0, .int 0]))]) hD hS hA [1] rfl
  refine va_callFv (va_runF (As := []) (rest := []) (hK.1 4 _ rfl).2 ⟨hx, hb, hml, hown, hts⟩ (c_Jx4a65c_clear_da8c8 l htr dC dI e0 H.size (b 1)) (va_cwF 0 hts gX10_endYear_Jx4a65c_clear_da8c8_f333Jx4a65c rfl rfl rfl (zV_W_clear hE.v) (by decide +kernel) ⟨Nat.le_of_ble_eq_true rfl, Nat.le_of_ble_eq_true rfl⟩) ⟨fun a U g mk q => by obtain ⟨q0, q1, qP, qK, qD⟩ := q; exact ⟨q0, q1, qP, va_K.moved (u := U) (U := U.calling g mk a) (Vm.Alike.refl U.vm) qK, qD⟩, va_recv hKc hPc (ci := 4) (q0 := 0) rfl rfl, fun U hU hW => ⟨rfl, by rw [hU], by rw [hU]; exact hPc, va_K.moved hW.alike hKc, hDc.weaken (fun _ _ _ _ => trivial)⟩⟩ rfl rfl hl.1 rfl (lv_room (Nat.le_of_ble_eq_true rfl)) dX10_endYear_276 ⟨Nat.le_of_ble_eq_true rfl, Nat.le_of_ble_eq_true rfl⟩) hS (fun q _ h => hFc q h) hFc (fun u t H1 locs ht hvm hw hB hz1 hk1 hS => ?_)
  obtain ⟨hP1, hK1, hD1⟩ := hB
  rw [ht] at hP1
  obtain ⟨hP, hD⟩ := va_join (wr := [((b 0), .inr (4, [.int 0, .ref e0, .int 0])), (h0, .inr (15, zM 0 b)), (q6, .inl (k7, 3, .inl (upd (upd (upd (fun _ => 0) (0 : Int32).toNatClampNeg 5) (1 : Int32).toNatClampNeg 3) (2 : Int32).toNatClampNeg 2))), (r5, .inr (4, [.int 0, .ref e0, .int 0])), (r11, .inr (3, [.int 0, .int (-1), .int 0, .ref (b 2)])), ((b 2), .inr (4, [.int 0, .ref e0, .int 0])), (r14, .inr (3, [.int 0, .int (-1), .int 0, .ref (b 3)])), ((b 3), .inr (4, [.int 0, .ref e0, .int 0]))]) (w1 := [((b 1), .inr (4, [.int 1, .ref e0, .int 0]))]) hP hD [1] [0, 2, 3, 4, 5, 6, 7, 8] rfl rfl (by decide) (by decide) hk1 hFc hP1 hD1
  generalize H1 = H at hP hS ⊢
  have hP : va_P (dC, dI) vwCl [((b 0), .inr (4, [.int 0, .ref e0, .int 0])), (h0, .inr (15, zM 0 b)), (q6, .inl (k7, 3, .inl (upd (upd (upd (fun _ => 0) (0 : Int32).toNatClampNeg 5) (1 : Int32).toNatClampNeg 3) (2 : Int32).toNatClampNeg 2))), (r5, .inr (4, [.int 0, .ref e0, .int 0])), (r11, .inr (3, [.int 0, .int (-1), .int 0, .ref (b 2)])), ((b 2), .inr (4, [.int 0, .ref e0, .int 0])), (r14, .inr (3, [.int 0, .int (-1), .int 0, .ref (b 3)])), ((b 3), .inr (4, [.int 0, .ref e0, .int 0])), ((b 1), .inr (4, [.int 1, .ref e0, .int 0]))] H := hP
  have hD : va_D A [((b 0), .inr (4, [.int 0, .ref e0, .int 0])), (h0, .inr (15, zM 0 b)), (q6, .inl (k7, 3, .inl (upd (upd (upd (fun _ => 0) (0 : Int32).toNatClampNeg 5) (1 : Int32).toNatClampNeg 3) (2 : Int32).toNatClampNeg 2))), (r5, .inr (4, [.int 0, .ref e0, .int 0])), (r11, .inr (3, [.int 0, .int (-1), .int 0, .ref (b 2)])), ((b 2), .inr (4, [.int 0, .ref e0, .int 0])), (r14, .inr (3, [.int 0, .int (-1), .int 0, .ref (b 3)])), ((b 3), .inr (4, [.int 0, .ref e0, .int 0])), ((b 1), .inr (4, [.int 1, .ref e0, .int 0]))] := hD
  refine lv_aload_n hx hb dX10_endYear_281 rfl (lv_at hl 4 rfl) ?_
  refine lv_iconst (v := 0) hx hb dX10_endYear_282 (by decide) ?_
  refine va_put (D := (dC, dI)) (ci := 15) (v := .int 0) (ty := .int) (C := RX10) (T := TX10) (N := 11) hx hb hts (by decide +kernel) tyX10 tyX10_ok nmX10 hown hK hP hD hS 1 rfl rfl 7 (by decide) (hts (.fieldLink RX10 169 "GanglineModel" "lastBegun" "I") (by decide +kernel)) (fun _ h9 => h9) rfl (by decide +kernel) rfl rfl (Nat.le_of_ble_eq_true rfl) dX10_endYear_283 (fun H locs hP hD hS => ?_)
  have hP : va_P (dC, dI) vwCl [((b 0), .inr (4, [.int 0, .ref e0, .int 0])), (h0, .inr (15, [.int 0, .ref (b 0), .ref (b 1), .ref (b 2), .ref (b 3), .int 0, .long 0, .int 0, .int 0, .int 0, .int 0])), (q6, .inl (k7, 3, .inl (upd (upd (upd (fun _ => 0) (0 : Int32).toNatClampNeg 5) (1 : Int32).toNatClampNeg 3) (2 : Int32).toNatClampNeg 2))), (r5, .inr (4, [.int 0, .ref e0, .int 0])), (r11, .inr (3, [.int 0, .int (-1), .int 0, .ref (b 2)])), ((b 2), .inr (4, [.int 0, .ref e0, .int 0])), (r14, .inr (3, [.int 0, .int (-1), .int 0, .ref (b 3)])), ((b 3), .inr (4, [.int 0, .ref e0, .int 0])), ((b 1), .inr (4, [.int 1, .ref e0, .int 0]))] H := hP
  have hD : va_D A [((b 0), .inr (4, [.int 0, .ref e0, .int 0])), (h0, .inr (15, [.int 0, .ref (b 0), .ref (b 1), .ref (b 2), .ref (b 3), .int 0, .long 0, .int 0, .int 0, .int 0, .int 0])), (q6, .inl (k7, 3, .inl (upd (upd (upd (fun _ => 0) (0 : Int32).toNatClampNeg 5) (1 : Int32).toNatClampNeg 3) (2 : Int32).toNatClampNeg 2))), (r5, .inr (4, [.int 0, .ref e0, .int 0])), (r11, .inr (3, [.int 0, .int (-1), .int 0, .ref (b 2)])), ((b 2), .inr (4, [.int 0, .ref e0, .int 0])), (r14, .inr (3, [.int 0, .int (-1), .int 0, .ref (b 3)])), ((b 3), .inr (4, [.int 0, .ref e0, .int 0])), ((b 1), .inr (4, [.int 1, .ref e0, .int 0]))] := hD
  refine lv_aload_n hx hb dX10_endYear_286 rfl (lv_at hl 4 rfl) ?_
  refine lv_iconst (v := 0) hx hb dX10_endYear_287 (by decide) ?_
  refine va_put (D := (dC, dI)) (ci := 15) (v := .int 0) (ty := .int) (C := RX10) (T := TX10) (N := 11) hx hb hts (by decide +kernel) tyX10 tyX10_ok nmX10 hown hK hP hD hS 1 rfl rfl 8 (by decide) (hts (.fieldLink RX10 157 "GanglineModel" "begun" "I") (by decide +kernel)) (fun _ h9 => h9) rfl (by decide +kernel) rfl rfl (Nat.le_of_ble_eq_true rfl) dX10_endYear_288 (fun H locs hP hD hS => ?_)
  have hP : va_P (dC, dI) vwCl [((b 0), .inr (4, [.int 0, .ref e0, .int 0])), (h0, .inr (15, [.int 0, .ref (b 0), .ref (b 1), .ref (b 2), .ref (b 3), .int 0, .long 0, .int 0, .int 0, .int 0, .int 0])), (q6, .inl (k7, 3, .inl (upd (upd (upd (fun _ => 0) (0 : Int32).toNatClampNeg 5) (1 : Int32).toNatClampNeg 3) (2 : Int32).toNatClampNeg 2))), (r5, .inr (4, [.int 0, .ref e0, .int 0])), (r11, .inr (3, [.int 0, .int (-1), .int 0, .ref (b 2)])), ((b 2), .inr (4, [.int 0, .ref e0, .int 0])), (r14, .inr (3, [.int 0, .int (-1), .int 0, .ref (b 3)])), ((b 3), .inr (4, [.int 0, .ref e0, .int 0])), ((b 1), .inr (4, [.int 1, .ref e0, .int 0]))] H := hP
  have hD : va_D A [((b 0), .inr (4, [.int 0, .ref e0, .int 0])), (h0, .inr (15, [.int 0, .ref (b 0), .ref (b 1), .ref (b 2), .ref (b 3), .int 0, .long 0, .int 0, .int 0, .int 0, .int 0])), (q6, .inl (k7, 3, .inl (upd (upd (upd (fun _ => 0) (0 : Int32).toNatClampNeg 5) (1 : Int32).toNatClampNeg 3) (2 : Int32).toNatClampNeg 2))), (r5, .inr (4, [.int 0, .ref e0, .int 0])), (r11, .inr (3, [.int 0, .int (-1), .int 0, .ref (b 2)])), ((b 2), .inr (4, [.int 0, .ref e0, .int 0])), (r14, .inr (3, [.int 0, .int (-1), .int 0, .ref (b 3)])), ((b 3), .inr (4, [.int 0, .ref e0, .int 0])), ((b 1), .inr (4, [.int 1, .ref e0, .int 0]))] := hD
  refine lv_aload_n hx hb dX10_endYear_291 rfl (lv_at hl 4 rfl) ?_
  refine lv_iconst (v := 0) hx hb dX10_endYear_292 (by decide) ?_
  refine va_put (D := (dC, dI)) (ci := 15) (v := .int 0) (ty := .int) (C := RX10) (T := TX10) (N := 11) hx hb hts (by decide +kernel) tyX10 tyX10_ok nmX10 hown hK hP hD hS 1 rfl rfl 10 (by decide) (hts (.fieldLink RX10 172 "GanglineModel" "dogsBegun" "I") (by decide +kernel)) (fun _ h9 => h9) rfl (by decide +kernel) rfl rfl (Nat.le_of_ble_eq_true rfl) dX10_endYear_293 (fun H locs hP hD hS => ?_)
  have hP : va_P (dC, dI) vwCl [((b 0), .inr (4, [.int 0, .ref e0, .int 0])), (h0, .inr (15, [.int 0, .ref (b 0), .ref (b 1), .ref (b 2), .ref (b 3), .int 0, .long 0, .int 0, .int 0, .int 0, .int 0])), (q6, .inl (k7, 3, .inl (upd (upd (upd (fun _ => 0) (0 : Int32).toNatClampNeg 5) (1 : Int32).toNatClampNeg 3) (2 : Int32).toNatClampNeg 2))), (r5, .inr (4, [.int 0, .ref e0, .int 0])), (r11, .inr (3, [.int 0, .int (-1), .int 0, .ref (b 2)])), ((b 2), .inr (4, [.int 0, .ref e0, .int 0])), (r14, .inr (3, [.int 0, .int (-1), .int 0, .ref (b 3)])), ((b 3), .inr (4, [.int 0, .ref e0, .int 0])), ((b 1), .inr (4, [.int 1, .ref e0, .int 0]))] H := hP
  have hD : va_D A [((b 0), .inr (4, [.int 0, .ref e0, .int 0])), (h0, .inr (15, [.int 0, .ref (b 0), .ref (b 1), .ref (b 2), .ref (b 3), .int 0, .long 0, .int 0, .int 0, .int 0, .int 0])), (q6, .inl (k7, 3, .inl (upd (upd (upd (fun _ => 0) (0 : Int32).toNatClampNeg 5) (1 : Int32).toNatClampNeg 3) (2 : Int32).toNatClampNeg 2))), (r5, .inr (4, [.int 0, .ref e0, .int 0])), (r11, .inr (3, [.int 0, .int (-1), .int 0, .ref (b 2)])), ((b 2), .inr (4, [.int 0, .ref e0, .int 0])), (r14, .inr (3, [.int 0, .int (-1), .int 0, .ref (b 3)])), ((b 3), .inr (4, [.int 0, .ref e0, .int 0])), ((b 1), .inr (4, [.int 1, .ref e0, .int 0]))] := hD
  refine lv_aload_n hx hb dX10_endYear_296 rfl (lv_at hl 4 rfl) ?_
  refine lv_iconst (v := 0) hx hb dX10_endYear_297 (by decide) ?_
  refine va_put (D := (dC, dI)) (ci := 15) (v := .int 0) (ty := .boolean) (C := RX10) (T := TX10) (N := 11) hx hb hts (by decide +kernel) tyX10 tyX10_ok nmX10 hown hK hP hD hS 1 rfl rfl 9 (by decide) (hts (.fieldLink RX10 149 "GanglineModel" "isClosed" "Z") (by decide +kernel)) (fun _ h9 => h9) rfl (by decide +kernel) (by decide) (by decide) (Nat.le_of_ble_eq_true rfl) dX10_endYear_298 (fun H locs hP hD hS => ?_)
  have hP : va_P (dC, dI) vwCl [((b 0), .inr (4, [.int 0, .ref e0, .int 0])), (h0, .inr (15, [.int 0, .ref (b 0), .ref (b 1), .ref (b 2), .ref (b 3), .int 0, .long 0, .int 0, .int 0, .int 0, .int 0])), (q6, .inl (k7, 3, .inl (upd (upd (upd (fun _ => 0) (0 : Int32).toNatClampNeg 5) (1 : Int32).toNatClampNeg 3) (2 : Int32).toNatClampNeg 2))), (r5, .inr (4, [.int 0, .ref e0, .int 0])), (r11, .inr (3, [.int 0, .int (-1), .int 0, .ref (b 2)])), ((b 2), .inr (4, [.int 0, .ref e0, .int 0])), (r14, .inr (3, [.int 0, .int (-1), .int 0, .ref (b 3)])), ((b 3), .inr (4, [.int 0, .ref e0, .int 0])), ((b 1), .inr (4, [.int 1, .ref e0, .int 0]))] H := hP
  have hD : va_D A [((b 0), .inr (4, [.int 0, .ref e0, .int 0])), (h0, .inr (15, [.int 0, .ref (b 0), .ref (b 1), .ref (b 2), .ref (b 3), .int 0, .long 0, .int 0, .int 0, .int 0, .int 0])), (q6, .inl (k7, 3, .inl (upd (upd (upd (fun _ => 0) (0 : Int32).toNatClampNeg 5) (1 : Int32).toNatClampNeg 3) (2 : Int32).toNatClampNeg 2))), (r5, .inr (4, [.int 0, .ref e0, .int 0])), (r11, .inr (3, [.int 0, .int (-1), .int 0, .ref (b 2)])), ((b 2), .inr (4, [.int 0, .ref e0, .int 0])), (r14, .inr (3, [.int 0, .int (-1), .int 0, .ref (b 3)])), ((b 3), .inr (4, [.int 0, .ref e0, .int 0])), ((b 1), .inr (4, [.int 1, .ref e0, .int 0]))] := hD
  refine lv_aload_n hx hb dX10_endYear_301 rfl (lv_at hl 4 rfl) ?_
  refine lv_dup hx hb dX10_endYear_302 rfl ?_
  refine va_get (D := (dC, dI)) (ci := 15) (v := .int 0) (C := RX10) (T := TX10) (N := 11) hx hb hts (by decide +kernel) hown hK hP 1 rfl rfl 5 (by decide) (hts (.fieldLink RX10 403 "GanglineModel" "year" "I") (by decide +kernel)) (fun _ h9 => h9) rfl dX10_endYear_303 ?_
  refine lv_iconst (v := 1) hx hb dX10_endYear_306 (by decide) ?_
  refine lv_iadd hx hb dX10_endYear_307 ?_
  refine lv_topi (fun y17 e18 => ?_)
  obtain rfl : y17 = 1 := e18.trans (by decide)
  refine va_put (D := (dC, dI)) (ci := 15) (v := .int 1) (ty := .int) (C := RX10) (T := TX10) (N := 11) hx hb hts (by decide +kernel) tyX10 tyX10_ok nmX10 hown hK hP hD hS 1 rfl rfl 5 (by decide) (hts (.fieldLink RX10 403 "GanglineModel" "year" "I") (by decide +kernel)) (fun _ h9 => h9) rfl (by decide +kernel) rfl rfl (Nat.le_of_ble_eq_true rfl) dX10_endYear_308 (fun H locs hP hD hS => ?_)
  have hP : va_P (dC, dI) vwCl [((b 0), .inr (4, [.int 0, .ref e0, .int 0])), (h0, .inr (15, [.int 0, .ref (b 0), .ref (b 1), .ref (b 2), .ref (b 3), .int 1, .long 0, .int 0, .int 0, .int 0, .int 0])), (q6, .inl (k7, 3, .inl (upd (upd (upd (fun _ => 0) (0 : Int32).toNatClampNeg 5) (1 : Int32).toNatClampNeg 3) (2 : Int32).toNatClampNeg 2))), (r5, .inr (4, [.int 0, .ref e0, .int 0])), (r11, .inr (3, [.int 0, .int (-1), .int 0, .ref (b 2)])), ((b 2), .inr (4, [.int 0, .ref e0, .int 0])), (r14, .inr (3, [.int 0, .int (-1), .int 0, .ref (b 3)])), ((b 3), .inr (4, [.int 0, .ref e0, .int 0])), ((b 1), .inr (4, [.int 1, .ref e0, .int 0]))] H := hP
  have hD : va_D A [((b 0), .inr (4, [.int 0, .ref e0, .int 0])), (h0, .inr (15, [.int 0, .ref (b 0), .ref (b 1), .ref (b 2), .ref (b 3), .int 1, .long 0, .int 0, .int 0, .int 0, .int 0])), (q6, .inl (k7, 3, .inl (upd (upd (upd (fun _ => 0) (0 : Int32).toNatClampNeg 5) (1 : Int32).toNatClampNeg 3) (2 : Int32).toNatClampNeg 2))), (r5, .inr (4, [.int 0, .ref e0, .int 0])), (r11, .inr (3, [.int 0, .int (-1), .int 0, .ref (b 2)])), ((b 2), .inr (4, [.int 0, .ref e0, .int 0])), (r14, .inr (3, [.int 0, .int (-1), .int 0, .ref (b 3)])), ((b 3), .inr (4, [.int 0, .ref e0, .int 0])), ((b 1), .inr (4, [.int 1, .ref e0, .int 0]))] := hD
  refine lv_aload_n hx hb dX10_endYear_311 rfl (lv_at hl 4 rfl) ?_
  refine va_get (D := (dC, dI)) (ci := 15) (v := .int 1) (C := RX10) (T := TX10) (N := 11) hx hb hts (by decide +kernel) hown hK hP 1 rfl rfl 5 (by decide) (hts (.fieldLink RX10 403 "GanglineModel" "year" "I") (by decide +kernel)) (fun _ h9 => h9) rfl dX10_endYear_312 ?_
  have hP9 := hP.sub (ws' := [(h0, .inr (15, [.int 0, .ref (b 0), .ref (b 1), .ref (b 2), .ref (b 3), .int 1, .long 0, .int 0, .int 0, .int 0, .int 0]))]) [1] rfl
  have hD9 := hD.sub (ws' := [(h0, .inr (15, [.int 0, .ref (b 0), .ref (b 1), .ref (b 2), .ref (b 3), .int 1, .long 0, .int 0, .int 0, .int 0, .int 0]))]) [1] (by decide) rfl
  have hK9 := hK.sub (tys' := []) [] rfl
  exact W.iret (v := 1) hx hb hr (fun t ht hW => ⟨⟨1, (), rfl, rfl, ⟨by rw [ht]; exact hP9, va_K.moved hW.alike hK9, hD9⟩⟩, hS.F ht⟩) hS.2.2 dX10_endYear_315

theorem dX10_isTrue_0 : decode cX10_isTrue 0 = .ok (.aload_n 0, 1) := by decide +kernel
theorem dX10_isTrue_1 : decode cX10_isTrue 1 = .ok (.iconst 0, 1) := by decide +kernel
theorem dX10_isTrue_2 : decode cX10_isTrue 2 = .ok (.putfield 25, 3) := by decide +kernel
theorem dX10_isTrue_5 : decode cX10_isTrue 5 = .ok (.iconst 1, 1) := by decide +kernel
theorem dX10_isTrue_6 : decode cX10_isTrue 6 = .ok (.ireturn, 1) := by decide +kernel
set_option maxHeartbeats 4000000 in
set_option maxRecDepth 100000 in
theorem c_X10_isTrue (l : Launch) (htr : l.stackTraces = false) (dC : Nat → ClassId) (dI : Nat → Nat → Nat) (e0 sz : Nat) (h0 : Nat) (th : Int32) (b : Nat → Nat) : Met l yX10_isTrue wsX10_isTrue ({ frames := 0, cells := 0, slots := 0, locals := 0 }) (va_Pc [.ref h0] (fun U => U.heap.size = sz ∧ va_P (dC, dI) vwCl [(h0, .inr (15, zM th b)), ((b 0), .inr (4, [.int 0, .ref e0, .int 0])), ((b 1), .inr (4, [.int 0, .ref e0, .int 0])), ((b 2), .inr (4, [.int 0, .ref e0, .int 0])), ((b 3), .inr (4, [.int 0, .ref e0, .int 0]))] U.heap ∧ va_K (dC, dI) vwCl [] U ∧ va_D (fun _ => True) [(h0, .inr (15, zM th b)), ((b 0), .inr (4, [.int 0, .ref e0, .int 0])), ((b 1), .inr (4, [.int 0, .ref e0, .int 0])), ((b 2), .inr (4, [.int 0, .ref e0, .int 0])), ((b 3), .inr (4, [.int 0, .ref e0, .int 0]))] ∧ zE e0 (va_A [(h0, .inr (15, zM th b)), ((b 0), .inr (4, [.int 0, .ref e0, .int 0])), ((b 1), .inr (4, [.int 0, .ref e0, .int 0])), ((b 2), .inr (4, [.int 0, .ref e0, .int 0])), ((b 3), .inr (4, [.int 0, .ref e0, .int 0]))] sz) U U.heap)) (va_Qi (fun (r : Int32) (_ : Unit) => r = 1) (fun _ t => va_P (dC, dI) vwCl [(h0, .inr (15, zM 0 b))] t.heap ∧ va_K (dC, dI) vwCl [] t ∧ va_D (va_A [(h0, .inr (15, zM th b)), ((b 0), .inr (4, [.int 0, .ref e0, .int 0])), ((b 1), .inr (4, [.int 0, .ref e0, .int 0])), ((b 2), .inr (4, [.int 0, .ref e0, .int 0])), ((b 3), .inr (4, [.int 0, .ref e0, .int 0]))] sz) [(h0, .inr (15, zM 0 b))]) (va_A [(h0, .inr (15, zM th b)), ((b 0), .inr (4, [.int 0, .ref e0, .int 0])), ((b 1), .inr (4, [.int 0, .ref e0, .int 0])), ((b 2), .inr (4, [.int 0, .ref e0, .int 0])), ((b 3), .inr (4, [.int 0, .ref e0, .int 0]))] sz)) 0 0 (va_A [(h0, .inr (15, zM th b)), ((b 0), .inr (4, [.int 0, .ref e0, .int 0])), ((b 1), .inr (4, [.int 0, .ref e0, .int 0])), ((b 2), .inr (4, [.int 0, .ref e0, .int 0])), ((b 3), .inr (4, [.int 0, .ref e0, .int 0]))] sz) := by
  refine Met.ofW (cc := cX10_isTrue) (maxL := 1) (ret := (some .boolean)) (by decide) rfl ?_
  intro p e s m args below meth c s₁ B hml hv
  obtain ⟨rfl, hsz, hP, hK, hD0, hE⟩ := hv
  have hx := B.exec
  have hb := B.bytes
  have hr := B.returns
  have hts := atoms_spec (ws := wsX10_isTrue) B.pre
  have hown : s.vm.findClass RX10 = some m.cls := findClass_of_methodNamed B.named
  have hlocks := B.notSynchronized
  subst hsz
  have hD := hD0.self (sz := s.heap.size)
  generalize hAe : va_A [(h0, .inr (15, zM th b)), ((b 0), .inr (4, [.int 0, .ref e0, .int 0])), ((b 1), .inr (4, [.int 0, .ref e0, .int 0])), ((b 2), .inr (4, [.int 0, .ref e0, .int 0])), ((b 3), .inr (4, [.int 0, .ref e0, .int 0]))] s.heap.size = A at hD hE ⊢
  have hA : ∀ q : Nat, s.heap.size ≤ q → A q := fun q h => by rw [← hAe]; exact Or.inr h
  have hS : va_S A s.heap s.heap [] := va_S.rf
  have hl := lv_entry ([.ref h0]) (n := 1) (Nat.le_of_ble_eq_true rfl)
  rw [lg_entry_eq]
  generalize (lg_sl ([.ref h0]) ++ List.replicate (1 - (lg_sl ([.ref h0])).length) Slot.unset).toArray = ls at hl ⊢
  have hl : lv_has ls 1 [(0, .ref h0)] := hl
  refine lv_aload_n hx hb dX10_isTrue_0 rfl (lv_at hl 0 rfl) ?_
  refine lv_iconst (v := 0) hx hb dX10_isTrue_1 (by decide) ?_
  refine va_put (D := (dC, dI)) (ci := 15) (v := .int 0) (ty := .int) (C := RX10) (T := TX10) (N := 11) hx hb hts (by decide +kernel) tyX10 tyX10_ok nmX10 hown hK hP hD hS 0 rfl rfl 0 (by decide) (hts (.fieldLink RX10 25 "GanglineModel" "thrown" "I") (by decide +kernel)) (fun _ h9 => h9) rfl (by decide +kernel) rfl rfl (Nat.le_of_ble_eq_true rfl) dX10_isTrue_2 (fun H locs hP hD hS => ?_)
  have hP : va_P (dC, dI) vwCl [(h0, .inr (15, [.int 0, .ref (b 0), .ref (b 1), .ref (b 2), .ref (b 3), .int 0, .long 0, .int 0, .int 0, .int 0, .int 0])), ((b 0), .inr (4, [.int 0, .ref e0, .int 0])), ((b 1), .inr (4, [.int 0, .ref e0, .int 0])), ((b 2), .inr (4, [.int 0, .ref e0, .int 0])), ((b 3), .inr (4, [.int 0, .ref e0, .int 0]))] H := hP
  have hD : va_D A [(h0, .inr (15, [.int 0, .ref (b 0), .ref (b 1), .ref (b 2), .ref (b 3), .int 0, .long 0, .int 0, .int 0, .int 0, .int 0])), ((b 0), .inr (4, [.int 0, .ref e0, .int 0])), ((b 1), .inr (4, [.int 0, .ref e0, .int 0])), ((b 2), .inr (4, [.int 0, .ref e0, .int 0])), ((b 3), .inr (4, [.int 0, .ref e0, .int 0]))] := hD
  refine lv_iconst (v := 1) hx hb dX10_isTrue_5 (by decide) ?_
  have hP9 := hP.sub (ws' := [(h0, .inr (15, zM 0 b))]) [0] rfl
  have hD9 := hD.sub (ws' := [(h0, .inr (15, zM 0 b))]) [0] (by decide) rfl
  have hK9 := hK.sub (tys' := []) [] rfl
  exact W.zret (v := 1) hx hb hr (by decide) (fun t ht hW => ⟨⟨1, (), rfl, rfl, ⟨by rw [ht]; exact hP9, va_K.moved hW.alike hK9, hD9⟩⟩, hS.F ht⟩) hS.2.2 dX10_isTrue_6

set_option maxRecDepth 20000 in
theorem ggX10_standing_Jx4a65c_size_8abf5 : GoodIn wsX10_standing wsJx4a65c_size_8abf5 := goodIn_r _ [67, 68, 182, 183, 184] (by decide +kernel) (by decide +kernel)
set_option maxRecDepth 20000 in
theorem gX10_standing_Jx4a65c_size_8abf5_f59Jx4a65c : GoodIn wsX10_standing (va_wsF RX10 59 RJx4a65c ⟨"java/util/List", "size", "()I"⟩ yJx4a65c_size_8abf5 wsJx4a65c_size_8abf5) := goodIn_app (goodIn_of _ (by decide +kernel)) ggX10_standing_Jx4a65c_size_8abf5
set_option maxRecDepth 20000 in
theorem ggX10_standing_X10_goesOn : GoodIn wsX10_standing wsX10_goesOn := goodIn_r _ [158, 159, 185, 186, 187, 188, 189, 190, 191, 192, 193, 194, 195] (by decide +kernel) (by decide +kernel)
set_option maxRecDepth 20000 in
theorem gX10_standing_X10_goesOn : GoodIn wsX10_standing (wsV RX10 78 RX10 yX10_goesOn wsX10_goesOn) := goodIn_app (goodIn_of _ (by decide +kernel)) ggX10_standing_X10_goesOn
set_option maxRecDepth 20000 in
theorem ggX10_standing_X10_in : GoodIn wsX10_standing wsX10_in := goodIn_r _ [154] (by decide +kernel) (by decide +kernel)
set_option maxRecDepth 20000 in
theorem gX10_standing_X10_in : GoodIn wsX10_standing (va_wsS RX10 63 yX10_in wsX10_in) := goodIn_app (goodIn_of _ (by decide +kernel)) ggX10_standing_X10_in
set_option maxRecDepth 20000 in
theorem ggX10_standing_X10_standings : GoodIn wsX10_standing wsX10_standings := goodIn_r _ [6, 7, 8, 9, 10, 1, 11, 12, 13, 14, 15, 16, 17, 18, 19, 20, 21, 22, 23, 24, 25, 26, 27, 28, 29, 30, 31, 32, 33, 34, 35, 36, 37, 38, 39, 40, 41, 42, 43, 44, 45, 46, 47, 48, 49, 50, 51, 52, 53, 54, 55, 56, 57, 58, 59, 60, 61, 62, 63, 64, 65, 66, 67, 68, 69, 70, 71, 72, 73, 74, 75, 76, 77, 78, 79, 80, 81, 82, 83, 84, 85, 86, 87, 5, 88, 89, 90, 91, 92, 93, 94, 95, 96, 97, 98, 99, 100, 101, 102, 103, 104, 105, 106, 107, 108, 109, 110, 111, 112, 113, 114, 115, 116, 117, 118, 119, 120, 121, 122, 123, 124, 125, 126, 127, 128, 129, 130, 131, 132, 133, 134, 135, 136, 137, 138, 139, 140, 141, 142, 143, 144, 145, 146, 147, 148, 149, 150, 151, 182, 183, 184, 185, 186, 187, 188, 189, 190, 191, 192, 193, 194, 195, 160, 161, 162, 163, 164, 165, 166, 167, 168, 169, 170, 171, 172, 173, 174, 175, 176, 177, 178, 179, 180, 181, 196, 197, 198, 199, 200, 201, 202, 203, 204] (by decide +kernel) (by decide +kernel)
set_option maxRecDepth 20000 in
theorem gX10_standing_X10_standings : GoodIn wsX10_standing (wsV RX10 382 RX10 yX10_standings wsX10_standings) := goodIn_app (goodIn_of _ (by decide +kernel)) ggX10_standing_X10_standings
theorem dX10_standing_0 : decode cX10_standing 0 = .ok (.aload_n 0, 1) := by decide +kernel
theorem dX10_standing_1 : decode cX10_standing 1 = .ok (.invokevirtual 382, 3) := by decide +kernel
theorem dX10_standing_4 : decode cX10_standing 4 = .ok (.astore_n 2, 1) := by decide +kernel
theorem dX10_standing_5 : decode cX10_standing 5 = .ok (.aload_n 0, 1) := by decide +kernel
theorem dX10_standing_6 : decode cX10_standing 6 = .ok (.iload_n 1, 1) := by decide +kernel
theorem dX10_standing_7 : decode cX10_standing 7 = .ok (.i2l, 1) := by decide +kernel
theorem dX10_standing_8 : decode cX10_standing 8 = .ok (.lconst 0, 1) := by decide +kernel
theorem dX10_standing_9 : decode cX10_standing 9 = .ok (.aload_n 2, 1) := by decide +kernel
theorem dX10_standing_10 : decode cX10_standing 10 = .ok (.invokeinterface 59 1, 5) := by decide +kernel
theorem dX10_standing_15 : decode cX10_standing 15 = .ok (.iconst 1, 1) := by decide +kernel
theorem dX10_standing_16 : decode cX10_standing 16 = .ok (.isub, 1) := by decide +kernel
theorem dX10_standing_17 : decode cX10_standing 17 = .ok (.i2l, 1) := by decide +kernel
theorem dX10_standing_18 : decode cX10_standing 18 = .ok (.invokestatic 63, 3) := by decide +kernel
theorem dX10_standing_21 : decode cX10_standing 21 = .ok (.ifCond .eq 7, 3) := by decide +kernel
theorem dX10_standing_28 : decode cX10_standing 28 = .ok (.iconst 1, 1) := by decide +kernel
theorem dX10_standing_29 : decode cX10_standing 29 = .ok (.invokevirtual 78, 3) := by decide +kernel
theorem dX10_standing_32 : decode cX10_standing 32 = .ok (.ifCond .eq 19, 3) := by decide +kernel
theorem dX10_standing_51 : decode cX10_standing 51 = .ok (.iconst 0, 1) := by decide +kernel
theorem dX10_standing_52 : decode cX10_standing 52 = .ok (.ireturn, 1) := by decide +kernel
set_option maxHeartbeats 4000000 in
set_option maxRecDepth 100000 in
theorem c_X10_standing (l : Launch) (htr : l.stackTraces = false) (dC : Nat → ClassId) (dI : Nat → Nat → Nat) (e0 sz : Nat) (h0 : Nat) (th : Int32) (b : Nat → Nat) (p0 : Int32) : Met l yX10_standing wsX10_standing ({ frames := 5, cells := 2, slots := 7, locals := 96 }) (va_Pc [.ref h0, .int p0] (fun U => U.heap.size = sz ∧ va_P (dC, dI) vwCl [(h0, .inr (15, zM th b)), ((b 0), .inr (4, [.int 0, .ref e0, .int 0])), ((b 1), .inr (4, [.int 0, .ref e0, .int 0])), ((b 2), .inr (4, [.int 0, .ref e0, .int 0])), ((b 3), .inr (4, [.int 0, .ref e0, .int 0]))] U.heap ∧ va_K (dC, dI) vwCl [] U ∧ va_D (fun _ => True) [(h0, .inr (15, zM th b)), ((b 0), .inr (4, [.int 0, .ref e0, .int 0])), ((b 1), .inr (4, [.int 0, .ref e0, .int 0])), ((b 2), .inr (4, [.int 0, .ref e0, .int 0])), ((b 3), .inr (4, [.int 0, .ref e0, .int 0]))] ∧ zE e0 (va_A [(h0, .inr (15, zM th b)), ((b 0), .inr (4, [.int 0, .ref e0, .int 0])), ((b 1), .inr (4, [.int 0, .ref e0, .int 0])), ((b 2), .inr (4, [.int 0, .ref e0, .int 0])), ((b 3), .inr (4, [.int 0, .ref e0, .int 0]))] sz) U U.heap)) (va_Qi (fun (r : Int32) (_ : Unit) => r = 0) (fun _ t => va_P (dC, dI) vwCl [(h0, .inr (15, zM 1 b))] t.heap ∧ va_K (dC, dI) vwCl [] t ∧ va_D (va_A [(h0, .inr (15, zM th b)), ((b 0), .inr (4, [.int 0, .ref e0, .int 0])), ((b 1), .inr (4, [.int 0, .ref e0, .int 0])), ((b 2), .inr (4, [.int 0, .ref e0, .int 0])), ((b 3), .inr (4, [.int 0, .ref e0, .int 0]))] sz) [(h0, .inr (15, zM 1 b))]) (va_A [(h0, .inr (15, zM th b)), ((b 0), .inr (4, [.int 0, .ref e0, .int 0])), ((b 1), .inr (4, [.int 0, .ref e0, .int 0])), ((b 2), .inr (4, [.int 0, .ref e0, .int 0])), ((b 3), .inr (4, [.int 0, .ref e0, .int 0]))] sz)) 2 7 (va_A [(h0, .inr (15, zM th b)), ((b 0), .inr (4, [.int 0, .ref e0, .int 0])), ((b 1), .inr (4, [.int 0, .ref e0, .int 0])), ((b 2), .inr (4, [.int 0, .ref e0, .int 0])), ((b 3), .inr (4, [.int 0, .ref e0, .int 0]))] sz) := by
  refine Met.ofW (cc := cX10_standing) (maxL := 3) (ret := (some .int)) (by decide) rfl ?_
  intro p e s m args below meth c s₁ B hml hv
  obtain ⟨rfl, hsz, hP, hK, hD0, hE⟩ := hv
  have hx := B.exec
  have hb := B.bytes
  have hr := B.returns
  have hts := atoms_spec (ws := wsX10_standing) B.pre
  have hown : s.vm.findClass RX10 = some m.cls := findClass_of_methodNamed B.named
  have hlocks := B.notSynchronized
  subst hsz
  have hD := hD0.self (sz := s.heap.size)
  generalize hAe : va_A [(h0, .inr (15, zM th b)), ((b 0), .inr (4, [.int 0, .ref e0, .int 0])), ((b 1), .inr (4, [.int 0, .ref e0, .int 0])), ((b 2), .inr (4, [.int 0, .ref e0, .int 0])), ((b 3), .inr (4, [.int 0, .ref e0, .int 0]))] s.heap.size = A at hD hE ⊢
  have hA : ∀ q : Nat, s.heap.size ≤ q → A q := fun q h => by rw [← hAe]; exact Or.inr h
  have hS : va_S A s.heap s.heap [] := va_S.rf
  have hl := lv_entry ([.ref h0, .int p0]) (n := 3) (Nat.le_of_ble_eq_true rfl)
  rw [lg_entry_eq]
  generalize (lg_sl ([.ref h0, .int p0]) ++ List.replicate (3 - (lg_sl ([.ref h0, .int p0])).length) Slot.unset).toArray = ls at hl ⊢
  have hl : lv_has ls 3 [(0, .ref h0), (1, .int p0)] := hl
  refine lv_aload_n hx hb dX10_standing_0 rfl (lv_at hl 0 rfl) ?_
  have hPc := hP.sub (ws' := [(h0, .inr (15, zM th b)), ((b 2), .inr (4, [.int 0, .ref e0, .int 0]))]) [0, 3] rfl
  have hDc := hD.sub (ws' := [(h0, .inr (15, zM th b)), ((b 2), .inr (4, [.int 0, .ref e0, .int 0]))]) [0, 3] (by decide) rfl
  have hKc := hK.sub (tys' := []) [] rfl
  have hFc := va_free (wc := [(h0, .inr (15, zM th b)), ((b 2), .inr (4, [.int 0, .ref e0, .int 0]))]) hD hS hA [0, 3] rfl
  have hEc := (hE.kept hS.2.1).narrow hFc
  refine va_callr (va_runV (As := []) (rest := []) ⟨hx, hb, hml, hown, hts⟩ (c_X10_standings l htr dC dI e0 s.heap.size h0 th b) (cwV 0 hts gX10_standing_X10_standings rfl rfl rfl (by decide +kernel) ⟨Nat.le_of_ble_eq_true rfl, Nat.le_of_ble_eq_true rfl⟩) ⟨fun a U g mk q => by obtain ⟨q0, q1, qP, qK, qD, qE⟩ := q; exact ⟨q0, q1, qP, va_K.moved (u := U) (U := U.calling g mk a) (Vm.Alike.refl U.vm) qK, qD, zE.same rfl qE⟩, va_recv hKc hPc (ci := 15) (q0 := 0) rfl rfl, fun U hU hW => ⟨rfl, by rw [hU], by rw [hU]; exact hPc, va_K.moved hW.alike hKc, hDc.weaken (fun _ _ _ _ => trivial), by rw [hU]; exact zE.warm hW hEc⟩⟩ rfl rfl hl.1 rfl (lv_room (Nat.le_of_ble_eq_true rfl)) dX10_standing_1 ⟨Nat.le_of_ble_eq_true rfl, Nat.le_of_ble_eq_true rfl⟩) hS (fun q _ h => hFc q h) hFc (fun u r1 t H1 locs ht hvm hw hB hz1 hk1 hS => ?_)
  obtain ⟨hP1, hK1, hD1⟩ := hB
  rw [ht] at hP1
  obtain ⟨hP, hD⟩ := va_join (wr := [((b 0), .inr (4, [.int 0, .ref e0, .int 0])), ((b 1), .inr (4, [.int 0, .ref e0, .int 0])), ((b 3), .inr (4, [.int 0, .ref e0, .int 0]))]) (w1 := [(h0, .inr (15, zM th b)), ((b 2), .inr (4, [.int 0, .ref e0, .int 0])), (r1, .inr (4, [.int 0, .ref e0, .int 0]))]) hP hD [0, 3] [1, 2, 4] rfl rfl (by decide) (by decide) hk1 hFc hP1 hD1
  generalize H1 = H at hP hS ⊢
  have hP : va_P (dC, dI) vwCl [((b 0), .inr (4, [.int 0, .ref e0, .int 0])), ((b 1), .inr (4, [.int 0, .ref e0, .int 0])), ((b 3), .inr (4, [.int 0, .ref e0, .int 0])), (h0, .inr (15, zM th b)), ((b 2), .inr (4, [.int 0, .ref e0, .int 0])), (r1, .inr (4, [.int 0, .ref e0, .int 0]))] H := hP
  have hD : va_D A [((b 0), .inr (4, [.int 0, .ref e0, .int 0])), ((b 1), .inr (4, [.int 0, .ref e0, .int 0])), ((b 3), .inr (4, [.int 0, .ref e0, .int 0])), (h0, .inr (15, zM th b)), ((b 2), .inr (4, [.int 0, .ref e0, .int 0])), (r1, .inr (4, [.int 0, .ref e0, .int 0]))] := hD
  refine lv_astore_n (lv' := [(2, .ref r1), (0, .ref h0), (1, .int p0)]) hx hb dX10_standing_4 rfl hl (by decide) rfl (fun ls hl => ?_)
  refine lv_aload_n hx hb dX10_standing_5 rfl (lv_at hl 1 rfl) ?_
  refine lv_iload_n hx hb dX10_standing_6 rfl (lv_at hl 2 rfl) ?_
  refine lv_i2l (v := (p0).toInt64) hx hb dX10_standing_7 rfl ?_
  refine lv_lconst (v := 0) hx hb dX10_standing_8 (by decide) ?_
  refine lv_aload_n hx hb dX10_standing_9 rfl (lv_at hl 0 rfl) ?_
  have hPc := hP.sub (ws' := [(r1, .inr (4, [.int 0, .ref e0, .int 0]))]) [5] rfl
  have hDc := hD.sub (ws' := [(r1, .inr (4, [.int 0, .ref e0, .int 0]))]) [5] (by decide) rfl
  have hKc := hK.sub (tys' := []) [] rfl
  have hFc := va_free (wc := [(r1, .inr (4, [.int 0, .ref e0, .int 0]))]) hD hS hA [5] rfl
  refine va_callFi (va_runF (As := []) (rest := [.long 0, .long (p0).toInt64, .ref h0]) (hK.1 4 _ rfl).2 ⟨hx, hb, hml, hown, hts⟩ (c_Jx4a65c_size_8abf5 l htr dC dI e0 H.size r1 0 e0 0) (va_cwF 0 hts gX10_standing_Jx4a65c_size_8abf5_f59Jx4a65c rfl rfl rfl (zV_W_size hE.v) (by decide +kernel) ⟨Nat.le_of_ble_eq_true rfl, Nat.le_of_ble_eq_true rfl⟩) ⟨fun a U g mk q => by obtain ⟨q0, q1, qP, qK, qD⟩ := q; exact ⟨q0, q1, qP, va_K.moved (u := U) (U := U.calling g mk a) (Vm.Alike.refl U.vm) qK, qD⟩, va_recv hKc hPc (ci := 4) (q0 := 0) rfl rfl, fun U hU hW => ⟨rfl, by rw [hU], by rw [hU]; exact hPc, va_K.moved hW.alike hKc, hDc.weaken (fun _ _ _ _ => trivial)⟩⟩ rfl rfl hl.1 rfl (lv_room (Nat.le_of_ble_eq_true rfl)) dX10_standing_10 ⟨Nat.le_of_ble_eq_true rfl, Nat.le_of_ble_eq_true rfl⟩) hS (fun q _ h => hFc q h) hFc (fun r2 u t H1 locs ht hvm hw hB hz1 hk1 hS => ?_)
  obtain ⟨hP1, hK1, hD1⟩ := hB
  rw [ht] at hP1
  obtain ⟨hP, hD⟩ := va_join (wr := [((b 0), .inr (4, [.int 0, .ref e0, .int 0])), ((b 1), .inr (4, [.int 0, .ref e0, .int 0])), ((b 3), .inr (4, [.int 0, .ref e0, .int 0])), (h0, .inr (15, zM th b)), ((b 2), .inr (4, [.int 0, .ref e0, .int 0]))]) (w1 := [(r1, .inr (4, [.int 0, .ref e0, .int 0]))]) hP hD [5] [0, 1, 2, 3, 4] rfl rfl (by decide) (by decide) hk1 hFc hP1 hD1
  generalize H1 = H at hP hS ⊢
  have hP : va_P (dC, dI) vwCl [((b 0), .inr (4, [.int 0, .ref e0, .int 0])), ((b 1), .inr (4, [.int 0, .ref e0, .int 0])), ((b 3), .inr (4, [.int 0, .ref e0, .int 0])), (h0, .inr (15, zM th b)), ((b 2), .inr (4, [.int 0, .ref e0, .int 0])), (r1, .inr (4, [.int 0, .ref e0, .int 0]))] H := hP
  have hD : va_D A [((b 0), .inr (4, [.int 0, .ref e0, .int 0])), ((b 1), .inr (4, [.int 0, .ref e0, .int 0])), ((b 3), .inr (4, [.int 0, .ref e0, .int 0])), (h0, .inr (15, zM th b)), ((b 2), .inr (4, [.int 0, .ref e0, .int 0])), (r1, .inr (4, [.int 0, .ref e0, .int 0]))] := hD
  obtain rfl : r2 = 0 := hw
  refine lv_iconst (v := 1) hx hb dX10_standing_15 (by decide) ?_
  refine lv_isub hx hb dX10_standing_16 ?_
  refine lv_topi (fun y3 e4 => ?_)
  obtain rfl : y3 = (-1) := e4.trans (by decide)
  refine lv_i2l (v := (-1)) hx hb dX10_standing_17 (by decide) ?_
  have hPc := hP.sub (ws' := []) [] rfl
  have hDc := hD.sub (ws' := []) [] (by decide) rfl
  have hKc := hK.sub (tys' := []) [] rfl
  have hFc := va_free (wc := []) hD hS hA [] rfl
  refine va_calli (va_runS (As := [.long (p0).toInt64, .long 0, .long (-1)]) (rest := [.ref h0]) ⟨hx, hb, hml, hown, hts⟩ (c_X10_in l htr dC dI e0 H.size ((p0).toInt64) 0 (-1)) (va_cwS 3 hts gX10_standing_X10_in rfl rfl rfl (by decide +kernel) ⟨Nat.le_of_ble_eq_true rfl, Nat.le_of_ble_eq_true rfl⟩) ⟨fun a U g mk q => by obtain ⟨q0, q1, qP, qK, qD⟩ := q; exact ⟨q0, q1, qP, va_K.moved (u := U) (U := U.calling g mk a) (Vm.Alike.refl U.vm) qK, qD⟩, fun U hU hW => ⟨rfl, by rw [hU], by rw [hU]; exact hPc, va_K.moved hW.alike hKc, hDc.weaken (fun _ _ _ _ => trivial)⟩⟩ rfl rfl hl.1 rfl (lv_room (Nat.le_of_ble_eq_true rfl)) dX10_standing_18 ⟨Nat.le_of_ble_eq_true rfl, Nat.le_of_ble_eq_true rfl⟩) hS (fun q _ h => hFc q h) hFc (fun r5 u t H1 locs ht hvm hw hB hz1 hk1 hS => ?_)
  have hP1 : va_P (dC, dI) vwCl [] H1 := fun k q h => by simp at h
  have hD1 : va_D (va_A [] H.size) [] := ⟨fun i j p q h => by simp at h, fun k q h => by simp at h⟩
  obtain ⟨hP, hD⟩ := va_join (wr := [((b 0), .inr (4, [.int 0, .ref e0, .int 0])), ((b 1), .inr (4, [.int 0, .ref e0, .int 0])), ((b 3), .inr (4, [.int 0, .ref e0, .int 0])), (h0, .inr (15, zM th b)), ((b 2), .inr (4, [.int 0, .ref e0, .int 0])), (r1, .inr (4, [.int 0, .ref e0, .int 0]))]) (w1 := []) hP hD [] [0, 1, 2, 3, 4, 5] rfl rfl (by decide) (by decide) hk1 hFc hP1 hD1
  generalize H1 = H at hP hS ⊢
  have hP : va_P (dC, dI) vwCl [((b 0), .inr (4, [.int 0, .ref e0, .int 0])), ((b 1), .inr (4, [.int 0, .ref e0, .int 0])), ((b 3), .inr (4, [.int 0, .ref e0, .int 0])), (h0, .inr (15, zM th b)), ((b 2), .inr (4, [.int 0, .ref e0, .int 0])), (r1, .inr (4, [.int 0, .ref e0, .int 0]))] H := hP
  have hD : va_D A [((b 0), .inr (4, [.int 0, .ref e0, .int 0])), ((b 1), .inr (4, [.int 0, .ref e0, .int 0])), ((b 3), .inr (4, [.int 0, .ref e0, .int 0])), (h0, .inr (15, zM th b)), ((b 2), .inr (4, [.int 0, .ref e0, .int 0])), (r1, .inr (4, [.int 0, .ref e0, .int 0]))] := hD
  obtain rfl : r5 = 0 := hw.trans (if_neg (fun h => absurd (Int64.le_trans h.1 h.2) (by decide)))
  refine lv_if_eq (tgt := 28) hx hb dX10_standing_21 (by decide) (fun _ => ?_) (fun c6 => absurd (by decide) c6)
  refine lv_iconst (v := 1) hx hb dX10_standing_28 (by decide) ?_
  have hPc := hP.sub (ws' := [(h0, .inr (15, zM th b))]) [3] rfl
  have hDc := hD.sub (ws' := [(h0, .inr (15, zM th b))]) [3] (by decide) rfl
  have hKc := hK.sub (tys' := []) [] rfl
  have hFc := va_free (wc := [(h0, .inr (15, zM th b))]) hD hS hA [3] rfl
  refine va_calli (va_runV (As := [.int 1]) (rest := []) ⟨hx, hb, hml, hown, hts⟩ (c_X10_goesOn l htr dC dI e0 H.size h0 th b 1) (cwV 1 hts gX10_standing_X10_goesOn rfl rfl rfl (by decide +kernel) ⟨Nat.le_of_ble_eq_true rfl, Nat.le_of_ble_eq_true rfl⟩) ⟨fun a U g mk q => by obtain ⟨q0, q1, qP, qK, qD⟩ := q; exact ⟨q0, q1, qP, va_K.moved (u := U) (U := U.calling g mk a) (Vm.Alike.refl U.vm) qK, qD⟩, va_recv hKc hPc (ci := 15) (q0 := 0) rfl rfl, fun U hU hW => ⟨rfl, by rw [hU], by rw [hU]; exact hPc, va_K.moved hW.alike hKc, hDc.weaken (fun _ _ _ _ => trivial)⟩⟩ rfl rfl hl.1 rfl (lv_room (Nat.le_of_ble_eq_true rfl)) dX10_standing_29 ⟨Nat.le_of_ble_eq_true rfl, Nat.le_of_ble_eq_true rfl⟩) hS (fun q _ h => hFc q h) hFc (fun r7 u t H1 locs ht hvm hw hB hz1 hk1 hS => ?_)
  obtain ⟨hP1, hK1, hD1⟩ := hB
  rw [ht] at hP1
  obtain ⟨hP, hD⟩ := va_join (wr := [((b 0), .inr (4, [.int 0, .ref e0, .int 0])), ((b 1), .inr (4, [.int 0, .ref e0, .int 0])), ((b 3), .inr (4, [.int 0, .ref e0, .int 0])), ((b 2), .inr (4, [.int 0, .ref e0, .int 0])), (r1, .inr (4, [.int 0, .ref e0, .int 0]))]) (w1 := [(h0, .inr (15, zM 1 b))]) hP hD [3] [0, 1, 2, 4, 5] rfl rfl (by decide) (by decide) hk1 hFc hP1 hD1
  generalize H1 = H at hP hS ⊢
  have hP : va_P (dC, dI) vwCl [((b 0), .inr (4, [.int 0, .ref e0, .int 0])), ((b 1), .inr (4, [.int 0, .ref e0, .int 0])), ((b 3), .inr (4, [.int 0, .ref e0, .int 0])), ((b 2), .inr (4, [.int 0, .ref e0, .int 0])), (r1, .inr (4, [.int 0, .ref e0, .int 0])), (h0, .inr (15, zM 1 b))] H := hP
  have hD : va_D A [((b 0), .inr (4, [.int 0, .ref e0, .int 0])), ((b 1), .inr (4, [.int 0, .ref e0, .int 0])), ((b 3), .inr (4, [.int 0, .ref e0, .int 0])), ((b 2), .inr (4, [.int 0, .ref e0, .int 0])), (r1, .inr (4, [.int 0, .ref e0, .int 0])), (h0, .inr (15, zM 1 b))] := hD
  obtain rfl : r7 = 0 := hw.trans (by decide)
  refine lv_if_eq (tgt := 51) hx hb dX10_standing_32 (by decide) (fun _ => ?_) (fun c8 => absurd (by decide) c8)
  refine lv_iconst (v := 0) hx hb dX10_standing_51 (by decide) ?_
  have hP9 := hP.sub (ws' := [(h0, .inr (15, zM 1 b))]) [5] rfl
  have hD9 := hD.sub (ws' := [(h0, .inr (15, zM 1 b))]) [5] (by decide) rfl
  have hK9 := hK.sub (tys' := []) [] rfl
  exact W.iret (v := 0) hx hb hr (fun t ht hW => ⟨⟨0, (), rfl, rfl, ⟨by rw [ht]; exact hP9, va_K.moved hW.alike hK9, hD9⟩⟩, hS.F ht⟩) hS.2.2 dX10_standing_52

set_option maxRecDepth 20000 in
theorem ggX10_inShare_Jx35411_hasNext_aae02 : GoodIn wsX10_inShare wsJx35411_hasNext_aae02 := goodIn_r _ [26, 27, 15, 87, 88, 89, 90, 91, 92, 93] (by decide +kernel) (by decide +kernel)
set_option maxRecDepth 20000 in
theorem gX10_inShare_Jx35411_hasNext_aae02_f44Jx35411 : GoodIn wsX10_inShare (va_wsF RX10 44 RJx35411 ⟨"java/util/Iterator", "hasNext", "()Z"⟩ yJx35411_hasNext_aae02 wsJx35411_hasNext_aae02) := goodIn_app (goodIn_of _ (by decide +kernel)) ggX10_inShare_Jx35411_hasNext_aae02
set_option maxRecDepth 20000 in
theorem ggX10_inShare_Jx4a65c_iterator_32c93 : GoodIn wsX10_inShare wsJx4a65c_iterator_32c93 := goodIn_r _ [8, 9, 10, 11, 12, 13, 14, 15, 16, 17, 18, 19, 20, 21, 22, 87, 88, 89, 90, 91, 92, 93] (by decide +kernel) (by decide +kernel)
set_option maxRecDepth 20000 in
theorem gX10_inShare_Jx4a65c_iterator_32c93_f38Jx4a65c : GoodIn wsX10_inShare (va_wsF RX10 38 RJx4a65c ⟨"java/util/List", "iterator", "()Ljava/util/Iterator;"⟩ yJx4a65c_iterator_32c93 wsJx4a65c_iterator_32c93) := goodIn_app (goodIn_of _ (by decide +kernel)) ggX10_inShare_Jx4a65c_iterator_32c93
set_option maxRecDepth 20000 in
theorem ggX10_inShare_X10_goesOn : GoodIn wsX10_inShare wsX10_goesOn := goodIn_r _ [52, 53, 54, 55, 56, 57, 58, 59, 60, 61, 62, 63, 64] (by decide +kernel) (by decide +kernel)
set_option maxRecDepth 20000 in
theorem gX10_inShare_X10_goesOn : GoodIn wsX10_inShare (wsV RX10 78 RX10 yX10_goesOn wsX10_goesOn) := goodIn_app (goodIn_of _ (by decide +kernel)) ggX10_inShare_X10_goesOn
theorem dX10_inShare_0 : decode cX10_inShare 0 = .ok (.iconst 0, 1) := by decide +kernel
theorem dX10_inShare_1 : decode cX10_inShare 1 = .ok (.istore_n 1, 1) := by decide +kernel
theorem dX10_inShare_2 : decode cX10_inShare 2 = .ok (.aload_n 0, 1) := by decide +kernel
theorem dX10_inShare_3 : decode cX10_inShare 3 = .ok (.getfield 19, 3) := by decide +kernel
theorem dX10_inShare_6 : decode cX10_inShare 6 = .ok (.invokeinterface 38 1, 5) := by decide +kernel
theorem dX10_inShare_11 : decode cX10_inShare 11 = .ok (.astore_n 2, 1) := by decide +kernel
theorem dX10_inShare_12 : decode cX10_inShare 12 = .ok (.aload_n 2, 1) := by decide +kernel
theorem dX10_inShare_13 : decode cX10_inShare 13 = .ok (.invokeinterface 44 1, 5) := by decide +kernel
theorem dX10_inShare_18 : decode cX10_inShare 18 = .ok (.ifCond .eq 39, 3) := by decide +kernel
theorem dX10_inShare_57 : decode cX10_inShare 57 = .ok (.aload_n 0, 1) := by decide +kernel
theorem dX10_inShare_58 : decode cX10_inShare 58 = .ok (.aload_n 0, 1) := by decide +kernel
theorem dX10_inShare_59 : decode cX10_inShare 59 = .ok (.getfield 172, 3) := by decide +kernel
theorem dX10_inShare_62 : decode cX10_inShare 62 = .ok (.ifCond .ne 7, 3) := by decide +kernel
theorem dX10_inShare_65 : decode cX10_inShare 65 = .ok (.iconst 1, 1) := by decide +kernel
theorem dX10_inShare_66 : decode cX10_inShare 66 = .ok (.goto 4, 3) := by decide +kernel
theorem dX10_inShare_70 : decode cX10_inShare 70 = .ok (.invokevirtual 78, 3) := by decide +kernel
theorem dX10_inShare_73 : decode cX10_inShare 73 = .ok (.ifCond .eq 14, 3) := by decide +kernel
theorem dX10_inShare_87 : decode cX10_inShare 87 = .ok (.fconst 0, 1) := by decide +kernel
theorem dX10_inShare_88 : decode cX10_inShare 88 = .ok (.freturn, 1) := by decide +kernel
set_option maxHeartbeats 4000000 in
set_option maxRecDepth 100000 in
theorem c_X10_inShare (l : Launch) (htr : l.stackTraces = false) (dC : Nat → ClassId) (dI : Nat → Nat → Nat) (e0 sz : Nat) (h0 : Nat) (th : Int32) (b : Nat → Nat) : Met l yX10_inShare wsX10_inShare ({ frames := 3, cells := 1, slots := 4, locals := 53 }) (va_Pc [.ref h0] (fun U => U.heap.size = sz ∧ va_P (dC, dI) vwCl [(h0, .inr (15, zM th b)), ((b 0), .inr (4, [.int 0, .ref e0, .int 0])), ((b 1), .inr (4, [.int 0, .ref e0, .int 0])), ((b 2), .inr (4, [.int 0, .ref e0, .int 0])), ((b 3), .inr (4, [.int 0, .ref e0, .int 0]))] U.heap ∧ va_K (dC, dI) vwCl [] U ∧ va_D (fun _ => True) [(h0, .inr (15, zM th b)), ((b 0), .inr (4, [.int 0, .ref e0, .int 0])), ((b 1), .inr (4, [.int 0, .ref e0, .int 0])), ((b 2), .inr (4, [.int 0, .ref e0, .int 0])), ((b 3), .inr (4, [.int 0, .ref e0, .int 0]))] ∧ zE e0 (va_A [(h0, .inr (15, zM th b)), ((b 0), .inr (4, [.int 0, .ref e0, .int 0])), ((b 1), .inr (4, [.int 0, .ref e0, .int 0])), ((b 2), .inr (4, [.int 0, .ref e0, .int 0])), ((b 3), .inr (4, [.int 0, .ref e0, .int 0]))] sz) U U.heap)) (va_Qf (fun (r : UInt32) (_ : Unit) => True) (fun _ t => va_P (dC, dI) vwCl [(h0, .inr (15, zM 1 b))] t.heap ∧ va_K (dC, dI) vwCl [] t ∧ va_D (va_A [(h0, .inr (15, zM th b)), ((b 0), .inr (4, [.int 0, .ref e0, .int 0])), ((b 1), .inr (4, [.int 0, .ref e0, .int 0])), ((b 2), .inr (4, [.int 0, .ref e0, .int 0])), ((b 3), .inr (4, [.int 0, .ref e0, .int 0]))] sz) [(h0, .inr (15, zM 1 b))]) (va_A [(h0, .inr (15, zM th b)), ((b 0), .inr (4, [.int 0, .ref e0, .int 0])), ((b 1), .inr (4, [.int 0, .ref e0, .int 0])), ((b 2), .inr (4, [.int 0, .ref e0, .int 0])), ((b 3), .inr (4, [.int 0, .ref e0, .int 0]))] sz)) 1 4 (va_A [(h0, .inr (15, zM th b)), ((b 0), .inr (4, [.int 0, .ref e0, .int 0])), ((b 1), .inr (4, [.int 0, .ref e0, .int 0])), ((b 2), .inr (4, [.int 0, .ref e0, .int 0])), ((b 3), .inr (4, [.int 0, .ref e0, .int 0]))] sz) := by
  refine Met.ofW (cc := cX10_inShare) (maxL := 4) (ret := (some .float)) (by decide) rfl ?_
  intro p e s m args below meth c s₁ B hml hv
  obtain ⟨rfl, hsz, hP, hK, hD0, hE⟩ := hv
  have hx := B.exec
  have hb := B.bytes
  have hr := B.returns
  have hts := atoms_spec (ws := wsX10_inShare) B.pre
  have hown : s.vm.findClass RX10 = some m.cls := findClass_of_methodNamed B.named
  have hlocks := B.notSynchronized
  subst hsz
  have hD := hD0.self (sz := s.heap.size)
  generalize hAe : va_A [(h0, .inr (15, zM th b)), ((b 0), .inr (4, [.int 0, .ref e0, .int 0])), ((b 1), .inr (4, [.int 0, .ref e0, .int 0])), ((b 2), .inr (4, [.int 0, .ref e0, .int 0])), ((b 3), .inr (4, [.int 0, .ref e0, .int 0]))] s.heap.size = A at hD hE ⊢
  have hA : ∀ q : Nat, s.heap.size ≤ q → A q := fun q h => by rw [← hAe]; exact Or.inr h
  have hS : va_S A s.heap s.heap [] := va_S.rf
  have hl := lv_entry ([.ref h0]) (n := 4) (Nat.le_of_ble_eq_true rfl)
  rw [lg_entry_eq]
  generalize (lg_sl ([.ref h0]) ++ List.replicate (4 - (lg_sl ([.ref h0])).length) Slot.unset).toArray = ls at hl ⊢
  have hl : lv_has ls 4 [(0, .ref h0)] := hl
  refine lv_iconst (v := 0) hx hb dX10_inShare_0 (by decide) ?_
  refine lv_istore_n (lv' := [(1, .int 0), (0, .ref h0)]) hx hb dX10_inShare_1 rfl hl (by decide) rfl (fun ls hl => ?_)
  refine lv_aload_n hx hb dX10_inShare_2 rfl (lv_at hl 1 rfl) ?_
  refine va_get (D := (dC, dI)) (ci := 15) (v := .ref (b 2)) (C := RX10) (T := TX10) (N := 11) hx hb hts (by decide +kernel) hown hK hP 0 rfl rfl 3 (by decide) (hts (.fieldLink RX10 19 "GanglineModel" "teams" "Ljava/util/List;") (by decide +kernel)) (fun _ h9 => h9) rfl dX10_inShare_3 ?_
  have hPc := hP.sub (ws' := [((b 2), .inr (4, [.int 0, .ref e0, .int 0]))]) [3] rfl
  have hDc := hD.sub (ws' := [((b 2), .inr (4, [.int 0, .ref e0, .int 0]))]) [3] (by decide) rfl
  have hKc := hK.sub (tys' := []) [] rfl
  have hFc := va_free (wc := [((b 2), .inr (4, [.int 0, .ref e0, .int 0]))]) hD hS hA [3] rfl
  refine va_callFr (va_runF (As := []) (rest := []) (hK.1 4 _ rfl).2 ⟨hx, hb, hml, hown, hts⟩ (c_Jx4a65c_iterator_32c93 l htr dC dI e0 s.heap.size (b 2)) (va_cwF 0 hts gX10_inShare_Jx4a65c_iterator_32c93_f38Jx4a65c rfl rfl rfl (zV_W_iter hE.v) (by decide +kernel) ⟨Nat.le_of_ble_eq_true rfl, Nat.le_of_ble_eq_true rfl⟩) ⟨fun a U g mk q => by obtain ⟨q0, q1, qP, qK, qD⟩ := q; exact ⟨q0, q1, qP, va_K.moved (u := U) (U := U.calling g mk a) (Vm.Alike.refl U.vm) qK, qD⟩, va_recv hKc hPc (ci := 4) (q0 := 0) rfl rfl, fun U hU hW => ⟨rfl, by rw [hU], by rw [hU]; exact hPc, va_K.moved hW.alike hKc, hDc.weaken (fun _ _ _ _ => trivial)⟩⟩ rfl rfl hl.1 rfl (lv_room (Nat.le_of_ble_eq_true rfl)) dX10_inShare_6 ⟨Nat.le_of_ble_eq_true rfl, Nat.le_of_ble_eq_true rfl⟩) hS (fun q _ h => hFc q h) hFc (fun u r1 t H1 locs ht hvm hw hB hz1 hk1 hS => ?_)
  obtain ⟨hP1, hK1, hD1⟩ := hB
  rw [ht] at hP1
  obtain ⟨hP, hD⟩ := va_join (wr := [(h0, .inr (15, zM th b)), ((b 0), .inr (4, [.int 0, .ref e0, .int 0])), ((b 1), .inr (4, [.int 0, .ref e0, .int 0])), ((b 3), .inr (4, [.int 0, .ref e0, .int 0]))]) (w1 := [(r1, .inr (3, [.int 0, .int (-1), .int 0, .ref (b 2)])), ((b 2), .inr (4, [.int 0, .ref e0, .int 0]))]) hP hD [3] [0, 1, 2, 4] rfl rfl (by decide) (by decide) hk1 hFc hP1 hD1
  generalize H1 = H at hP hS ⊢
  have hP : va_P (dC, dI) vwCl [(h0, .inr (15, zM th b)), ((b 0), .inr (4, [.int 0, .ref e0, .int 0])), ((b 1), .inr (4, [.int 0, .ref e0, .int 0])), ((b 3), .inr (4, [.int 0, .ref e0, .int 0])), (r1, .inr (3, [.int 0, .int (-1), .int 0, .ref (b 2)])), ((b 2), .inr (4, [.int 0, .ref e0, .int 0]))] H := hP
  have hD : va_D A [(h0, .inr (15, zM th b)), ((b 0), .inr (4, [.int 0, .ref e0, .int 0])), ((b 1), .inr (4, [.int 0, .ref e0, .int 0])), ((b 3), .inr (4, [.int 0, .ref e0, .int 0])), (r1, .inr (3, [.int 0, .int (-1), .int 0, .ref (b 2)])), ((b 2), .inr (4, [.int 0, .ref e0, .int 0]))] := hD
  refine lv_astore_n (lv' := [(2, .ref r1), (1, .int 0), (0, .ref h0)]) hx hb dX10_inShare_11 rfl hl (by decide) rfl (fun ls hl => ?_)
  refine lv_aload_n hx hb dX10_inShare_12 rfl (lv_at hl 0 rfl) ?_
  have hPc := hP.sub (ws' := [(r1, .inr (3, [.int 0, .int (-1), .int 0, .ref (b 2)])), ((b 2), .inr (4, [.int 0, .ref e0, .int 0]))]) [4, 5] rfl
  have hDc := hD.sub (ws' := [(r1, .inr (3, [.int 0, .int (-1), .int 0, .ref (b 2)])), ((b 2), .inr (4, [.int 0, .ref e0, .int 0]))]) [4, 5] (by decide) rfl
  have hKc := hK.sub (tys' := []) [] rfl
  have hFc := va_free (wc := [(r1, .inr (3, [.int 0, .int (-1), .int 0, .ref (b 2)])), ((b 2), .inr (4, [.int 0, .ref e0, .int 0]))]) hD hS hA [4, 5] rfl
  have hEc := (hE.kept hS.2.1).narrow hFc
  refine va_callFi (va_runF (As := []) (rest := []) (hK.1 3 _ rfl).2 ⟨hx, hb, hml, hown, hts⟩ (c_Jx35411_hasNext_aae02 l htr dC dI e0 H.size r1 (b 2)) (va_cwF 0 hts gX10_inShare_Jx35411_hasNext_aae02_f44Jx35411 rfl rfl rfl (zV_W_hasNext hE.v) (by decide +kernel) ⟨Nat.le_of_ble_eq_true rfl, Nat.le_of_ble_eq_true rfl⟩) ⟨fun a U g mk q => by obtain ⟨q0, q1, qP, qK, qD, qE⟩ := q; exact ⟨q0, q1, qP, va_K.moved (u := U) (U := U.calling g mk a) (Vm.Alike.refl U.vm) qK, qD, zE.same rfl qE⟩, va_recv hKc hPc (ci := 3) (q0 := 0) rfl rfl, fun U hU hW => ⟨rfl, by rw [hU], by rw [hU]; exact hPc, va_K.moved hW.alike hKc, hDc.weaken (fun _ _ _ _ => trivial), by rw [hU]; exact zE.warm hW hEc⟩⟩ rfl rfl hl.1 rfl (lv_room (Nat.le_of_ble_eq_true rfl)) dX10_inShare_13 ⟨Nat.le_of_ble_eq_true rfl, Nat.le_of_ble_eq_true rfl⟩) hS (fun q _ h => hFc q h) hFc (fun r2 u t H1 locs ht hvm hw hB hz1 hk1 hS => ?_)
  obtain ⟨hP1, hK1, hD1⟩ := hB
  rw [ht] at hP1
  obtain ⟨hP, hD⟩ := va_join (wr := [(h0, .inr (15, zM th b)), ((b 0), .inr (4, [.int 0, .ref e0, .int 0])), ((b 1), .inr (4, [.int 0, .ref e0, .int 0])), ((b 3), .inr (4, [.int 0, .ref e0, .int 0]))]) (w1 := [(r1, .inr (3, [.int 0, .int (-1), .int 0, .ref (b 2)])), ((b 2), .inr (4, [.int 0, .ref e0, .int 0]))]) hP hD [4, 5] [0, 1, 2, 3] rfl rfl (by decide) (by decide) hk1 hFc hP1 hD1
  generalize H1 = H at hP hS ⊢
  have hP : va_P (dC, dI) vwCl [(h0, .inr (15, zM th b)), ((b 0), .inr (4, [.int 0, .ref e0, .int 0])), ((b 1), .inr (4, [.int 0, .ref e0, .int 0])), ((b 3), .inr (4, [.int 0, .ref e0, .int 0])), (r1, .inr (3, [.int 0, .int (-1), .int 0, .ref (b 2)])), ((b 2), .inr (4, [.int 0, .ref e0, .int 0]))] H := hP
  have hD : va_D A [(h0, .inr (15, zM th b)), ((b 0), .inr (4, [.int 0, .ref e0, .int 0])), ((b 1), .inr (4, [.int 0, .ref e0, .int 0])), ((b 3), .inr (4, [.int 0, .ref e0, .int 0])), (r1, .inr (3, [.int 0, .int (-1), .int 0, .ref (b 2)])), ((b 2), .inr (4, [.int 0, .ref e0, .int 0]))] := hD
  obtain rfl : r2 = 0 := hw
  refine lv_if_eq (tgt := 57) hx hb dX10_inShare_18 (by decide) (fun _ => ?_) (fun c3 => absurd (by decide) c3)
  refine lv_aload_n hx hb dX10_inShare_57 rfl (lv_at hl 2 rfl) ?_
  refine lv_aload_n hx hb dX10_inShare_58 rfl (lv_at hl 2 rfl) ?_
  refine va_get (D := (dC, dI)) (ci := 15) (v := .int 0) (C := RX10) (T := TX10) (N := 11) hx hb hts (by decide +kernel) hown hK hP 0 rfl rfl 10 (by decide) (hts (.fieldLink RX10 172 "GanglineModel" "dogsBegun" "I") (by decide +kernel)) (fun _ h9 => h9) rfl dX10_inShare_59 ?_
  refine lv_if_ne (tgt := 69) hx hb dX10_inShare_62 (by decide) (fun c4 => absurd (by decide) c4) (fun _ => ?_)
  refine lv_iconst (v := 1) hx hb dX10_inShare_65 (by decide) ?_
  refine lv_goto (tgt := 70) hx hb dX10_inShare_66 (by decide) ?_
  have hPc := hP.sub (ws' := [(h0, .inr (15, zM th b))]) [0] rfl
  have hDc := hD.sub (ws' := [(h0, .inr (15, zM th b))]) [0] (by decide) rfl
  have hKc := hK.sub (tys' := []) [] rfl
  have hFc := va_free (wc := [(h0, .inr (15, zM th b))]) hD hS hA [0] rfl
  refine va_calli (va_runV (As := [.int 1]) (rest := []) ⟨hx, hb, hml, hown, hts⟩ (c_X10_goesOn l htr dC dI e0 H.size h0 th b 1) (cwV 1 hts gX10_inShare_X10_goesOn rfl rfl rfl (by decide +kernel) ⟨Nat.le_of_ble_eq_true rfl, Nat.le_of_ble_eq_true rfl⟩) ⟨fun a U g mk q => by obtain ⟨q0, q1, qP, qK, qD⟩ := q; exact ⟨q0, q1, qP, va_K.moved (u := U) (U := U.calling g mk a) (Vm.Alike.refl U.vm) qK, qD⟩, va_recv hKc hPc (ci := 15) (q0 := 0) rfl rfl, fun U hU hW => ⟨rfl, by rw [hU], by rw [hU]; exact hPc, va_K.moved hW.alike hKc, hDc.weaken (fun _ _ _ _ => trivial)⟩⟩ rfl rfl hl.1 rfl (lv_room (Nat.le_of_ble_eq_true rfl)) dX10_inShare_70 ⟨Nat.le_of_ble_eq_true rfl, Nat.le_of_ble_eq_true rfl⟩) hS (fun q _ h => hFc q h) hFc (fun r5 u t H1 locs ht hvm hw hB hz1 hk1 hS => ?_)
  obtain ⟨hP1, hK1, hD1⟩ := hB
  rw [ht] at hP1
  obtain ⟨hP, hD⟩ := va_join (wr := [((b 0), .inr (4, [.int 0, .ref e0, .int 0])), ((b 1), .inr (4, [.int 0, .ref e0, .int 0])), ((b 3), .inr (4, [.int 0, .ref e0, .int 0])), (r1, .inr (3, [.int 0, .int (-1), .int 0, .ref (b 2)])), ((b 2), .inr (4, [.int 0, .ref e0, .int 0]))]) (w1 := [(h0, .inr (15, zM 1 b))]) hP hD [0] [1, 2, 3, 4, 5] rfl rfl (by decide) (by decide) hk1 hFc hP1 hD1
  generalize H1 = H at hP hS ⊢
  have hP : va_P (dC, dI) vwCl [((b 0), .inr (4, [.int 0, .ref e0, .int 0])), ((b 1), .inr (4, [.int 0, .ref e0, .int 0])), ((b 3), .inr (4, [.int 0, .ref e0, .int 0])), (r1, .inr (3, [.int 0, .int (-1), .int 0, .ref (b 2)])), ((b 2), .inr (4, [.int 0, .ref e0, .int 0])), (h0, .inr (15, zM 1 b))] H := hP
  have hD : va_D A [((b 0), .inr (4, [.int 0, .ref e0, .int 0])), ((b 1), .inr (4, [.int 0, .ref e0, .int 0])), ((b 3), .inr (4, [.int 0, .ref e0, .int 0])), (r1, .inr (3, [.int 0, .int (-1), .int 0, .ref (b 2)])), ((b 2), .inr (4, [.int 0, .ref e0, .int 0])), (h0, .inr (15, zM 1 b))] := hD
  obtain rfl : r5 = 0 := hw.trans (by decide)
  refine lv_if_eq (tgt := 87) hx hb dX10_inShare_73 (by decide) (fun _ => ?_) (fun c6 => absurd (by decide) c6)
  refine lv_fconst0 hx hb dX10_inShare_87 ?_
  have hP9 := hP.sub (ws' := [(h0, .inr (15, zM 1 b))]) [5] rfl
  have hD9 := hD.sub (ws' := [(h0, .inr (15, zM 1 b))]) [5] (by decide) rfl
  have hK9 := hK.sub (tys' := []) [] rfl
  exact W.fret (v := FP.fconst0) hx hb hr (fun t ht hW => ⟨⟨FP.fconst0, (), rfl, trivial, ⟨by rw [ht]; exact hP9, va_K.moved hW.alike hK9, hD9⟩⟩, hS.F ht⟩) hS.2.2 dX10_inShare_88

set_option maxRecDepth 20000 in
theorem ggX10_meanFeet_Jx35411_hasNext_aae02 : GoodIn wsX10_meanFeet wsJx35411_hasNext_aae02 := goodIn_r _ [26, 27, 15, 99, 100, 101, 102, 103, 104, 105] (by decide +kernel) (by decide +kernel)
set_option maxRecDepth 20000 in
theorem gX10_meanFeet_Jx35411_hasNext_aae02_f44Jx35411 : GoodIn wsX10_meanFeet (va_wsF RX10 44 RJx35411 ⟨"java/util/Iterator", "hasNext", "()Z"⟩ yJx35411_hasNext_aae02 wsJx35411_hasNext_aae02) := goodIn_app (goodIn_of _ (by decide +kernel)) ggX10_meanFeet_Jx35411_hasNext_aae02
set_option maxRecDepth 20000 in
theorem ggX10_meanFeet_Jx4a65c_iterator_32c93 : GoodIn wsX10_meanFeet wsJx4a65c_iterator_32c93 := goodIn_r _ [8, 9, 10, 11, 12, 13, 14, 15, 16, 17, 18, 19, 20, 21, 22, 99, 100, 101, 102, 103, 104, 105] (by decide +kernel) (by decide +kernel)
set_option maxRecDepth 20000 in
theorem gX10_meanFeet_Jx4a65c_iterator_32c93_f38Jx4a65c : GoodIn wsX10_meanFeet (va_wsF RX10 38 RJx4a65c ⟨"java/util/List", "iterator", "()Ljava/util/Iterator;"⟩ yJx4a65c_iterator_32c93 wsJx4a65c_iterator_32c93) := goodIn_app (goodIn_of _ (by decide +kernel)) ggX10_meanFeet_Jx4a65c_iterator_32c93
set_option maxRecDepth 20000 in
theorem ggX10_meanFeet_X10_goesOn : GoodIn wsX10_meanFeet wsX10_goesOn := goodIn_r _ [47, 48, 49, 50, 51, 52, 53, 54, 55, 56, 57, 58, 59] (by decide +kernel) (by decide +kernel)
set_option maxRecDepth 20000 in
theorem gX10_meanFeet_X10_goesOn : GoodIn wsX10_meanFeet (wsV RX10 78 RX10 yX10_goesOn wsX10_goesOn) := goodIn_app (goodIn_of _ (by decide +kernel)) ggX10_meanFeet_X10_goesOn
theorem dX10_meanFeet_0 : decode cX10_meanFeet 0 = .ok (.iconst 0, 1) := by decide +kernel
theorem dX10_meanFeet_1 : decode cX10_meanFeet 1 = .ok (.istore_n 1, 1) := by decide +kernel
theorem dX10_meanFeet_2 : decode cX10_meanFeet 2 = .ok (.iconst 0, 1) := by decide +kernel
theorem dX10_meanFeet_3 : decode cX10_meanFeet 3 = .ok (.istore_n 2, 1) := by decide +kernel
theorem dX10_meanFeet_4 : decode cX10_meanFeet 4 = .ok (.aload_n 0, 1) := by decide +kernel
theorem dX10_meanFeet_5 : decode cX10_meanFeet 5 = .ok (.getfield 19, 3) := by decide +kernel
theorem dX10_meanFeet_8 : decode cX10_meanFeet 8 = .ok (.invokeinterface 38 1, 5) := by decide +kernel
theorem dX10_meanFeet_13 : decode cX10_meanFeet 13 = .ok (.astore_n 3, 1) := by decide +kernel
theorem dX10_meanFeet_14 : decode cX10_meanFeet 14 = .ok (.aload_n 3, 1) := by decide +kernel
theorem dX10_meanFeet_15 : decode cX10_meanFeet 15 = .ok (.invokeinterface 44 1, 5) := by decide +kernel
theorem dX10_meanFeet_20 : decode cX10_meanFeet 20 = .ok (.ifCond .eq 90, 3) := by decide +kernel
theorem dX10_meanFeet_110 : decode cX10_meanFeet 110 = .ok (.aload_n 0, 1) := by decide +kernel
theorem dX10_meanFeet_111 : decode cX10_meanFeet 111 = .ok (.iload_n 1, 1) := by decide +kernel
theorem dX10_meanFeet_112 : decode cX10_meanFeet 112 = .ok (.ifCond .ne 7, 3) := by decide +kernel
theorem dX10_meanFeet_115 : decode cX10_meanFeet 115 = .ok (.iconst 1, 1) := by decide +kernel
theorem dX10_meanFeet_116 : decode cX10_meanFeet 116 = .ok (.goto 4, 3) := by decide +kernel
theorem dX10_meanFeet_120 : decode cX10_meanFeet 120 = .ok (.invokevirtual 78, 3) := by decide +kernel
theorem dX10_meanFeet_123 : decode cX10_meanFeet 123 = .ok (.ifCond .eq 11, 3) := by decide +kernel
theorem dX10_meanFeet_134 : decode cX10_meanFeet 134 = .ok (.dconst 0, 1) := by decide +kernel
theorem dX10_meanFeet_135 : decode cX10_meanFeet 135 = .ok (.dreturn, 1) := by decide +kernel
set_option maxHeartbeats 4000000 in
set_option maxRecDepth 100000 in
theorem c_X10_meanFeet (l : Launch) (htr : l.stackTraces = false) (dC : Nat → ClassId) (dI : Nat → Nat → Nat) (e0 sz : Nat) (h0 : Nat) (th : Int32) (b : Nat → Nat) : Met l yX10_meanFeet wsX10_meanFeet ({ frames := 3, cells := 1, slots := 4, locals := 53 }) (va_Pc [.ref h0] (fun U => U.heap.size = sz ∧ va_P (dC, dI) vwCl [(h0, .inr (15, zM th b)), ((b 0), .inr (4, [.int 0, .ref e0, .int 0])), ((b 1), .inr (4, [.int 0, .ref e0, .int 0])), ((b 2), .inr (4, [.int 0, .ref e0, .int 0])), ((b 3), .inr (4, [.int 0, .ref e0, .int 0]))] U.heap ∧ va_K (dC, dI) vwCl [] U ∧ va_D (fun _ => True) [(h0, .inr (15, zM th b)), ((b 0), .inr (4, [.int 0, .ref e0, .int 0])), ((b 1), .inr (4, [.int 0, .ref e0, .int 0])), ((b 2), .inr (4, [.int 0, .ref e0, .int 0])), ((b 3), .inr (4, [.int 0, .ref e0, .int 0]))] ∧ zE e0 (va_A [(h0, .inr (15, zM th b)), ((b 0), .inr (4, [.int 0, .ref e0, .int 0])), ((b 1), .inr (4, [.int 0, .ref e0, .int 0])), ((b 2), .inr (4, [.int 0, .ref e0, .int 0])), ((b 3), .inr (4, [.int 0, .ref e0, .int 0]))] sz) U U.heap)) (va_Qd (fun (r : UInt64) (_ : Unit) => True) (fun _ t => va_P (dC, dI) vwCl [(h0, .inr (15, zM 1 b))] t.heap ∧ va_K (dC, dI) vwCl [] t ∧ va_D (va_A [(h0, .inr (15, zM th b)), ((b 0), .inr (4, [.int 0, .ref e0, .int 0])), ((b 1), .inr (4, [.int 0, .ref e0, .int 0])), ((b 2), .inr (4, [.int 0, .ref e0, .int 0])), ((b 3), .inr (4, [.int 0, .ref e0, .int 0]))] sz) [(h0, .inr (15, zM 1 b))]) (va_A [(h0, .inr (15, zM th b)), ((b 0), .inr (4, [.int 0, .ref e0, .int 0])), ((b 1), .inr (4, [.int 0, .ref e0, .int 0])), ((b 2), .inr (4, [.int 0, .ref e0, .int 0])), ((b 3), .inr (4, [.int 0, .ref e0, .int 0]))] sz)) 1 4 (va_A [(h0, .inr (15, zM th b)), ((b 0), .inr (4, [.int 0, .ref e0, .int 0])), ((b 1), .inr (4, [.int 0, .ref e0, .int 0])), ((b 2), .inr (4, [.int 0, .ref e0, .int 0])), ((b 3), .inr (4, [.int 0, .ref e0, .int 0]))] sz) := by
  refine Met.ofW (cc := cX10_meanFeet) (maxL := 7) (ret := (some .double)) (by decide) rfl ?_
  intro p e s m args below meth c s₁ B hml hv
  obtain ⟨rfl, hsz, hP, hK, hD0, hE⟩ := hv
  have hx := B.exec
  have hb := B.bytes
  have hr := B.returns
  have hts := atoms_spec (ws := wsX10_meanFeet) B.pre
  have hown : s.vm.findClass RX10 = some m.cls := findClass_of_methodNamed B.named
  have hlocks := B.notSynchronized
  subst hsz
  have hD := hD0.self (sz := s.heap.size)
  generalize hAe : va_A [(h0, .inr (15, zM th b)), ((b 0), .inr (4, [.int 0, .ref e0, .int 0])), ((b 1), .inr (4, [.int 0, .ref e0, .int 0])), ((b 2), .inr (4, [.int 0, .ref e0, .int 0])), ((b 3), .inr (4, [.int 0, .ref e0, .int 0]))] s.heap.size = A at hD hE ⊢
  have hA : ∀ q : Nat, s.heap.size ≤ q → A q := fun q h => by rw [← hAe]; exact Or.inr h
  have hS : va_S A s.heap s.heap [] := va_S.rf
  have hl := lv_entry ([.ref h0]) (n := 7) (Nat.le_of_ble_eq_true rfl)
  rw [lg_entry_eq]
  generalize (lg_sl ([.ref h0]) ++ List.replicate (7 - (lg_sl ([.ref h0])).length) Slot.unset).toArray = ls at hl ⊢
  have hl : lv_has ls 7 [(0, .ref h0)] := hl
  refine lv_iconst (v := 0) hx hb dX10_meanFeet_0 (by decide) ?_
  refine lv_istore_n (lv' := [(1, .int 0), (0, .ref h0)]) hx hb dX10_meanFeet_1 rfl hl (by decide) rfl (fun ls hl => ?_)
  refine lv_iconst (v := 0) hx hb dX10_meanFeet_2 (by decide) ?_
  refine lv_istore_n (lv' := [(2, .int 0), (1, .int 0), (0, .ref h0)]) hx hb dX10_meanFeet_3 rfl hl (by decide) rfl (fun ls hl => ?_)
  refine lv_aload_n hx hb dX10_meanFeet_4 rfl (lv_at hl 2 rfl) ?_
  refine va_get (D := (dC, dI)) (ci := 15) (v := .ref (b 2)) (C := RX10) (T := TX10) (N := 11) hx hb hts (by decide +kernel) hown hK hP 0 rfl rfl 3 (by decide) (hts (.fieldLink RX10 19 "GanglineModel" "teams" "Ljava/util/List;") (by decide +kernel)) (fun _ h9 => h9) rfl dX10_meanFeet_5 ?_
  have hPc := hP.sub (ws' := [((b 2), .inr (4, [.int 0, .ref e0, .int 0]))]) [3] rfl
  have hDc := hD.sub (ws' := [((b 2), .inr (4, [.int 0, .ref e0, .int 0]))]) [3] (by decide) rfl
  have hKc := hK.sub (tys' := []) [] rfl
  have hFc := va_free (wc := [((b 2), .inr (4, [.int 0, .ref e0, .int 0]))]) hD hS hA [3] rfl
  refine va_callFr (va_runF (As := []) (rest := []) (hK.1 4 _ rfl).2 ⟨hx, hb, hml, hown, hts⟩ (c_Jx4a65c_iterator_32c93 l htr dC dI e0 s.heap.size (b 2)) (va_cwF 0 hts gX10_meanFeet_Jx4a65c_iterator_32c93_f38Jx4a65c rfl rfl rfl (zV_W_iter hE.v) (by decide +kernel) ⟨Nat.le_of_ble_eq_true rfl, Nat.le_of_ble_eq_true rfl⟩) ⟨fun a U g mk q => by obtain ⟨q0, q1, qP, qK, qD⟩ := q; exact ⟨q0, q1, qP, va_K.moved (u := U) (U := U.calling g mk a) (Vm.Alike.refl U.vm) qK, qD⟩, va_recv hKc hPc (ci := 4) (q0 := 0) rfl rfl, fun U hU hW => ⟨rfl, by rw [hU], by rw [hU]; exact hPc, va_K.moved hW.alike hKc, hDc.weaken (fun _ _ _ _ => trivial)⟩⟩ rfl rfl hl.1 rfl (lv_room (Nat.le_of_ble_eq_true rfl)) dX10_meanFeet_8 ⟨Nat.le_of_ble_eq_true rfl, Nat.le_of_ble_eq_true rfl⟩) hS (fun q _ h => hFc q h) hFc (fun u r1 t H1 locs ht hvm hw hB hz1 hk1 hS => ?_)
  obtain ⟨hP1, hK1, hD1⟩ := hB
  rw [ht] at hP1
  obtain ⟨hP, hD⟩ := va_join (wr := [(h0, .inr (15, zM th b)), ((b 0), .inr (4, [.int 0, .ref e0, .int 0])), ((b 1), .inr (4, [.int 0, .ref e0, .int 0])), ((b 3), .inr (4, [.int 0, .ref e0, .int 0]))]) (w1 := [(r1, .inr (3, [.int 0, .int (-1), .int 0, .ref (b 2)])), ((b 2), .inr (4, [.int 0, .ref e0, .int 0]))]) hP hD [3] [0, 1, 2, 4] rfl rfl (by decide) (by decide) hk1 hFc hP1 hD1
  generalize H1 = H at hP hS ⊢
  have hP : va_P (dC, dI) vwCl [(h0, .inr (15, zM th b)), ((b 0), .inr (4, [.int 0, .ref e0, .int 0])), ((b 1), .inr (4, [.int 0, .ref e0, .int 0])), ((b 3), .inr (4, [.int 0, .ref e0, .int 0])), (r1, .inr (3, [.int 0, .int (-1), .int 0, .ref (b 2)])), ((b 2), .inr (4, [.int 0, .ref e0, .int 0]))] H := hP
  have hD : va_D A [(h0, .inr (15, zM th b)), ((b 0), .inr (4, [.int 0, .ref e0, .int 0])), ((b 1), .inr (4, [.int 0, .ref e0, .int 0])), ((b 3), .inr (4, [.int 0, .ref e0, .int 0])), (r1, .inr (3, [.int 0, .int (-1), .int 0, .ref (b 2)])), ((b 2), .inr (4, [.int 0, .ref e0, .int 0]))] := hD
  refine lv_astore_n (lv' := [(3, .ref r1), (2, .int 0), (1, .int 0), (0, .ref h0)]) hx hb dX10_meanFeet_13 rfl hl (by decide) rfl (fun ls hl => ?_)
  refine lv_aload_n hx hb dX10_meanFeet_14 rfl (lv_at hl 0 rfl) ?_
  have hPc := hP.sub (ws' := [(r1, .inr (3, [.int 0, .int (-1), .int 0, .ref (b 2)])), ((b 2), .inr (4, [.int 0, .ref e0, .int 0]))]) [4, 5] rfl
  have hDc := hD.sub (ws' := [(r1, .inr (3, [.int 0, .int (-1), .int 0, .ref (b 2)])), ((b 2), .inr (4, [.int 0, .ref e0, .int 0]))]) [4, 5] (by decide) rfl
  have hKc := hK.sub (tys' := []) [] rfl
  have hFc := va_free (wc := [(r1, .inr (3, [.int 0, .int (-1), .int 0, .ref (b 2)])), ((b 2), .inr (4, [.int 0, .ref e0, .int 0]))]) hD hS hA [4, 5] rfl
  have hEc := (hE.kept hS.2.1).narrow hFc
  refine va_callFi (va_runF (As := []) (rest := []) (hK.1 3 _ rfl).2 ⟨hx, hb, hml, hown, hts⟩ (c_Jx35411_hasNext_aae02 l htr dC dI e0 H.size r1 (b 2)) (va_cwF 0 hts gX10_meanFeet_Jx35411_hasNext_aae02_f44Jx35411 rfl rfl rfl (zV_W_hasNext hE.v) (by decide +kernel) ⟨Nat.le_of_ble_eq_true rfl, Nat.le_of_ble_eq_true rfl⟩) ⟨fun a U g mk q => by obtain ⟨q0, q1, qP, qK, qD, qE⟩ := q; exact ⟨q0, q1, qP, va_K.moved (u := U) (U := U.calling g mk a) (Vm.Alike.refl U.vm) qK, qD, zE.same rfl qE⟩, va_recv hKc hPc (ci := 3) (q0 := 0) rfl rfl, fun U hU hW => ⟨rfl, by rw [hU], by rw [hU]; exact hPc, va_K.moved hW.alike hKc, hDc.weaken (fun _ _ _ _ => trivial), by rw [hU]; exact zE.warm hW hEc⟩⟩ rfl rfl hl.1 rfl (lv_room (Nat.le_of_ble_eq_true rfl)) dX10_meanFeet_15 ⟨Nat.le_of_ble_eq_true rfl, Nat.le_of_ble_eq_true rfl⟩) hS (fun q _ h => hFc q h) hFc (fun r2 u t H1 locs ht hvm hw hB hz1 hk1 hS => ?_)
  obtain ⟨hP1, hK1, hD1⟩ := hB
  rw [ht] at hP1
  obtain ⟨hP, hD⟩ := va_join (wr := [(h0, .inr (15, zM th b)), ((b 0), .inr (4, [.int 0, .ref e0, .int 0])), ((b 1), .inr (4, [.int 0, .ref e0, .int 0])), ((b 3), .inr (4, [.int 0, .ref e0, .int 0]))]) (w1 := [(r1, .inr (3, [.int 0, .int (-1), .int 0, .ref (b 2)])), ((b 2), .inr (4, [.int 0, .ref e0, .int 0]))]) hP hD [4, 5] [0, 1, 2, 3] rfl rfl (by decide) (by decide) hk1 hFc hP1 hD1
  generalize H1 = H at hP hS ⊢
  have hP : va_P (dC, dI) vwCl [(h0, .inr (15, zM th b)), ((b 0), .inr (4, [.int 0, .ref e0, .int 0])), ((b 1), .inr (4, [.int 0, .ref e0, .int 0])), ((b 3), .inr (4, [.int 0, .ref e0, .int 0])), (r1, .inr (3, [.int 0, .int (-1), .int 0, .ref (b 2)])), ((b 2), .inr (4, [.int 0, .ref e0, .int 0]))] H := hP
  have hD : va_D A [(h0, .inr (15, zM th b)), ((b 0), .inr (4, [.int 0, .ref e0, .int 0])), ((b 1), .inr (4, [.int 0, .ref e0, .int 0])), ((b 3), .inr (4, [.int 0, .ref e0, .int 0])), (r1, .inr (3, [.int 0, .int (-1), .int 0, .ref (b 2)])), ((b 2), .inr (4, [.int 0, .ref e0, .int 0]))] := hD
  obtain rfl : r2 = 0 := hw
  refine lv_if_eq (tgt := 110) hx hb dX10_meanFeet_20 (by decide) (fun _ => ?_) (fun c3 => absurd (by decide) c3)
  refine lv_aload_n hx hb dX10_meanFeet_110 rfl (lv_at hl 3 rfl) ?_
  refine lv_iload_n hx hb dX10_meanFeet_111 rfl (lv_at hl 2 rfl) ?_
  refine lv_if_ne (tgt := 119) hx hb dX10_meanFeet_112 (by decide) (fun c4 => absurd (by decide) c4) (fun _ => ?_)
  refine lv_iconst (v := 1) hx hb dX10_meanFeet_115 (by decide) ?_
  refine lv_goto (tgt := 120) hx hb dX10_meanFeet_116 (by decide) ?_
  have hPc := hP.sub (ws' := [(h0, .inr (15, zM th b))]) [0] rfl
  have hDc := hD.sub (ws' := [(h0, .inr (15, zM th b))]) [0] (by decide) rfl
  have hKc := hK.sub (tys' := []) [] rfl
  have hFc := va_free (wc := [(h0, .inr (15, zM th b))]) hD hS hA [0] rfl
  refine va_calli (va_runV (As := [.int 1]) (rest := []) ⟨hx, hb, hml, hown, hts⟩ (c_X10_goesOn l htr dC dI e0 H.size h0 th b 1) (cwV 1 hts gX10_meanFeet_X10_goesOn rfl rfl rfl (by decide +kernel) ⟨Nat.le_of_ble_eq_true rfl, Nat.le_of_ble_eq_true rfl⟩) ⟨fun a U g mk q => by obtain ⟨q0, q1, qP, qK, qD⟩ := q; exact ⟨q0, q1, qP, va_K.moved (u := U) (U := U.calling g mk a) (Vm.Alike.refl U.vm) qK, qD⟩, va_recv hKc hPc (ci := 15) (q0 := 0) rfl rfl, fun U hU hW => ⟨rfl, by rw [hU], by rw [hU]; exact hPc, va_K.moved hW.alike hKc, hDc.weaken (fun _ _ _ _ => trivial)⟩⟩ rfl rfl hl.1 rfl (lv_room (Nat.le_of_ble_eq_true rfl)) dX10_meanFeet_120 ⟨Nat.le_of_ble_eq_true rfl, Nat.le_of_ble_eq_true rfl⟩) hS (fun q _ h => hFc q h) hFc (fun r5 u t H1 locs ht hvm hw hB hz1 hk1 hS => ?_)
  obtain ⟨hP1, hK1, hD1⟩ := hB
  rw [ht] at hP1
  obtain ⟨hP, hD⟩ := va_join (wr := [((b 0), .inr (4, [.int 0, .ref e0, .int 0])), ((b 1), .inr (4, [.int 0, .ref e0, .int 0])), ((b 3), .inr (4, [.int 0, .ref e0, .int 0])), (r1, .inr (3, [.int 0, .int (-1), .int 0, .ref (b 2)])), ((b 2), .inr (4, [.int 0, .ref e0, .int 0]))]) (w1 := [(h0, .inr (15, zM 1 b))]) hP hD [0] [1, 2, 3, 4, 5] rfl rfl (by decide) (by decide) hk1 hFc hP1 hD1
  generalize H1 = H at hP hS ⊢
  have hP : va_P (dC, dI) vwCl [((b 0), .inr (4, [.int 0, .ref e0, .int 0])), ((b 1), .inr (4, [.int 0, .ref e0, .int 0])), ((b 3), .inr (4, [.int 0, .ref e0, .int 0])), (r1, .inr (3, [.int 0, .int (-1), .int 0, .ref (b 2)])), ((b 2), .inr (4, [.int 0, .ref e0, .int 0])), (h0, .inr (15, zM 1 b))] H := hP
  have hD : va_D A [((b 0), .inr (4, [.int 0, .ref e0, .int 0])), ((b 1), .inr (4, [.int 0, .ref e0, .int 0])), ((b 3), .inr (4, [.int 0, .ref e0, .int 0])), (r1, .inr (3, [.int 0, .int (-1), .int 0, .ref (b 2)])), ((b 2), .inr (4, [.int 0, .ref e0, .int 0])), (h0, .inr (15, zM 1 b))] := hD
  obtain rfl : r5 = 0 := hw.trans (by decide)
  refine lv_if_eq (tgt := 134) hx hb dX10_meanFeet_123 (by decide) (fun _ => ?_) (fun c6 => absurd (by decide) c6)
  refine lv_dconst0 hx hb dX10_meanFeet_134 ?_
  have hP9 := hP.sub (ws' := [(h0, .inr (15, zM 1 b))]) [5] rfl
  have hD9 := hD.sub (ws' := [(h0, .inr (15, zM 1 b))]) [5] (by decide) rfl
  have hK9 := hK.sub (tys' := []) [] rfl
  exact W.dret (v := FP.dconst0) hx hb hr (fun t ht hW => ⟨⟨FP.dconst0, (), rfl, trivial, ⟨by rw [ht]; exact hP9, va_K.moved hW.alike hK9, hD9⟩⟩, hS.F ht⟩) hS.2.2 dX10_meanFeet_135
