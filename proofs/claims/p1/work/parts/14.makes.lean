theorem dX1_init_0 : decode cX1_init 0 = .ok (.aload_n 0, 1) := by decide +kernel
theorem dX1_init_1 : decode cX1_init 1 = .ok (.invokespecial 1, 3) := by decide +kernel
theorem dX1_init_4 : decode cX1_init 4 = .ok (.aload_n 0, 1) := by decide +kernel
theorem dX1_init_5 : decode cX1_init 5 = .ok (.bipush (-10), 2) := by decide +kernel
theorem dX1_init_7 : decode cX1_init 7 = .ok (.putfield 7, 3) := by decide +kernel
theorem dX1_init_10 : decode cX1_init 10 = .ok (.aload_n 0, 1) := by decide +kernel
theorem dX1_init_11 : decode cX1_init 11 = .ok (.iload_n 1, 1) := by decide +kernel
theorem dX1_init_12 : decode cX1_init 12 = .ok (.putfield 13, 3) := by decide +kernel
theorem dX1_init_15 : decode cX1_init 15 = .ok (.aload_n 0, 1) := by decide +kernel
theorem dX1_init_16 : decode cX1_init 16 = .ok (.iload_n 2, 1) := by decide +kernel
theorem dX1_init_17 : decode cX1_init 17 = .ok (.putfield 16, 3) := by decide +kernel
theorem dX1_init_20 : decode cX1_init 20 = .ok (.aload_n 0, 1) := by decide +kernel
theorem dX1_init_21 : decode cX1_init 21 = .ok (.iload_n 3, 1) := by decide +kernel
theorem dX1_init_22 : decode cX1_init 22 = .ok (.putfield 19, 3) := by decide +kernel
theorem dX1_init_25 : decode cX1_init 25 = .ok (.return_, 1) := by decide +kernel
set_option maxHeartbeats 4000000 in
set_option maxRecDepth 100000 in
theorem c_X1_init (l : Launch) (htr : l.stackTraces = false) (dC : Nat → ClassId) (dI : Nat → Nat → Nat) (e0 sz : Nat) (q : Nat) (p0 : Int32) (p1 : Int32) (p2 : Int32) : Met l yX1_init wsX1_init ({ frames := 1, cells := 0, slots := 0, locals := 12 }) (va_Pc [.ref q, .int p0, .int p1, .int p2] (fun U => U.heap.size = sz ∧ va_P (dC, dI) vwCl [(q, .inr (6, [.int 0, .int 0, .int 0, .int 0, .int 0]))] U.heap ∧ va_K (dC, dI) vwCl [] U ∧ va_D (fun _ => True) [(q, .inr (6, [.int 0, .int 0, .int 0, .int 0, .int 0]))])) (va_Qv (fun _ : Unit => True) (fun _ t => va_P (dC, dI) vwCl [(q, .inr (6, [.int p0, .int p1, .int p2, .int (-10), .int 0]))] t.heap ∧ va_K (dC, dI) vwCl [] t ∧ va_D (va_A [(q, .inr (6, [.int 0, .int 0, .int 0, .int 0, .int 0]))] sz) [(q, .inr (6, [.int p0, .int p1, .int p2, .int (-10), .int 0]))]) (va_A [(q, .inr (6, [.int 0, .int 0, .int 0, .int 0, .int 0]))] sz)) 0 0 (va_A [(q, .inr (6, [.int 0, .int 0, .int 0, .int 0, .int 0]))] sz) := by
  refine Met.ofW (cc := cX1_init) (maxL := 4) (ret := none) (by decide) rfl ?_
  intro p e s m args below meth c s₁ B hml hv
  obtain ⟨rfl, hsz, hP, hK, hD0⟩ := hv
  have hx := B.exec
  have hb := B.bytes
  have hr := B.returns
  have hts := atoms_spec (ws := wsX1_init) B.pre
  have hown : s.vm.findClass RX1 = some m.cls := findClass_of_methodNamed B.named
  have hlocks := B.notSynchronized
  have hin : meth.name = "<init>" := (name_of_methodNamed B.named B.method).1
  subst hsz
  have hD := hD0.self (sz := s.heap.size)
  generalize hAe : va_A [(q, .inr (6, [.int 0, .int 0, .int 0, .int 0, .int 0]))] s.heap.size = A at hD ⊢
  have hA : ∀ q : Nat, s.heap.size ≤ q → A q := fun q h => by rw [← hAe]; exact Or.inr h
  have hS : va_S A s.heap s.heap [] := va_S.rf
  have hl := lv_entry ([.ref q, .int p0, .int p1, .int p2]) (n := 4) (Nat.le_of_ble_eq_true rfl)
  rw [lg_entry_eq]
  generalize (lg_sl ([.ref q, .int p0, .int p1, .int p2]) ++ List.replicate (4 - (lg_sl ([.ref q, .int p0, .int p1, .int p2])).length) Slot.unset).toArray = ls at hl ⊢
  have hl : lv_has ls 4 [(0, .ref q), (1, .int p0), (2, .int p1), (3, .int p2)] := hl
  refine lv_aload_n hx hb dX1_init_0 rfl (lv_at hl 0 rfl) ?_
  refine W.objInit hx hb hown (hts (.methodLink RX1 1 objectInit) (by decide +kernel)) (hts (.instanceMethod objectInit) (by decide +kernel)) (hts (.code objectInit ⟨#[0xb1]⟩ 1 none) (by decide +kernel)) rfl (by rw [hml]; exact hl.1) rfl dX1_init_1 (Nat.le_of_ble_eq_true rfl) (Nat.le_of_ble_eq_true rfl) ?_
  refine W.eq (g2 := F0 m 4 ls []) rfl ?_
  refine lv_aload_n hx hb dX1_init_4 rfl (lv_at hl 0 rfl) ?_
  refine lv_bipush (v := (-10)) hx hb dX1_init_5 (by decide) ?_
  refine va_put (D := (dC, dI)) (ci := 6) (v := .int (-10)) (ty := .int) (C := RX1) (T := TX1) (N := 5) hx hb hts (by decide +kernel) tyX1 tyX1_ok nmX1 hown hK hP hD hS 0 rfl rfl 3 (by decide) (hts (.fieldLink RX1 7 "Gangline$Leg" "degrees" "I") (by decide +kernel)) (fun _ h9 => h9) rfl (by decide +kernel) rfl rfl (Nat.le_of_ble_eq_true rfl) dX1_init_7 (fun H locs hP hD hS => ?_)
  have hP : va_P (dC, dI) vwCl [(q, .inr (6, [.int 0, .int 0, .int 0, .int (-10), .int 0]))] H := hP
  have hD : va_D A [(q, .inr (6, [.int 0, .int 0, .int 0, .int (-10), .int 0]))] := hD
  refine lv_aload_n hx hb dX1_init_10 rfl (lv_at hl 0 rfl) ?_
  refine lv_iload_n hx hb dX1_init_11 rfl (lv_at hl 1 rfl) ?_
  refine va_putF (D := (dC, dI)) (ci := 6) (v := .int p0) (ty := .int) (C := RX1) (T := TX1) (N := 5) hx hb hts (by decide +kernel) tyX1 tyX1_ok nmX1 hown hK hP hD hS 0 rfl rfl 0 (by decide) (hts (.fieldLink RX1 13 "Gangline$Leg" "length" "I") (by decide +kernel)) (fun _ h9 => h9) rfl hin rfl (by decide +kernel) rfl rfl (Nat.le_of_ble_eq_true rfl) dX1_init_12 (fun H locs hP hD hS => ?_)
  have hP : va_P (dC, dI) vwCl [(q, .inr (6, [.int p0, .int 0, .int 0, .int (-10), .int 0]))] H := hP
  have hD : va_D A [(q, .inr (6, [.int p0, .int 0, .int 0, .int (-10), .int 0]))] := hD
  refine lv_aload_n hx hb dX1_init_15 rfl (lv_at hl 0 rfl) ?_
  refine lv_iload_n hx hb dX1_init_16 rfl (lv_at hl 2 rfl) ?_
  refine va_putF (D := (dC, dI)) (ci := 6) (v := .int p1) (ty := .int) (C := RX1) (T := TX1) (N := 5) hx hb hts (by decide +kernel) tyX1 tyX1_ok nmX1 hown hK hP hD hS 0 rfl rfl 1 (by decide) (hts (.fieldLink RX1 16 "Gangline$Leg" "surface" "I") (by decide +kernel)) (fun _ h9 => h9) rfl hin rfl (by decide +kernel) rfl rfl (Nat.le_of_ble_eq_true rfl) dX1_init_17 (fun H locs hP hD hS => ?_)
  have hP : va_P (dC, dI) vwCl [(q, .inr (6, [.int p0, .int p1, .int 0, .int (-10), .int 0]))] H := hP
  have hD : va_D A [(q, .inr (6, [.int p0, .int p1, .int 0, .int (-10), .int 0]))] := hD
  refine lv_aload_n hx hb dX1_init_20 rfl (lv_at hl 0 rfl) ?_
  refine lv_iload_n hx hb dX1_init_21 rfl (lv_at hl 3 rfl) ?_
  refine va_putF (D := (dC, dI)) (ci := 6) (v := .int p2) (ty := .int) (C := RX1) (T := TX1) (N := 5) hx hb hts (by decide +kernel) tyX1 tyX1_ok nmX1 hown hK hP hD hS 0 rfl rfl 2 (by decide) (hts (.fieldLink RX1 19 "Gangline$Leg" "climb" "I") (by decide +kernel)) (fun _ h9 => h9) rfl hin rfl (by decide +kernel) rfl rfl (Nat.le_of_ble_eq_true rfl) dX1_init_22 (fun H locs hP hD hS => ?_)
  have hP : va_P (dC, dI) vwCl [(q, .inr (6, [.int p0, .int p1, .int p2, .int (-10), .int 0]))] H := hP
  have hD : va_D A [(q, .inr (6, [.int p0, .int p1, .int p2, .int (-10), .int 0]))] := hD
  have hP9 := hP.sub (ws' := [(q, .inr (6, [.int p0, .int p1, .int p2, .int (-10), .int 0]))]) [0] rfl
  have hD9 := hD.sub (ws' := [(q, .inr (6, [.int p0, .int p1, .int p2, .int (-10), .int 0]))]) [0] (by decide) rfl
  have hK9 := hK.sub (tys' := []) [] rfl
  exact W.vret hx hb hr (fun t ht hW => ⟨⟨(), rfl, trivial, ⟨by rw [ht]; exact hP9, va_K.moved hW.alike hK9, hD9⟩⟩, hS.F ht⟩) hS.2.2 dX1_init_25

theorem dX0_init_0 : decode cX0_init 0 = .ok (.aload_n 0, 1) := by decide +kernel
theorem dX0_init_1 : decode cX0_init 1 = .ok (.invokespecial 3, 3) := by decide +kernel
theorem dX0_init_4 : decode cX0_init 4 = .ok (.aload_n 0, 1) := by decide +kernel
theorem dX0_init_5 : decode cX0_init 5 = .ok (.iconst (-1), 1) := by decide +kernel
theorem dX0_init_6 : decode cX0_init 6 = .ok (.putfield 9, 3) := by decide +kernel
theorem dX0_init_9 : decode cX0_init 9 = .ok (.aload_n 0, 1) := by decide +kernel
theorem dX0_init_10 : decode cX0_init 10 = .ok (.iconst (-1), 1) := by decide +kernel
theorem dX0_init_11 : decode cX0_init 11 = .ok (.putfield 15, 3) := by decide +kernel
theorem dX0_init_14 : decode cX0_init 14 = .ok (.aload_n 0, 1) := by decide +kernel
theorem dX0_init_15 : decode cX0_init 15 = .ok (.bipush 100, 2) := by decide +kernel
theorem dX0_init_17 : decode cX0_init 17 = .ok (.putfield 18, 3) := by decide +kernel
theorem dX0_init_20 : decode cX0_init 20 = .ok (.aload_n 0, 1) := by decide +kernel
theorem dX0_init_21 : decode cX0_init 21 = .ok (.bipush 100, 2) := by decide +kernel
theorem dX0_init_23 : decode cX0_init 23 = .ok (.putfield 21, 3) := by decide +kernel
theorem dX0_init_26 : decode cX0_init 26 = .ok (.aload_n 0, 1) := by decide +kernel
theorem dX0_init_27 : decode cX0_init 27 = .ok (.bipush 100, 2) := by decide +kernel
theorem dX0_init_29 : decode cX0_init 29 = .ok (.putfield 24, 3) := by decide +kernel
theorem dX0_init_32 : decode cX0_init 32 = .ok (.aload_n 0, 1) := by decide +kernel
theorem dX0_init_33 : decode cX0_init 33 = .ok (.iconst 5, 1) := by decide +kernel
theorem dX0_init_34 : decode cX0_init 34 = .ok (.putfield 27, 3) := by decide +kernel
theorem dX0_init_37 : decode cX0_init 37 = .ok (.aload_n 0, 1) := by decide +kernel
theorem dX0_init_38 : decode cX0_init 38 = .ok (.bipush 107, 2) := by decide +kernel
theorem dX0_init_40 : decode cX0_init 40 = .ok (.putfield 30, 3) := by decide +kernel
theorem dX0_init_43 : decode cX0_init 43 = .ok (.aload_n 0, 1) := by decide +kernel
theorem dX0_init_44 : decode cX0_init 44 = .ok (.iload_n 1, 1) := by decide +kernel
theorem dX0_init_45 : decode cX0_init 45 = .ok (.putfield 34, 3) := by decide +kernel
theorem dX0_init_48 : decode cX0_init 48 = .ok (.aload_n 0, 1) := by decide +kernel
theorem dX0_init_49 : decode cX0_init 49 = .ok (.iload_n 1, 1) := by decide +kernel
theorem dX0_init_50 : decode cX0_init 50 = .ok (.putfield 37, 3) := by decide +kernel
theorem dX0_init_53 : decode cX0_init 53 = .ok (.aload_n 0, 1) := by decide +kernel
theorem dX0_init_54 : decode cX0_init 54 = .ok (.iload_n 2, 1) := by decide +kernel
theorem dX0_init_55 : decode cX0_init 55 = .ok (.putfield 40, 3) := by decide +kernel
theorem dX0_init_58 : decode cX0_init 58 = .ok (.aload_n 0, 1) := by decide +kernel
theorem dX0_init_59 : decode cX0_init 59 = .ok (.iload_n 3, 1) := by decide +kernel
theorem dX0_init_60 : decode cX0_init 60 = .ok (.putfield 43, 3) := by decide +kernel
theorem dX0_init_63 : decode cX0_init 63 = .ok (.aload_n 0, 1) := by decide +kernel
theorem dX0_init_64 : decode cX0_init 64 = .ok (.iload 4, 2) := by decide +kernel
theorem dX0_init_66 : decode cX0_init 66 = .ok (.putfield 46, 3) := by decide +kernel
theorem dX0_init_69 : decode cX0_init 69 = .ok (.return_, 1) := by decide +kernel
set_option maxHeartbeats 4000000 in
set_option maxRecDepth 100000 in
theorem c_X0_init (l : Launch) (htr : l.stackTraces = false) (dC : Nat → ClassId) (dI : Nat → Nat → Nat) (e0 sz : Nat) (q : Nat) (p0 : Int32) (p1 : Int32) (p2 : Int32) (p3 : Int32) : Met l yX0_init wsX0_init ({ frames := 1, cells := 0, slots := 0, locals := 12 }) (va_Pc [.ref q, .int p0, .int p1, .int p2, .int p3] (fun U => U.heap.size = sz ∧ va_P (dC, dI) vwCl [(q, .inr (5, [.int 0, .int 0, .int 0, .int 0, .int 0, .int 0, .int 0, .int 0, .int 0, .int 0, .int 0, .int 0, .int 0, .int 0]))] U.heap ∧ va_K (dC, dI) vwCl [] U ∧ va_D (fun _ => True) [(q, .inr (5, [.int 0, .int 0, .int 0, .int 0, .int 0, .int 0, .int 0, .int 0, .int 0, .int 0, .int 0, .int 0, .int 0, .int 0]))])) (va_Qv (fun _ : Unit => True) (fun _ t => va_P (dC, dI) vwCl [(q, .inr (5, [.int p0, .int p0, .int p1, .int p2, .int p3, .int (-1), .int (-1), .int 100, .int 100, .int 100, .int 5, .int 0, .int 0, .int 107]))] t.heap ∧ va_K (dC, dI) vwCl [] t ∧ va_D (va_A [(q, .inr (5, [.int 0, .int 0, .int 0, .int 0, .int 0, .int 0, .int 0, .int 0, .int 0, .int 0, .int 0, .int 0, .int 0, .int 0]))] sz) [(q, .inr (5, [.int p0, .int p0, .int p1, .int p2, .int p3, .int (-1), .int (-1), .int 100, .int 100, .int 100, .int 5, .int 0, .int 0, .int 107]))]) (va_A [(q, .inr (5, [.int 0, .int 0, .int 0, .int 0, .int 0, .int 0, .int 0, .int 0, .int 0, .int 0, .int 0, .int 0, .int 0, .int 0]))] sz)) 0 0 (va_A [(q, .inr (5, [.int 0, .int 0, .int 0, .int 0, .int 0, .int 0, .int 0, .int 0, .int 0, .int 0, .int 0, .int 0, .int 0, .int 0]))] sz) := by
  refine Met.ofW (cc := cX0_init) (maxL := 5) (ret := none) (by decide) rfl ?_
  intro p e s m args below meth c s₁ B hml hv
  obtain ⟨rfl, hsz, hP, hK, hD0⟩ := hv
  have hx := B.exec
  have hb := B.bytes
  have hr := B.returns
  have hts := atoms_spec (ws := wsX0_init) B.pre
  have hown : s.vm.findClass RX0 = some m.cls := findClass_of_methodNamed B.named
  have hlocks := B.notSynchronized
  have hin : meth.name = "<init>" := (name_of_methodNamed B.named B.method).1
  subst hsz
  have hD := hD0.self (sz := s.heap.size)
  generalize hAe : va_A [(q, .inr (5, [.int 0, .int 0, .int 0, .int 0, .int 0, .int 0, .int 0, .int 0, .int 0, .int 0, .int 0, .int 0, .int 0, .int 0]))] s.heap.size = A at hD ⊢
  have hA : ∀ q : Nat, s.heap.size ≤ q → A q := fun q h => by rw [← hAe]; exact Or.inr h
  have hS : va_S A s.heap s.heap [] := va_S.rf
  have hl := lv_entry ([.ref q, .int p0, .int p1, .int p2, .int p3]) (n := 5) (Nat.le_of_ble_eq_true rfl)
  rw [lg_entry_eq]
  generalize (lg_sl ([.ref q, .int p0, .int p1, .int p2, .int p3]) ++ List.replicate (5 - (lg_sl ([.ref q, .int p0, .int p1, .int p2, .int p3])).length) Slot.unset).toArray = ls at hl ⊢
  have hl : lv_has ls 5 [(0, .ref q), (1, .int p0), (2, .int p1), (3, .int p2), (4, .int p3)] := hl
  refine lv_aload_n hx hb dX0_init_0 rfl (lv_at hl 0 rfl) ?_
  refine W.objInit hx hb hown (hts (.methodLink RX0 3 objectInit) (by decide +kernel)) (hts (.instanceMethod objectInit) (by decide +kernel)) (hts (.code objectInit ⟨#[0xb1]⟩ 1 none) (by decide +kernel)) rfl (by rw [hml]; exact hl.1) rfl dX0_init_1 (Nat.le_of_ble_eq_true rfl) (Nat.le_of_ble_eq_true rfl) ?_
  refine W.eq (g2 := F0 m 4 ls []) rfl ?_
  refine lv_aload_n hx hb dX0_init_4 rfl (lv_at hl 0 rfl) ?_
  refine lv_iconst (v := (-1)) hx hb dX0_init_5 (by decide) ?_
  refine va_put (D := (dC, dI)) (ci := 5) (v := .int (-1)) (ty := .int) (C := RX0) (T := TX0) (N := 14) hx hb hts (by decide +kernel) tyX0 tyX0_ok nmX0 hown hK hP hD hS 0 rfl rfl 5 (by decide) (hts (.fieldLink RX0 9 "Gangline$Dog" "mother" "I") (by decide +kernel)) (fun _ h9 => h9) rfl (by decide +kernel) rfl rfl (Nat.le_of_ble_eq_true rfl) dX0_init_6 (fun H locs hP hD hS => ?_)
  have hP : va_P (dC, dI) vwCl [(q, .inr (5, [.int 0, .int 0, .int 0, .int 0, .int 0, .int (-1), .int 0, .int 0, .int 0, .int 0, .int 0, .int 0, .int 0, .int 0]))] H := hP
  have hD : va_D A [(q, .inr (5, [.int 0, .int 0, .int 0, .int 0, .int 0, .int (-1), .int 0, .int 0, .int 0, .int 0, .int 0, .int 0, .int 0, .int 0]))] := hD
  refine lv_aload_n hx hb dX0_init_9 rfl (lv_at hl 0 rfl) ?_
  refine lv_iconst (v := (-1)) hx hb dX0_init_10 (by decide) ?_
  refine va_put (D := (dC, dI)) (ci := 5) (v := .int (-1)) (ty := .int) (C := RX0) (T := TX0) (N := 14) hx hb hts (by decide +kernel) tyX0 tyX0_ok nmX0 hown hK hP hD hS 0 rfl rfl 6 (by decide) (hts (.fieldLink RX0 15 "Gangline$Dog" "father" "I") (by decide +kernel)) (fun _ h9 => h9) rfl (by decide +kernel) rfl rfl (Nat.le_of_ble_eq_true rfl) dX0_init_11 (fun H locs hP hD hS => ?_)
  have hP : va_P (dC, dI) vwCl [(q, .inr (5, [.int 0, .int 0, .int 0, .int 0, .int 0, .int (-1), .int (-1), .int 0, .int 0, .int 0, .int 0, .int 0, .int 0, .int 0]))] H := hP
  have hD : va_D A [(q, .inr (5, [.int 0, .int 0, .int 0, .int 0, .int 0, .int (-1), .int (-1), .int 0, .int 0, .int 0, .int 0, .int 0, .int 0, .int 0]))] := hD
  refine lv_aload_n hx hb dX0_init_14 rfl (lv_at hl 0 rfl) ?_
  refine lv_bipush (v := 100) hx hb dX0_init_15 (by decide) ?_
  refine va_put (D := (dC, dI)) (ci := 5) (v := .int 100) (ty := .int) (C := RX0) (T := TX0) (N := 14) hx hb hts (by decide +kernel) tyX0 tyX0_ok nmX0 hown hK hP hD hS 0 rfl rfl 7 (by decide) (hts (.fieldLink RX0 18 "Gangline$Dog" "feet" "I") (by decide +kernel)) (fun _ h9 => h9) rfl (by decide +kernel) rfl rfl (Nat.le_of_ble_eq_true rfl) dX0_init_17 (fun H locs hP hD hS => ?_)
  have hP : va_P (dC, dI) vwCl [(q, .inr (5, [.int 0, .int 0, .int 0, .int 0, .int 0, .int (-1), .int (-1), .int 100, .int 0, .int 0, .int 0, .int 0, .int 0, .int 0]))] H := hP
  have hD : va_D A [(q, .inr (5, [.int 0, .int 0, .int 0, .int 0, .int 0, .int (-1), .int (-1), .int 100, .int 0, .int 0, .int 0, .int 0, .int 0, .int 0]))] := hD
  refine lv_aload_n hx hb dX0_init_20 rfl (lv_at hl 0 rfl) ?_
  refine lv_bipush (v := 100) hx hb dX0_init_21 (by decide) ?_
  refine va_put (D := (dC, dI)) (ci := 5) (v := .int 100) (ty := .int) (C := RX0) (T := TX0) (N := 14) hx hb hts (by decide +kernel) tyX0 tyX0_ok nmX0 hown hK hP hD hS 0 rfl rfl 8 (by decide) (hts (.fieldLink RX0 21 "Gangline$Dog" "food" "I") (by decide +kernel)) (fun _ h9 => h9) rfl (by decide +kernel) rfl rfl (Nat.le_of_ble_eq_true rfl) dX0_init_23 (fun H locs hP hD hS => ?_)
  have hP : va_P (dC, dI) vwCl [(q, .inr (5, [.int 0, .int 0, .int 0, .int 0, .int 0, .int (-1), .int (-1), .int 100, .int 100, .int 0, .int 0, .int 0, .int 0, .int 0]))] H := hP
  have hD : va_D A [(q, .inr (5, [.int 0, .int 0, .int 0, .int 0, .int 0, .int (-1), .int (-1), .int 100, .int 100, .int 0, .int 0, .int 0, .int 0, .int 0]))] := hD
  refine lv_aload_n hx hb dX0_init_26 rfl (lv_at hl 0 rfl) ?_
  refine lv_bipush (v := 100) hx hb dX0_init_27 (by decide) ?_
  refine va_put (D := (dC, dI)) (ci := 5) (v := .int 100) (ty := .int) (C := RX0) (T := TX0) (N := 14) hx hb hts (by decide +kernel) tyX0 tyX0_ok nmX0 hown hK hP hD hS 0 rfl rfl 9 (by decide) (hts (.fieldLink RX0 24 "Gangline$Dog" "water" "I") (by decide +kernel)) (fun _ h9 => h9) rfl (by decide +kernel) rfl rfl (Nat.le_of_ble_eq_true rfl) dX0_init_29 (fun H locs hP hD hS => ?_)
  have hP : va_P (dC, dI) vwCl [(q, .inr (5, [.int 0, .int 0, .int 0, .int 0, .int 0, .int (-1), .int (-1), .int 100, .int 100, .int 100, .int 0, .int 0, .int 0, .int 0]))] H := hP
  have hD : va_D A [(q, .inr (5, [.int 0, .int 0, .int 0, .int 0, .int 0, .int (-1), .int (-1), .int 100, .int 100, .int 100, .int 0, .int 0, .int 0, .int 0]))] := hD
  refine lv_aload_n hx hb dX0_init_32 rfl (lv_at hl 0 rfl) ?_
  refine lv_iconst (v := 5) hx hb dX0_init_33 (by decide) ?_
  refine va_put (D := (dC, dI)) (ci := 5) (v := .int 5) (ty := .int) (C := RX0) (T := TX0) (N := 14) hx hb hts (by decide +kernel) tyX0 tyX0_ok nmX0 hown hK hP hD hS 0 rfl rfl 10 (by decide) (hts (.fieldLink RX0 27 "Gangline$Dog" "trust" "I") (by decide +kernel)) (fun _ h9 => h9) rfl (by decide +kernel) rfl rfl (Nat.le_of_ble_eq_true rfl) dX0_init_34 (fun H locs hP hD hS => ?_)
  have hP : va_P (dC, dI) vwCl [(q, .inr (5, [.int 0, .int 0, .int 0, .int 0, .int 0, .int (-1), .int (-1), .int 100, .int 100, .int 100, .int 5, .int 0, .int 0, .int 0]))] H := hP
  have hD : va_D A [(q, .inr (5, [.int 0, .int 0, .int 0, .int 0, .int 0, .int (-1), .int (-1), .int 100, .int 100, .int 100, .int 5, .int 0, .int 0, .int 0]))] := hD
  refine lv_aload_n hx hb dX0_init_37 rfl (lv_at hl 0 rfl) ?_
  refine lv_bipush (v := 107) hx hb dX0_init_38 (by decide) ?_
  refine va_put (D := (dC, dI)) (ci := 5) (v := .int 107) (ty := .char) (C := RX0) (T := TX0) (N := 14) hx hb hts (by decide +kernel) tyX0 tyX0_ok nmX0 hown hK hP hD hS 0 rfl rfl 13 (by decide) (hts (.fieldLink RX0 30 "Gangline$Dog" "state" "C") (by decide +kernel)) (fun _ h9 => h9) rfl (by decide +kernel) (by decide) (by decide) (Nat.le_of_ble_eq_true rfl) dX0_init_40 (fun H locs hP hD hS => ?_)
  have hP : va_P (dC, dI) vwCl [(q, .inr (5, [.int 0, .int 0, .int 0, .int 0, .int 0, .int (-1), .int (-1), .int 100, .int 100, .int 100, .int 5, .int 0, .int 0, .int 107]))] H := hP
  have hD : va_D A [(q, .inr (5, [.int 0, .int 0, .int 0, .int 0, .int 0, .int (-1), .int (-1), .int 100, .int 100, .int 100, .int 5, .int 0, .int 0, .int 107]))] := hD
  refine lv_aload_n hx hb dX0_init_43 rfl (lv_at hl 0 rfl) ?_
  refine lv_iload_n hx hb dX0_init_44 rfl (lv_at hl 1 rfl) ?_
  refine va_put (D := (dC, dI)) (ci := 5) (v := .int p0) (ty := .int) (C := RX0) (T := TX0) (N := 14) hx hb hts (by decide +kernel) tyX0 tyX0_ok nmX0 hown hK hP hD hS 0 rfl rfl 0 (by decide) (hts (.fieldLink RX0 34 "Gangline$Dog" "kennel" "I") (by decide +kernel)) (fun _ h9 => h9) rfl (by decide +kernel) rfl rfl (Nat.le_of_ble_eq_true rfl) dX0_init_45 (fun H locs hP hD hS => ?_)
  have hP : va_P (dC, dI) vwCl [(q, .inr (5, [.int p0, .int 0, .int 0, .int 0, .int 0, .int (-1), .int (-1), .int 100, .int 100, .int 100, .int 5, .int 0, .int 0, .int 107]))] H := hP
  have hD : va_D A [(q, .inr (5, [.int p0, .int 0, .int 0, .int 0, .int 0, .int (-1), .int (-1), .int 100, .int 100, .int 100, .int 5, .int 0, .int 0, .int 107]))] := hD
  refine lv_aload_n hx hb dX0_init_48 rfl (lv_at hl 0 rfl) ?_
  refine lv_iload_n hx hb dX0_init_49 rfl (lv_at hl 1 rfl) ?_
  refine va_put (D := (dC, dI)) (ci := 5) (v := .int p0) (ty := .int) (C := RX0) (T := TX0) (N := 14) hx hb hts (by decide +kernel) tyX0 tyX0_ok nmX0 hown hK hP hD hS 0 rfl rfl 1 (by decide) (hts (.fieldLink RX0 37 "Gangline$Dog" "team" "I") (by decide +kernel)) (fun _ h9 => h9) rfl (by decide +kernel) rfl rfl (Nat.le_of_ble_eq_true rfl) dX0_init_50 (fun H locs hP hD hS => ?_)
  have hP : va_P (dC, dI) vwCl [(q, .inr (5, [.int p0, .int p0, .int 0, .int 0, .int 0, .int (-1), .int (-1), .int 100, .int 100, .int 100, .int 5, .int 0, .int 0, .int 107]))] H := hP
  have hD : va_D A [(q, .inr (5, [.int p0, .int p0, .int 0, .int 0, .int 0, .int (-1), .int (-1), .int 100, .int 100, .int 100, .int 5, .int 0, .int 0, .int 107]))] := hD
  refine lv_aload_n hx hb dX0_init_53 rfl (lv_at hl 0 rfl) ?_
  refine lv_iload_n hx hb dX0_init_54 rfl (lv_at hl 2 rfl) ?_
  refine va_put (D := (dC, dI)) (ci := 5) (v := .int p1) (ty := .int) (C := RX0) (T := TX0) (N := 14) hx hb hts (by decide +kernel) tyX0 tyX0_ok nmX0 hown hK hP hD hS 0 rfl rfl 2 (by decide) (hts (.fieldLink RX0 40 "Gangline$Dog" "strength" "I") (by decide +kernel)) (fun _ h9 => h9) rfl (by decide +kernel) rfl rfl (Nat.le_of_ble_eq_true rfl) dX0_init_55 (fun H locs hP hD hS => ?_)
  have hP : va_P (dC, dI) vwCl [(q, .inr (5, [.int p0, .int p0, .int p1, .int 0, .int 0, .int (-1), .int (-1), .int 100, .int 100, .int 100, .int 5, .int 0, .int 0, .int 107]))] H := hP
  have hD : va_D A [(q, .inr (5, [.int p0, .int p0, .int p1, .int 0, .int 0, .int (-1), .int (-1), .int 100, .int 100, .int 100, .int 5, .int 0, .int 0, .int 107]))] := hD
  refine lv_aload_n hx hb dX0_init_58 rfl (lv_at hl 0 rfl) ?_
  refine lv_iload_n hx hb dX0_init_59 rfl (lv_at hl 3 rfl) ?_
  refine va_put (D := (dC, dI)) (ci := 5) (v := .int p2) (ty := .int) (C := RX0) (T := TX0) (N := 14) hx hb hts (by decide +kernel) tyX0 tyX0_ok nmX0 hown hK hP hD hS 0 rfl rfl 3 (by decide) (hts (.fieldLink RX0 43 "Gangline$Dog" "lead" "I") (by decide +kernel)) (fun _ h9 => h9) rfl (by decide +kernel) rfl rfl (Nat.le_of_ble_eq_true rfl) dX0_init_60 (fun H locs hP hD hS => ?_)
  have hP : va_P (dC, dI) vwCl [(q, .inr (5, [.int p0, .int p0, .int p1, .int p2, .int 0, .int (-1), .int (-1), .int 100, .int 100, .int 100, .int 5, .int 0, .int 0, .int 107]))] H := hP
  have hD : va_D A [(q, .inr (5, [.int p0, .int p0, .int p1, .int p2, .int 0, .int (-1), .int (-1), .int 100, .int 100, .int 100, .int 5, .int 0, .int 0, .int 107]))] := hD
  refine lv_aload_n hx hb dX0_init_63 rfl (lv_at hl 0 rfl) ?_
  refine lv_iload hx hb dX0_init_64 (lv_at hl 4 rfl) ?_
  refine va_put (D := (dC, dI)) (ci := 5) (v := .int p3) (ty := .int) (C := RX0) (T := TX0) (N := 14) hx hb hts (by decide +kernel) tyX0 tyX0_ok nmX0 hown hK hP hD hS 0 rfl rfl 4 (by decide) (hts (.fieldLink RX0 46 "Gangline$Dog" "age" "I") (by decide +kernel)) (fun _ h9 => h9) rfl (by decide +kernel) rfl rfl (Nat.le_of_ble_eq_true rfl) dX0_init_66 (fun H locs hP hD hS => ?_)
  have hP : va_P (dC, dI) vwCl [(q, .inr (5, [.int p0, .int p0, .int p1, .int p2, .int p3, .int (-1), .int (-1), .int 100, .int 100, .int 100, .int 5, .int 0, .int 0, .int 107]))] H := hP
  have hD : va_D A [(q, .inr (5, [.int p0, .int p0, .int p1, .int p2, .int p3, .int (-1), .int (-1), .int 100, .int 100, .int 100, .int 5, .int 0, .int 0, .int 107]))] := hD
  have hP9 := hP.sub (ws' := [(q, .inr (5, [.int p0, .int p0, .int p1, .int p2, .int p3, .int (-1), .int (-1), .int 100, .int 100, .int 100, .int 5, .int 0, .int 0, .int 107]))]) [0] rfl
  have hD9 := hD.sub (ws' := [(q, .inr (5, [.int p0, .int p0, .int p1, .int p2, .int p3, .int (-1), .int (-1), .int 100, .int 100, .int 100, .int 5, .int 0, .int 0, .int 107]))]) [0] (by decide) rfl
  have hK9 := hK.sub (tys' := []) [] rfl
  exact W.vret hx hb hr (fun t ht hW => ⟨⟨(), rfl, trivial, ⟨by rw [ht]; exact hP9, va_K.moved hW.alike hK9, hD9⟩⟩, hS.F ht⟩) hS.2.2 dX0_init_69

theorem dX3_init_0 : decode cX3_init 0 = .ok (.aload_n 0, 1) := by decide +kernel
theorem dX3_init_1 : decode cX3_init 1 = .ok (.invokespecial 3, 3) := by decide +kernel
theorem dX3_init_4 : decode cX3_init 4 = .ok (.aload_n 0, 1) := by decide +kernel
theorem dX3_init_5 : decode cX3_init 5 = .ok (.bipush 12, 2) := by decide +kernel
theorem dX3_init_7 : decode cX3_init 7 = .ok (.newarray .char, 2) := by decide +kernel
theorem dX3_init_9 : decode cX3_init 9 = .ok (.putfield 9, 3) := by decide +kernel
theorem dX3_init_12 : decode cX3_init 12 = .ok (.aload_n 0, 1) := by decide +kernel
theorem dX3_init_13 : decode cX3_init 13 = .ok (.bipush 12, 2) := by decide +kernel
theorem dX3_init_15 : decode cX3_init 15 = .ok (.newarray .int, 2) := by decide +kernel
theorem dX3_init_17 : decode cX3_init 17 = .ok (.putfield 15, 3) := by decide +kernel
theorem dX3_init_20 : decode cX3_init 20 = .ok (.return_, 1) := by decide +kernel
set_option maxHeartbeats 4000000 in
set_option maxRecDepth 100000 in
theorem c_X3_init (l : Launch) (htr : l.stackTraces = false) (dC : Nat → ClassId) (dI : Nat → Nat → Nat) (e0 sz : Nat) (q : Nat) : Met l yX3_init wsX3_init ({ frames := 1, cells := 2, slots := 24, locals := 12 }) (va_Pc [.ref q] (fun U => U.heap.size = sz ∧ va_P (dC, dI) vwCl [(q, .inr (8, [.null, .null, .int 0]))] U.heap ∧ va_K (dC, dI) vwCl [] U ∧ va_D (fun _ => True) [(q, .inr (8, [.null, .null, .int 0]))])) (va_Qv (fun _ : Unit => True) (fun _ t => ∃ (w1 : Nat), ∃ (w2 : Nat), va_P (dC, dI) vwCl [(q, .inr (8, [.ref w1, .ref w2, .int 0]))] t.heap ∧ va_K (dC, dI) vwCl [] t ∧ va_D (va_A [(q, .inr (8, [.null, .null, .int 0]))] sz) [(q, .inr (8, [.ref w1, .ref w2, .int 0]))]) (va_A [(q, .inr (8, [.null, .null, .int 0]))] sz)) 2 24 (va_A [(q, .inr (8, [.null, .null, .int 0]))] sz) := by
  refine Met.ofW (cc := cX3_init) (maxL := 1) (ret := none) (by decide) rfl ?_
  intro p e s m args below meth c s₁ B hml hv
  obtain ⟨rfl, hsz, hP, hK, hD0⟩ := hv
  have hx := B.exec
  have hb := B.bytes
  have hr := B.returns
  have hts := atoms_spec (ws := wsX3_init) B.pre
  have hown : s.vm.findClass RX3 = some m.cls := findClass_of_methodNamed B.named
  have hlocks := B.notSynchronized
  have hin : meth.name = "<init>" := (name_of_methodNamed B.named B.method).1
  subst hsz
  have hD := hD0.self (sz := s.heap.size)
  generalize hAe : va_A [(q, .inr (8, [.null, .null, .int 0]))] s.heap.size = A at hD ⊢
  have hA : ∀ q : Nat, s.heap.size ≤ q → A q := fun q h => by rw [← hAe]; exact Or.inr h
  have hS : va_S A s.heap s.heap [] := va_S.rf
  have hl := lv_entry ([.ref q]) (n := 1) (Nat.le_of_ble_eq_true rfl)
  rw [lg_entry_eq]
  generalize (lg_sl ([.ref q]) ++ List.replicate (1 - (lg_sl ([.ref q])).length) Slot.unset).toArray = ls at hl ⊢
  have hl : lv_has ls 1 [(0, .ref q)] := hl
  refine lv_aload_n hx hb dX3_init_0 rfl (lv_at hl 0 rfl) ?_
  refine W.objInit hx hb hown (hts (.methodLink RX3 3 objectInit) (by decide +kernel)) (hts (.instanceMethod objectInit) (by decide +kernel)) (hts (.code objectInit ⟨#[0xb1]⟩ 1 none) (by decide +kernel)) rfl (by rw [hml]; exact hl.1) rfl dX3_init_1 (Nat.le_of_ble_eq_true rfl) (Nat.le_of_ble_eq_true rfl) ?_
  refine W.eq (g2 := F0 m 4 ls []) rfl ?_
  refine lv_aload_n hx hb dX3_init_4 rfl (lv_at hl 0 rfl) ?_
  refine lv_bipush (v := 12) hx hb dX3_init_5 (by decide) ?_
  refine va_newa (atype := .char) (ty := .char) (N' := 12) (a0 := (12, .inl (fun _ => 0))) hx hb (hts (.arrayClass .char) (by decide +kernel)) rfl hK hP hD hS hA (fun _ => rfl) (by decide) (by decide) (by decide) (Nat.le_of_ble_eq_true rfl) (Nat.le_of_ble_eq_true rfl) dX3_init_7 (fun q1 k2 H hK hP hD hS => ?_)
  have hK : va_K (dC, dI) vwCl [(k2, .char)] s := hK
  have hP : va_P (dC, dI) vwCl [(q, .inr (8, [.null, .null, .int 0])), (q1, .inl (k2, 12, .inl (fun _ => 0)))] H := hP
  have hD : va_D A [(q, .inr (8, [.null, .null, .int 0])), (q1, .inl (k2, 12, .inl (fun _ => 0)))] := hD
  refine W.widen (k := 1) (n := 12) (by decide) (by decide) ?_
  refine va_putF (D := (dC, dI)) (ci := 8) (v := .ref q1) (ty := (.array .char)) (C := RX3) (T := TX3) (N := 3) hx hb hts (by decide +kernel) tyX3 tyX3_ok nmX3 hown hK hP hD hS 0 rfl rfl 0 (by decide) (hts (.fieldLink RX3 9 "Gangline$Plan" "kinds" "[C") (by decide +kernel)) (fun _ h9 => h9) rfl hin rfl (by decide +kernel) rfl rfl (Nat.le_of_ble_eq_true rfl) dX3_init_9 (fun H locs hP hD hS => ?_)
  have hP : va_P (dC, dI) vwCl [(q, .inr (8, [.ref q1, .null, .int 0])), (q1, .inl (k2, 12, .inl (fun _ => 0)))] H := hP
  have hD : va_D A [(q, .inr (8, [.ref q1, .null, .int 0])), (q1, .inl (k2, 12, .inl (fun _ => 0)))] := hD
  refine lv_aload_n hx hb dX3_init_12 rfl (lv_at hl 0 rfl) ?_
  refine lv_bipush (v := 12) hx hb dX3_init_13 (by decide) ?_
  refine va_newa (atype := .int) (ty := .int) (N' := 12) (a0 := (12, .inl (fun _ => 0))) hx hb (hts (.arrayClass .int) (by decide +kernel)) rfl hK hP hD hS hA (fun _ => rfl) (by decide) (by decide) (by decide) (Nat.le_of_ble_eq_true rfl) (Nat.le_of_ble_eq_true rfl) dX3_init_15 (fun q3 k4 H hK hP hD hS => ?_)
  have hK : va_K (dC, dI) vwCl [(k2, .char), (k4, .int)] s := hK
  have hP : va_P (dC, dI) vwCl [(q, .inr (8, [.ref q1, .null, .int 0])), (q1, .inl (k2, 12, .inl (fun _ => 0))), (q3, .inl (k4, 12, .inl (fun _ => 0)))] H := hP
  have hD : va_D A [(q, .inr (8, [.ref q1, .null, .int 0])), (q1, .inl (k2, 12, .inl (fun _ => 0))), (q3, .inl (k4, 12, .inl (fun _ => 0)))] := hD
  refine W.widen (k := 2) (n := 24) (by decide) (by decide) ?_
  refine va_putF (D := (dC, dI)) (ci := 8) (v := .ref q3) (ty := (.array .int)) (C := RX3) (T := TX3) (N := 3) hx hb hts (by decide +kernel) tyX3 tyX3_ok nmX3 hown hK hP hD hS 0 rfl rfl 1 (by decide) (hts (.fieldLink RX3 15 "Gangline$Plan" "numbers" "[I") (by decide +kernel)) (fun _ h9 => h9) rfl hin rfl (by decide +kernel) rfl rfl (Nat.le_of_ble_eq_true rfl) dX3_init_17 (fun H locs hP hD hS => ?_)
  have hP : va_P (dC, dI) vwCl [(q, .inr (8, [.ref q1, .ref q3, .int 0])), (q1, .inl (k2, 12, .inl (fun _ => 0))), (q3, .inl (k4, 12, .inl (fun _ => 0)))] H := hP
  have hD : va_D A [(q, .inr (8, [.ref q1, .ref q3, .int 0])), (q1, .inl (k2, 12, .inl (fun _ => 0))), (q3, .inl (k4, 12, .inl (fun _ => 0)))] := hD
  have hP9 := hP.sub (ws' := [(q, .inr (8, [.ref q1, .ref q3, .int 0]))]) [0] rfl
  have hD9 := hD.sub (ws' := [(q, .inr (8, [.ref q1, .ref q3, .int 0]))]) [0] (by decide) rfl
  have hK9 := hK.sub (tys' := []) [] rfl
  exact W.vret hx hb hr (fun t ht hW => ⟨⟨(), rfl, trivial, ⟨q1, q3, by rw [ht]; exact hP9, va_K.moved hW.alike hK9, hD9⟩⟩, hS.F ht⟩) hS.2.2 dX3_init_20

theorem dX2_startOver_0 : decode cX2_startOver 0 = .ok (.aload_n 0, 1) := by decide +kernel
theorem dX2_startOver_1 : decode cX2_startOver 1 = .ok (.bipush 45, 2) := by decide +kernel
theorem dX2_startOver_3 : decode cX2_startOver 3 = .ok (.putfield 24, 3) := by decide +kernel
theorem dX2_startOver_6 : decode cX2_startOver 6 = .ok (.aload_n 0, 1) := by decide +kernel
theorem dX2_startOver_7 : decode cX2_startOver 7 = .ok (.iconst 0, 1) := by decide +kernel
theorem dX2_startOver_8 : decode cX2_startOver 8 = .ok (.putfield 28, 3) := by decide +kernel
theorem dX2_startOver_11 : decode cX2_startOver 11 = .ok (.aload_n 0, 1) := by decide +kernel
theorem dX2_startOver_12 : decode cX2_startOver 12 = .ok (.iconst 0, 1) := by decide +kernel
theorem dX2_startOver_13 : decode cX2_startOver 13 = .ok (.putfield 32, 3) := by decide +kernel
theorem dX2_startOver_16 : decode cX2_startOver 16 = .ok (.aload_n 0, 1) := by decide +kernel
theorem dX2_startOver_17 : decode cX2_startOver 17 = .ok (.iconst 0, 1) := by decide +kernel
theorem dX2_startOver_18 : decode cX2_startOver 18 = .ok (.putfield 35, 3) := by decide +kernel
theorem dX2_startOver_21 : decode cX2_startOver 21 = .ok (.aload_n 0, 1) := by decide +kernel
theorem dX2_startOver_22 : decode cX2_startOver 22 = .ok (.iconst 0, 1) := by decide +kernel
theorem dX2_startOver_23 : decode cX2_startOver 23 = .ok (.putfield 38, 3) := by decide +kernel
theorem dX2_startOver_26 : decode cX2_startOver 26 = .ok (.aload_n 0, 1) := by decide +kernel
theorem dX2_startOver_27 : decode cX2_startOver 27 = .ok (.bipush 100, 2) := by decide +kernel
theorem dX2_startOver_29 : decode cX2_startOver 29 = .ok (.putfield 41, 3) := by decide +kernel
theorem dX2_startOver_32 : decode cX2_startOver 32 = .ok (.aload_n 0, 1) := by decide +kernel
theorem dX2_startOver_33 : decode cX2_startOver 33 = .ok (.iconst 0, 1) := by decide +kernel
theorem dX2_startOver_34 : decode cX2_startOver 34 = .ok (.putfield 44, 3) := by decide +kernel
theorem dX2_startOver_37 : decode cX2_startOver 37 = .ok (.aload_n 0, 1) := by decide +kernel
theorem dX2_startOver_38 : decode cX2_startOver 38 = .ok (.iconst 3, 1) := by decide +kernel
theorem dX2_startOver_39 : decode cX2_startOver 39 = .ok (.putfield 47, 3) := by decide +kernel
theorem dX2_startOver_42 : decode cX2_startOver 42 = .ok (.aload_n 0, 1) := by decide +kernel
theorem dX2_startOver_43 : decode cX2_startOver 43 = .ok (.bipush 6, 2) := by decide +kernel
theorem dX2_startOver_45 : decode cX2_startOver 45 = .ok (.putfield 50, 3) := by decide +kernel
theorem dX2_startOver_48 : decode cX2_startOver 48 = .ok (.aload_n 0, 1) := by decide +kernel
theorem dX2_startOver_49 : decode cX2_startOver 49 = .ok (.iconst 0, 1) := by decide +kernel
theorem dX2_startOver_50 : decode cX2_startOver 50 = .ok (.putfield 53, 3) := by decide +kernel
theorem dX2_startOver_53 : decode cX2_startOver 53 = .ok (.aload_n 0, 1) := by decide +kernel
theorem dX2_startOver_54 : decode cX2_startOver 54 = .ok (.iconst 2, 1) := by decide +kernel
theorem dX2_startOver_55 : decode cX2_startOver 55 = .ok (.putfield 57, 3) := by decide +kernel
theorem dX2_startOver_58 : decode cX2_startOver 58 = .ok (.aload_n 0, 1) := by decide +kernel
theorem dX2_startOver_59 : decode cX2_startOver 59 = .ok (.iconst 0, 1) := by decide +kernel
theorem dX2_startOver_60 : decode cX2_startOver 60 = .ok (.putfield 60, 3) := by decide +kernel
theorem dX2_startOver_63 : decode cX2_startOver 63 = .ok (.aload_n 0, 1) := by decide +kernel
theorem dX2_startOver_64 : decode cX2_startOver 64 = .ok (.iconst 0, 1) := by decide +kernel
theorem dX2_startOver_65 : decode cX2_startOver 65 = .ok (.putfield 63, 3) := by decide +kernel
theorem dX2_startOver_68 : decode cX2_startOver 68 = .ok (.aload_n 0, 1) := by decide +kernel
theorem dX2_startOver_69 : decode cX2_startOver 69 = .ok (.iconst 0, 1) := by decide +kernel
theorem dX2_startOver_70 : decode cX2_startOver 70 = .ok (.putfield 66, 3) := by decide +kernel
theorem dX2_startOver_73 : decode cX2_startOver 73 = .ok (.aload_n 0, 1) := by decide +kernel
theorem dX2_startOver_74 : decode cX2_startOver 74 = .ok (.iconst 0, 1) := by decide +kernel
theorem dX2_startOver_75 : decode cX2_startOver 75 = .ok (.putfield 69, 3) := by decide +kernel
theorem dX2_startOver_78 : decode cX2_startOver 78 = .ok (.iconst 0, 1) := by decide +kernel
theorem dX2_startOver_79 : decode cX2_startOver 79 = .ok (.istore_n 1, 1) := by decide +kernel
theorem dX2_startOver_80 : decode cX2_startOver 80 = .ok (.iload_n 1, 1) := by decide +kernel
theorem dX2_startOver_81 : decode cX2_startOver 81 = .ok (.bipush 10, 2) := by decide +kernel
theorem dX2_startOver_83 : decode cX2_startOver 83 = .ok (.if_icmp .ge 16, 3) := by decide +kernel
theorem dX2_startOver_86 : decode cX2_startOver 86 = .ok (.aload_n 0, 1) := by decide +kernel
theorem dX2_startOver_87 : decode cX2_startOver 87 = .ok (.getfield 9, 3) := by decide +kernel
theorem dX2_startOver_90 : decode cX2_startOver 90 = .ok (.iload_n 1, 1) := by decide +kernel
theorem dX2_startOver_91 : decode cX2_startOver 91 = .ok (.iconst 0, 1) := by decide +kernel
theorem dX2_startOver_92 : decode cX2_startOver 92 = .ok (.iastore, 1) := by decide +kernel
theorem dX2_startOver_93 : decode cX2_startOver 93 = .ok (.iinc 1 1, 3) := by decide +kernel
theorem dX2_startOver_96 : decode cX2_startOver 96 = .ok (.goto (-16), 3) := by decide +kernel
theorem dX2_startOver_99 : decode cX2_startOver 99 = .ok (.iconst 0, 1) := by decide +kernel
theorem dX2_startOver_100 : decode cX2_startOver 100 = .ok (.istore_n 1, 1) := by decide +kernel
theorem dX2_startOver_101 : decode cX2_startOver 101 = .ok (.iload_n 1, 1) := by decide +kernel
theorem dX2_startOver_102 : decode cX2_startOver 102 = .ok (.bipush 14, 2) := by decide +kernel
theorem dX2_startOver_104 : decode cX2_startOver 104 = .ok (.if_icmp .ge 16, 3) := by decide +kernel
theorem dX2_startOver_107 : decode cX2_startOver 107 = .ok (.aload_n 0, 1) := by decide +kernel
theorem dX2_startOver_108 : decode cX2_startOver 108 = .ok (.getfield 17, 3) := by decide +kernel
theorem dX2_startOver_111 : decode cX2_startOver 111 = .ok (.iload_n 1, 1) := by decide +kernel
theorem dX2_startOver_112 : decode cX2_startOver 112 = .ok (.aconst_null, 1) := by decide +kernel
theorem dX2_startOver_113 : decode cX2_startOver 113 = .ok (.aastore, 1) := by decide +kernel
theorem dX2_startOver_114 : decode cX2_startOver 114 = .ok (.iinc 1 1, 3) := by decide +kernel
theorem dX2_startOver_117 : decode cX2_startOver 117 = .ok (.goto (-16), 3) := by decide +kernel
theorem dX2_startOver_120 : decode cX2_startOver 120 = .ok (.return_, 1) := by decide +kernel
set_option maxHeartbeats 4000000 in
set_option maxRecDepth 100000 in
theorem c_X2_startOver (l : Launch) (htr : l.stackTraces = false) (dC : Nat → ClassId) (dI : Nat → Nat → Nat) (e0 sz : Nat) (q : Nat) (s1 : Nat) (k1 : Nat) (cS : ClassId) (cP : ClassId) (f : Nat → Int32) (g : Nat → Option Nat) : Met l yX2_startOver wsX2_startOver ({ frames := 0, cells := 0, slots := 0, locals := 0 }) (va_Pc [.ref q] (fun U => U.heap.size = sz ∧ va_P (dC, dI) vwCl [(q, .inr (7, [.int 0, .int 0, .int 0, .int 0, .int 0, .int 0, .int 0, .int 0, .int 0, .int 0, .int 0, .int 0, .int 0, .int 0, .ref s1, .ref k1, .int 0])), (s1, .inl (cS, 10, .inl f)), (k1, .inl (cP, 14, .inr (.inr (.inr (.inr g)))))] U.heap ∧ va_K (dC, dI) vwCl [(cS, .int), (cP, (.object RX0))] U ∧ va_D (fun _ => True) [(q, .inr (7, [.int 0, .int 0, .int 0, .int 0, .int 0, .int 0, .int 0, .int 0, .int 0, .int 0, .int 0, .int 0, .int 0, .int 0, .ref s1, .ref k1, .int 0])), (s1, .inl (cS, 10, .inl f)), (k1, .inl (cP, 14, .inr (.inr (.inr (.inr g)))))])) (va_Qv (fun _ : Unit => True) (fun _ t => ∃ (g2 : Nat → Option Nat), va_P (dC, dI) vwCl [(q, .inr (7, [.int 45, .int 0, .int 0, .int 0, .int 0, .int 100, .int 0, .int 3, .int 6, .int 0, .int 2, .int 0, .int 0, .int 0, .ref s1, .ref k1, .int 0])), (k1, .inl (cP, 14, .inr (.inr (.inr (.inr g2)))))] t.heap ∧ va_K (dC, dI) vwCl [(cS, .int), (cP, (.object RX0))] t ∧ va_D (va_A [(q, .inr (7, [.int 0, .int 0, .int 0, .int 0, .int 0, .int 0, .int 0, .int 0, .int 0, .int 0, .int 0, .int 0, .int 0, .int 0, .ref s1, .ref k1, .int 0])), (s1, .inl (cS, 10, .inl f)), (k1, .inl (cP, 14, .inr (.inr (.inr (.inr g)))))] sz) [(q, .inr (7, [.int 45, .int 0, .int 0, .int 0, .int 0, .int 100, .int 0, .int 3, .int 6, .int 0, .int 2, .int 0, .int 0, .int 0, .ref s1, .ref k1, .int 0])), (k1, .inl (cP, 14, .inr (.inr (.inr (.inr g2)))))]) (va_A [(q, .inr (7, [.int 0, .int 0, .int 0, .int 0, .int 0, .int 0, .int 0, .int 0, .int 0, .int 0, .int 0, .int 0, .int 0, .int 0, .ref s1, .ref k1, .int 0])), (s1, .inl (cS, 10, .inl f)), (k1, .inl (cP, 14, .inr (.inr (.inr (.inr g)))))] sz)) 0 0 (va_A [(q, .inr (7, [.int 0, .int 0, .int 0, .int 0, .int 0, .int 0, .int 0, .int 0, .int 0, .int 0, .int 0, .int 0, .int 0, .int 0, .ref s1, .ref k1, .int 0])), (s1, .inl (cS, 10, .inl f)), (k1, .inl (cP, 14, .inr (.inr (.inr (.inr g)))))] sz) := by
  refine Met.ofW (cc := cX2_startOver) (maxL := 2) (ret := none) (by decide) rfl ?_
  intro p e s m args below meth c s₁ B hml hv
  obtain ⟨rfl, hsz, hP, hK, hD0⟩ := hv
  have hx := B.exec
  have hb := B.bytes
  have hr := B.returns
  have hts := atoms_spec (ws := wsX2_startOver) B.pre
  have hown : s.vm.findClass RX2 = some m.cls := findClass_of_methodNamed B.named
  have hlocks := B.notSynchronized
  subst hsz
  have hD := hD0.self (sz := s.heap.size)
  generalize hAe : va_A [(q, .inr (7, [.int 0, .int 0, .int 0, .int 0, .int 0, .int 0, .int 0, .int 0, .int 0, .int 0, .int 0, .int 0, .int 0, .int 0, .ref s1, .ref k1, .int 0])), (s1, .inl (cS, 10, .inl f)), (k1, .inl (cP, 14, .inr (.inr (.inr (.inr g)))))] s.heap.size = A at hD ⊢
  have hA : ∀ q : Nat, s.heap.size ≤ q → A q := fun q h => by rw [← hAe]; exact Or.inr h
  have hS : va_S A s.heap s.heap [] := va_S.rf
  have hl := lv_entry ([.ref q]) (n := 2) (Nat.le_of_ble_eq_true rfl)
  rw [lg_entry_eq]
  generalize (lg_sl ([.ref q]) ++ List.replicate (2 - (lg_sl ([.ref q])).length) Slot.unset).toArray = ls at hl ⊢
  have hl : lv_has ls 2 [(0, .ref q)] := hl
  refine lv_aload_n hx hb dX2_startOver_0 rfl (lv_at hl 0 rfl) ?_
  refine lv_bipush (v := 45) hx hb dX2_startOver_1 (by decide) ?_
  refine va_put (D := (dC, dI)) (ci := 7) (v := .int 45) (ty := .char) (C := RX2) (T := TX2) (N := 17) hx hb hts (by decide +kernel) tyX2 tyX2_ok nmX2 hown hK hP hD hS 0 rfl rfl 0 (by decide) (hts (.fieldLink RX2 24 "Gangline$Party" "race" "C") (by decide +kernel)) (fun _ h9 => h9) rfl (by decide +kernel) (by decide) (by decide) (Nat.le_of_ble_eq_true rfl) dX2_startOver_3 (fun H locs hP hD hS => ?_)
  have hP : va_P (dC, dI) vwCl [(q, .inr (7, [.int 45, .int 0, .int 0, .int 0, .int 0, .int 0, .int 0, .int 0, .int 0, .int 0, .int 0, .int 0, .int 0, .int 0, .ref s1, .ref k1, .int 0])), (s1, .inl (cS, 10, .inl f)), (k1, .inl (cP, 14, .inr (.inr (.inr (.inr g)))))] H := hP
  have hD : va_D A [(q, .inr (7, [.int 45, .int 0, .int 0, .int 0, .int 0, .int 0, .int 0, .int 0, .int 0, .int 0, .int 0, .int 0, .int 0, .int 0, .ref s1, .ref k1, .int 0])), (s1, .inl (cS, 10, .inl f)), (k1, .inl (cP, 14, .inr (.inr (.inr (.inr g)))))] := hD
  refine lv_aload_n hx hb dX2_startOver_6 rfl (lv_at hl 0 rfl) ?_
  refine lv_iconst (v := 0) hx hb dX2_startOver_7 (by decide) ?_
  refine va_put (D := (dC, dI)) (ci := 7) (v := .int 0) (ty := .int) (C := RX2) (T := TX2) (N := 17) hx hb hts (by decide +kernel) tyX2 tyX2_ok nmX2 hown hK hP hD hS 0 rfl rfl 1 (by decide) (hts (.fieldLink RX2 28 "Gangline$Party" "beganAt" "I") (by decide +kernel)) (fun _ h9 => h9) rfl (by decide +kernel) rfl rfl (Nat.le_of_ble_eq_true rfl) dX2_startOver_8 (fun H locs hP hD hS => ?_)
  have hP : va_P (dC, dI) vwCl [(q, .inr (7, [.int 45, .int 0, .int 0, .int 0, .int 0, .int 0, .int 0, .int 0, .int 0, .int 0, .int 0, .int 0, .int 0, .int 0, .ref s1, .ref k1, .int 0])), (s1, .inl (cS, 10, .inl f)), (k1, .inl (cP, 14, .inr (.inr (.inr (.inr g)))))] H := hP
  have hD : va_D A [(q, .inr (7, [.int 45, .int 0, .int 0, .int 0, .int 0, .int 0, .int 0, .int 0, .int 0, .int 0, .int 0, .int 0, .int 0, .int 0, .ref s1, .ref k1, .int 0])), (s1, .inl (cS, 10, .inl f)), (k1, .inl (cP, 14, .inr (.inr (.inr (.inr g)))))] := hD
  refine lv_aload_n hx hb dX2_startOver_11 rfl (lv_at hl 0 rfl) ?_
  refine lv_iconst (v := 0) hx hb dX2_startOver_12 (by decide) ?_
  refine va_put (D := (dC, dI)) (ci := 7) (v := .int 0) (ty := .int) (C := RX2) (T := TX2) (N := 17) hx hb hts (by decide +kernel) tyX2 tyX2_ok nmX2 hown hK hP hD hS 0 rfl rfl 2 (by decide) (hts (.fieldLink RX2 32 "Gangline$Party" "minute" "I") (by decide +kernel)) (fun _ h9 => h9) rfl (by decide +kernel) rfl rfl (Nat.le_of_ble_eq_true rfl) dX2_startOver_13 (fun H locs hP hD hS => ?_)
  have hP : va_P (dC, dI) vwCl [(q, .inr (7, [.int 45, .int 0, .int 0, .int 0, .int 0, .int 0, .int 0, .int 0, .int 0, .int 0, .int 0, .int 0, .int 0, .int 0, .ref s1, .ref k1, .int 0])), (s1, .inl (cS, 10, .inl f)), (k1, .inl (cP, 14, .inr (.inr (.inr (.inr g)))))] H := hP
  have hD : va_D A [(q, .inr (7, [.int 45, .int 0, .int 0, .int 0, .int 0, .int 0, .int 0, .int 0, .int 0, .int 0, .int 0, .int 0, .int 0, .int 0, .ref s1, .ref k1, .int 0])), (s1, .inl (cS, 10, .inl f)), (k1, .inl (cP, 14, .inr (.inr (.inr (.inr g)))))] := hD
  refine lv_aload_n hx hb dX2_startOver_16 rfl (lv_at hl 0 rfl) ?_
  refine lv_iconst (v := 0) hx hb dX2_startOver_17 (by decide) ?_
  refine va_put (D := (dC, dI)) (ci := 7) (v := .int 0) (ty := .int) (C := RX2) (T := TX2) (N := 17) hx hb hts (by decide +kernel) tyX2 tyX2_ok nmX2 hown hK hP hD hS 0 rfl rfl 3 (by decide) (hts (.fieldLink RX2 35 "Gangline$Party" "checkpoint" "I") (by decide +kernel)) (fun _ h9 => h9) rfl (by decide +kernel) rfl rfl (Nat.le_of_ble_eq_true rfl) dX2_startOver_18 (fun H locs hP hD hS => ?_)
  have hP : va_P (dC, dI) vwCl [(q, .inr (7, [.int 45, .int 0, .int 0, .int 0, .int 0, .int 0, .int 0, .int 0, .int 0, .int 0, .int 0, .int 0, .int 0, .int 0, .ref s1, .ref k1, .int 0])), (s1, .inl (cS, 10, .inl f)), (k1, .inl (cP, 14, .inr (.inr (.inr (.inr g)))))] H := hP
  have hD : va_D A [(q, .inr (7, [.int 45, .int 0, .int 0, .int 0, .int 0, .int 0, .int 0, .int 0, .int 0, .int 0, .int 0, .int 0, .int 0, .int 0, .ref s1, .ref k1, .int 0])), (s1, .inl (cS, 10, .inl f)), (k1, .inl (cP, 14, .inr (.inr (.inr (.inr g)))))] := hD
  refine lv_aload_n hx hb dX2_startOver_21 rfl (lv_at hl 0 rfl) ?_
  refine lv_iconst (v := 0) hx hb dX2_startOver_22 (by decide) ?_
  refine va_put (D := (dC, dI)) (ci := 7) (v := .int 0) (ty := .int) (C := RX2) (T := TX2) (N := 17) hx hb hts (by decide +kernel) tyX2 tyX2_ok nmX2 hown hK hP hD hS 0 rfl rfl 4 (by decide) (hts (.fieldLink RX2 38 "Gangline$Party" "kilos" "I") (by decide +kernel)) (fun _ h9 => h9) rfl (by decide +kernel) rfl rfl (Nat.le_of_ble_eq_true rfl) dX2_startOver_23 (fun H locs hP hD hS => ?_)
  have hP : va_P (dC, dI) vwCl [(q, .inr (7, [.int 45, .int 0, .int 0, .int 0, .int 0, .int 0, .int 0, .int 0, .int 0, .int 0, .int 0, .int 0, .int 0, .int 0, .ref s1, .ref k1, .int 0])), (s1, .inl (cS, 10, .inl f)), (k1, .inl (cP, 14, .inr (.inr (.inr (.inr g)))))] H := hP
  have hD : va_D A [(q, .inr (7, [.int 45, .int 0, .int 0, .int 0, .int 0, .int 0, .int 0, .int 0, .int 0, .int 0, .int 0, .int 0, .int 0, .int 0, .ref s1, .ref k1, .int 0])), (s1, .inl (cS, 10, .inl f)), (k1, .inl (cP, 14, .inr (.inr (.inr (.inr g)))))] := hD
  refine lv_aload_n hx hb dX2_startOver_26 rfl (lv_at hl 0 rfl) ?_
  refine lv_bipush (v := 100) hx hb dX2_startOver_27 (by decide) ?_
  refine va_put (D := (dC, dI)) (ci := 7) (v := .int 100) (ty := .int) (C := RX2) (T := TX2) (N := 17) hx hb hts (by decide +kernel) tyX2 tyX2_ok nmX2 hown hK hP hD hS 0 rfl rfl 5 (by decide) (hts (.fieldLink RX2 41 "Gangline$Party" "sleep" "I") (by decide +kernel)) (fun _ h9 => h9) rfl (by decide +kernel) rfl rfl (Nat.le_of_ble_eq_true rfl) dX2_startOver_29 (fun H locs hP hD hS => ?_)
  have hP : va_P (dC, dI) vwCl [(q, .inr (7, [.int 45, .int 0, .int 0, .int 0, .int 0, .int 100, .int 0, .int 0, .int 0, .int 0, .int 0, .int 0, .int 0, .int 0, .ref s1, .ref k1, .int 0])), (s1, .inl (cS, 10, .inl f)), (k1, .inl (cP, 14, .inr (.inr (.inr (.inr g)))))] H := hP
  have hD : va_D A [(q, .inr (7, [.int 45, .int 0, .int 0, .int 0, .int 0, .int 100, .int 0, .int 0, .int 0, .int 0, .int 0, .int 0, .int 0, .int 0, .ref s1, .ref k1, .int 0])), (s1, .inl (cS, 10, .inl f)), (k1, .inl (cP, 14, .inr (.inr (.inr (.inr g)))))] := hD
  refine lv_aload_n hx hb dX2_startOver_32 rfl (lv_at hl 0 rfl) ?_
  refine lv_iconst (v := 0) hx hb dX2_startOver_33 (by decide) ?_
  refine va_put (D := (dC, dI)) (ci := 7) (v := .int 0) (ty := .int) (C := RX2) (T := TX2) (N := 17) hx hb hts (by decide +kernel) tyX2 tyX2_ok nmX2 hown hK hP hD hS 0 rfl rfl 6 (by decide) (hts (.fieldLink RX2 44 "Gangline$Party" "breaks" "I") (by decide +kernel)) (fun _ h9 => h9) rfl (by decide +kernel) rfl rfl (Nat.le_of_ble_eq_true rfl) dX2_startOver_34 (fun H locs hP hD hS => ?_)
  have hP : va_P (dC, dI) vwCl [(q, .inr (7, [.int 45, .int 0, .int 0, .int 0, .int 0, .int 100, .int 0, .int 0, .int 0, .int 0, .int 0, .int 0, .int 0, .int 0, .ref s1, .ref k1, .int 0])), (s1, .inl (cS, 10, .inl f)), (k1, .inl (cP, 14, .inr (.inr (.inr (.inr g)))))] H := hP
  have hD : va_D A [(q, .inr (7, [.int 45, .int 0, .int 0, .int 0, .int 0, .int 100, .int 0, .int 0, .int 0, .int 0, .int 0, .int 0, .int 0, .int 0, .ref s1, .ref k1, .int 0])), (s1, .inl (cS, 10, .inl f)), (k1, .inl (cP, 14, .inr (.inr (.inr (.inr g)))))] := hD
  refine lv_aload_n hx hb dX2_startOver_37 rfl (lv_at hl 0 rfl) ?_
  refine lv_iconst (v := 3) hx hb dX2_startOver_38 (by decide) ?_
  refine va_put (D := (dC, dI)) (ci := 7) (v := .int 3) (ty := .int) (C := RX2) (T := TX2) (N := 17) hx hb hts (by decide +kernel) tyX2 tyX2_ok nmX2 hown hK hP hD hS 0 rfl rfl 7 (by decide) (hts (.fieldLink RX2 47 "Gangline$Party" "parts" "I") (by decide +kernel)) (fun _ h9 => h9) rfl (by decide +kernel) rfl rfl (Nat.le_of_ble_eq_true rfl) dX2_startOver_39 (fun H locs hP hD hS => ?_)
  have hP : va_P (dC, dI) vwCl [(q, .inr (7, [.int 45, .int 0, .int 0, .int 0, .int 0, .int 100, .int 0, .int 3, .int 0, .int 0, .int 0, .int 0, .int 0, .int 0, .ref s1, .ref k1, .int 0])), (s1, .inl (cS, 10, .inl f)), (k1, .inl (cP, 14, .inr (.inr (.inr (.inr g)))))] H := hP
  have hD : va_D A [(q, .inr (7, [.int 45, .int 0, .int 0, .int 0, .int 0, .int 100, .int 0, .int 3, .int 0, .int 0, .int 0, .int 0, .int 0, .int 0, .ref s1, .ref k1, .int 0])), (s1, .inl (cS, 10, .inl f)), (k1, .inl (cP, 14, .inr (.inr (.inr (.inr g)))))] := hD
  refine lv_aload_n hx hb dX2_startOver_42 rfl (lv_at hl 0 rfl) ?_
  refine lv_bipush (v := 6) hx hb dX2_startOver_43 (by decide) ?_
  refine va_put (D := (dC, dI)) (ci := 7) (v := .int 6) (ty := .int) (C := RX2) (T := TX2) (N := 17) hx hb hts (by decide +kernel) tyX2 tyX2_ok nmX2 hown hK hP hD hS 0 rfl rfl 8 (by decide) (hts (.fieldLink RX2 50 "Gangline$Party" "bootsLeft" "I") (by decide +kernel)) (fun _ h9 => h9) rfl (by decide +kernel) rfl rfl (Nat.le_of_ble_eq_true rfl) dX2_startOver_45 (fun H locs hP hD hS => ?_)
  have hP : va_P (dC, dI) vwCl [(q, .inr (7, [.int 45, .int 0, .int 0, .int 0, .int 0, .int 100, .int 0, .int 3, .int 6, .int 0, .int 0, .int 0, .int 0, .int 0, .ref s1, .ref k1, .int 0])), (s1, .inl (cS, 10, .inl f)), (k1, .inl (cP, 14, .inr (.inr (.inr (.inr g)))))] H := hP
  have hD : va_D A [(q, .inr (7, [.int 45, .int 0, .int 0, .int 0, .int 0, .int 100, .int 0, .int 3, .int 6, .int 0, .int 0, .int 0, .int 0, .int 0, .ref s1, .ref k1, .int 0])), (s1, .inl (cS, 10, .inl f)), (k1, .inl (cP, 14, .inr (.inr (.inr (.inr g)))))] := hD
  refine lv_aload_n hx hb dX2_startOver_48 rfl (lv_at hl 0 rfl) ?_
  refine lv_iconst (v := 0) hx hb dX2_startOver_49 (by decide) ?_
  refine va_put (D := (dC, dI)) (ci := 7) (v := .int 0) (ty := .boolean) (C := RX2) (T := TX2) (N := 17) hx hb hts (by decide +kernel) tyX2 tyX2_ok nmX2 hown hK hP hD hS 0 rfl rfl 9 (by decide) (hts (.fieldLink RX2 53 "Gangline$Party" "bootsOn" "Z") (by decide +kernel)) (fun _ h9 => h9) rfl (by decide +kernel) (by decide) (by decide) (Nat.le_of_ble_eq_true rfl) dX2_startOver_50 (fun H locs hP hD hS => ?_)
  have hP : va_P (dC, dI) vwCl [(q, .inr (7, [.int 45, .int 0, .int 0, .int 0, .int 0, .int 100, .int 0, .int 3, .int 6, .int 0, .int 0, .int 0, .int 0, .int 0, .ref s1, .ref k1, .int 0])), (s1, .inl (cS, 10, .inl f)), (k1, .inl (cP, 14, .inr (.inr (.inr (.inr g)))))] H := hP
  have hD : va_D A [(q, .inr (7, [.int 45, .int 0, .int 0, .int 0, .int 0, .int 100, .int 0, .int 3, .int 6, .int 0, .int 0, .int 0, .int 0, .int 0, .ref s1, .ref k1, .int 0])), (s1, .inl (cS, 10, .inl f)), (k1, .inl (cP, 14, .inr (.inr (.inr (.inr g)))))] := hD
  refine lv_aload_n hx hb dX2_startOver_53 rfl (lv_at hl 0 rfl) ?_
  refine lv_iconst (v := 2) hx hb dX2_startOver_54 (by decide) ?_
  refine va_put (D := (dC, dI)) (ci := 7) (v := .int 2) (ty := .int) (C := RX2) (T := TX2) (N := 17) hx hb hts (by decide +kernel) tyX2 tyX2_ok nmX2 hown hK hP hD hS 0 rfl rfl 10 (by decide) (hts (.fieldLink RX2 57 "Gangline$Party" "exchanges" "I") (by decide +kernel)) (fun _ h9 => h9) rfl (by decide +kernel) rfl rfl (Nat.le_of_ble_eq_true rfl) dX2_startOver_55 (fun H locs hP hD hS => ?_)
  have hP : va_P (dC, dI) vwCl [(q, .inr (7, [.int 45, .int 0, .int 0, .int 0, .int 0, .int 100, .int 0, .int 3, .int 6, .int 0, .int 2, .int 0, .int 0, .int 0, .ref s1, .ref k1, .int 0])), (s1, .inl (cS, 10, .inl f)), (k1, .inl (cP, 14, .inr (.inr (.inr (.inr g)))))] H := hP
  have hD : va_D A [(q, .inr (7, [.int 45, .int 0, .int 0, .int 0, .int 0, .int 100, .int 0, .int 3, .int 6, .int 0, .int 2, .int 0, .int 0, .int 0, .ref s1, .ref k1, .int 0])), (s1, .inl (cS, 10, .inl f)), (k1, .inl (cP, 14, .inr (.inr (.inr (.inr g)))))] := hD
  refine lv_aload_n hx hb dX2_startOver_58 rfl (lv_at hl 0 rfl) ?_
  refine lv_iconst (v := 0) hx hb dX2_startOver_59 (by decide) ?_
  refine va_put (D := (dC, dI)) (ci := 7) (v := .int 0) (ty := .int) (C := RX2) (T := TX2) (N := 17) hx hb hts (by decide +kernel) tyX2 tyX2_ok nmX2 hown hK hP hD hS 0 rfl rfl 11 (by decide) (hts (.fieldLink RX2 60 "Gangline$Party" "helps" "I") (by decide +kernel)) (fun _ h9 => h9) rfl (by decide +kernel) rfl rfl (Nat.le_of_ble_eq_true rfl) dX2_startOver_60 (fun H locs hP hD hS => ?_)
  have hP : va_P (dC, dI) vwCl [(q, .inr (7, [.int 45, .int 0, .int 0, .int 0, .int 0, .int 100, .int 0, .int 3, .int 6, .int 0, .int 2, .int 0, .int 0, .int 0, .ref s1, .ref k1, .int 0])), (s1, .inl (cS, 10, .inl f)), (k1, .inl (cP, 14, .inr (.inr (.inr (.inr g)))))] H := hP
  have hD : va_D A [(q, .inr (7, [.int 45, .int 0, .int 0, .int 0, .int 0, .int 100, .int 0, .int 3, .int 6, .int 0, .int 2, .int 0, .int 0, .int 0, .ref s1, .ref k1, .int 0])), (s1, .inl (cS, 10, .inl f)), (k1, .inl (cP, 14, .inr (.inr (.inr (.inr g)))))] := hD
  refine lv_aload_n hx hb dX2_startOver_63 rfl (lv_at hl 0 rfl) ?_
  refine lv_iconst (v := 0) hx hb dX2_startOver_64 (by decide) ?_
  refine va_put (D := (dC, dI)) (ci := 7) (v := .int 0) (ty := .boolean) (C := RX2) (T := TX2) (N := 17) hx hb hts (by decide +kernel) tyX2 tyX2_ok nmX2 hown hK hP hD hS 0 rfl rfl 12 (by decide) (hts (.fieldLink RX2 63 "Gangline$Party" "longTaken" "Z") (by decide +kernel)) (fun _ h9 => h9) rfl (by decide +kernel) (by decide) (by decide) (Nat.le_of_ble_eq_true rfl) dX2_startOver_65 (fun H locs hP hD hS => ?_)
  have hP : va_P (dC, dI) vwCl [(q, .inr (7, [.int 45, .int 0, .int 0, .int 0, .int 0, .int 100, .int 0, .int 3, .int 6, .int 0, .int 2, .int 0, .int 0, .int 0, .ref s1, .ref k1, .int 0])), (s1, .inl (cS, 10, .inl f)), (k1, .inl (cP, 14, .inr (.inr (.inr (.inr g)))))] H := hP
  have hD : va_D A [(q, .inr (7, [.int 45, .int 0, .int 0, .int 0, .int 0, .int 100, .int 0, .int 3, .int 6, .int 0, .int 2, .int 0, .int 0, .int 0, .ref s1, .ref k1, .int 0])), (s1, .inl (cS, 10, .inl f)), (k1, .inl (cP, 14, .inr (.inr (.inr (.inr g)))))] := hD
  refine lv_aload_n hx hb dX2_startOver_68 rfl (lv_at hl 0 rfl) ?_
  refine lv_iconst (v := 0) hx hb dX2_startOver_69 (by decide) ?_
  refine va_put (D := (dC, dI)) (ci := 7) (v := .int 0) (ty := .boolean) (C := RX2) (T := TX2) (N := 17) hx hb hts (by decide +kernel) tyX2 tyX2_ok nmX2 hown hK hP hD hS 0 rfl rfl 13 (by decide) (hts (.fieldLink RX2 66 "Gangline$Party" "mustTaken" "Z") (by decide +kernel)) (fun _ h9 => h9) rfl (by decide +kernel) (by decide) (by decide) (Nat.le_of_ble_eq_true rfl) dX2_startOver_70 (fun H locs hP hD hS => ?_)
  have hP : va_P (dC, dI) vwCl [(q, .inr (7, [.int 45, .int 0, .int 0, .int 0, .int 0, .int 100, .int 0, .int 3, .int 6, .int 0, .int 2, .int 0, .int 0, .int 0, .ref s1, .ref k1, .int 0])), (s1, .inl (cS, 10, .inl f)), (k1, .inl (cP, 14, .inr (.inr (.inr (.inr g)))))] H := hP
  have hD : va_D A [(q, .inr (7, [.int 45, .int 0, .int 0, .int 0, .int 0, .int 100, .int 0, .int 3, .int 6, .int 0, .int 2, .int 0, .int 0, .int 0, .ref s1, .ref k1, .int 0])), (s1, .inl (cS, 10, .inl f)), (k1, .inl (cP, 14, .inr (.inr (.inr (.inr g)))))] := hD
  refine lv_aload_n hx hb dX2_startOver_73 rfl (lv_at hl 0 rfl) ?_
  refine lv_iconst (v := 0) hx hb dX2_startOver_74 (by decide) ?_
  refine va_put (D := (dC, dI)) (ci := 7) (v := .int 0) (ty := .int) (C := RX2) (T := TX2) (N := 17) hx hb hts (by decide +kernel) tyX2 tyX2_ok nmX2 hown hK hP hD hS 0 rfl rfl 16 (by decide) (hts (.fieldLink RX2 69 "Gangline$Party" "count" "I") (by decide +kernel)) (fun _ h9 => h9) rfl (by decide +kernel) rfl rfl (Nat.le_of_ble_eq_true rfl) dX2_startOver_75 (fun H locs hP hD hS => ?_)
  have hP : va_P (dC, dI) vwCl [(q, .inr (7, [.int 45, .int 0, .int 0, .int 0, .int 0, .int 100, .int 0, .int 3, .int 6, .int 0, .int 2, .int 0, .int 0, .int 0, .ref s1, .ref k1, .int 0])), (s1, .inl (cS, 10, .inl f)), (k1, .inl (cP, 14, .inr (.inr (.inr (.inr g)))))] H := hP
  have hD : va_D A [(q, .inr (7, [.int 45, .int 0, .int 0, .int 0, .int 0, .int 100, .int 0, .int 3, .int 6, .int 0, .int 2, .int 0, .int 0, .int 0, .ref s1, .ref k1, .int 0])), (s1, .inl (cS, 10, .inl f)), (k1, .inl (cP, 14, .inr (.inr (.inr (.inr g)))))] := hD
  refine lv_iconst (v := 0) hx hb dX2_startOver_78 (by decide) ?_
  refine lv_istore_n (lv' := [(1, .int 0), (0, .ref q)]) hx hb dX2_startOver_79 rfl hl (by decide) rfl (fun ls hl => ?_)
  refine lv_iload_n hx hb dX2_startOver_80 rfl (lv_at hl 0 rfl) ?_
  refine lv_bipush (v := 10) hx hb dX2_startOver_81 (by decide) ?_
  refine lv_icmp_ge (tgt := 99) hx hb dX2_startOver_83 (by decide) (fun c1 => absurd c1 (by decide)) (fun _ => ?_)
  refine lv_aload_n hx hb dX2_startOver_86 rfl (lv_at hl 1 rfl) ?_
  refine va_get (D := (dC, dI)) (ci := 7) (v := .ref s1) (C := RX2) (T := TX2) (N := 17) hx hb hts (by decide +kernel) hown hK hP 0 rfl rfl 14 (by decide) (hts (.fieldLink RX2 9 "Gangline$Party" "stock" "[I") (by decide +kernel)) (fun _ h9 => h9) rfl dX2_startOver_87 ?_
  refine lv_iload_n hx hb dX2_startOver_90 rfl (lv_at hl 0 rfl) ?_
  refine lv_iconst (v := 0) hx hb dX2_startOver_91 (by decide) ?_
  refine va_iast hx hb hK hP hD hS 1 0 rfl rfl (by unfold vp_in; decide) dX2_startOver_92 (fun H locs hP hD hS => ?_)
  have hP : va_P (dC, dI) vwCl [(q, .inr (7, [.int 45, .int 0, .int 0, .int 0, .int 0, .int 100, .int 0, .int 3, .int 6, .int 0, .int 2, .int 0, .int 0, .int 0, .ref s1, .ref k1, .int 0])), (s1, .inl (cS, 10, .inl (upd f (0 : Int32).toNatClampNeg 0))), (k1, .inl (cP, 14, .inr (.inr (.inr (.inr g)))))] H := hP
  have hD : va_D A [(q, .inr (7, [.int 45, .int 0, .int 0, .int 0, .int 0, .int 100, .int 0, .int 3, .int 6, .int 0, .int 2, .int 0, .int 0, .int 0, .ref s1, .ref k1, .int 0])), (s1, .inl (cS, 10, .inl (upd f (0 : Int32).toNatClampNeg 0))), (k1, .inl (cP, 14, .inr (.inr (.inr (.inr g)))))] := hD
  generalize (upd f (0 : Int32).toNatClampNeg 0) = f2 at hP hD
  have hP : va_P (dC, dI) vwCl [(q, .inr (7, [.int 45, .int 0, .int 0, .int 0, .int 0, .int 100, .int 0, .int 3, .int 6, .int 0, .int 2, .int 0, .int 0, .int 0, .ref s1, .ref k1, .int 0])), (s1, .inl (cS, 10, .inl f2)), (k1, .inl (cP, 14, .inr (.inr (.inr (.inr g)))))] H := hP
  have hD : va_D A [(q, .inr (7, [.int 45, .int 0, .int 0, .int 0, .int 0, .int 100, .int 0, .int 3, .int 6, .int 0, .int 2, .int 0, .int 0, .int 0, .ref s1, .ref k1, .int 0])), (s1, .inl (cS, 10, .inl f2)), (k1, .inl (cP, 14, .inr (.inr (.inr (.inr g)))))] := hD
  refine lv_iinc (v := 1) (lv' := [(1, .int 1), (0, .ref q)]) hx hb dX2_startOver_93 hl (k := 0) rfl (by decide) (by decide) rfl (fun ls hl => ?_)
  refine lv_goto (tgt := 80) hx hb dX2_startOver_96 (by decide) ?_
  refine lv_iload_n hx hb dX2_startOver_80 rfl (lv_at hl 0 rfl) ?_
  refine lv_bipush (v := 10) hx hb dX2_startOver_81 (by decide) ?_
  refine lv_icmp_ge (tgt := 99) hx hb dX2_startOver_83 (by decide) (fun c3 => absurd c3 (by decide)) (fun _ => ?_)
  refine lv_aload_n hx hb dX2_startOver_86 rfl (lv_at hl 1 rfl) ?_
  refine va_get (D := (dC, dI)) (ci := 7) (v := .ref s1) (C := RX2) (T := TX2) (N := 17) hx hb hts (by decide +kernel) hown hK hP 0 rfl rfl 14 (by decide) (hts (.fieldLink RX2 9 "Gangline$Party" "stock" "[I") (by decide +kernel)) (fun _ h9 => h9) rfl dX2_startOver_87 ?_
  refine lv_iload_n hx hb dX2_startOver_90 rfl (lv_at hl 0 rfl) ?_
  refine lv_iconst (v := 0) hx hb dX2_startOver_91 (by decide) ?_
  refine va_iast hx hb hK hP hD hS 1 0 rfl rfl (by unfold vp_in; decide) dX2_startOver_92 (fun H locs hP hD hS => ?_)
  have hP : va_P (dC, dI) vwCl [(q, .inr (7, [.int 45, .int 0, .int 0, .int 0, .int 0, .int 100, .int 0, .int 3, .int 6, .int 0, .int 2, .int 0, .int 0, .int 0, .ref s1, .ref k1, .int 0])), (s1, .inl (cS, 10, .inl (upd f2 (1 : Int32).toNatClampNeg 0))), (k1, .inl (cP, 14, .inr (.inr (.inr (.inr g)))))] H := hP
  have hD : va_D A [(q, .inr (7, [.int 45, .int 0, .int 0, .int 0, .int 0, .int 100, .int 0, .int 3, .int 6, .int 0, .int 2, .int 0, .int 0, .int 0, .ref s1, .ref k1, .int 0])), (s1, .inl (cS, 10, .inl (upd f2 (1 : Int32).toNatClampNeg 0))), (k1, .inl (cP, 14, .inr (.inr (.inr (.inr g)))))] := hD
  generalize (upd f2 (1 : Int32).toNatClampNeg 0) = f4 at hP hD
  have hP : va_P (dC, dI) vwCl [(q, .inr (7, [.int 45, .int 0, .int 0, .int 0, .int 0, .int 100, .int 0, .int 3, .int 6, .int 0, .int 2, .int 0, .int 0, .int 0, .ref s1, .ref k1, .int 0])), (s1, .inl (cS, 10, .inl f4)), (k1, .inl (cP, 14, .inr (.inr (.inr (.inr g)))))] H := hP
  have hD : va_D A [(q, .inr (7, [.int 45, .int 0, .int 0, .int 0, .int 0, .int 100, .int 0, .int 3, .int 6, .int 0, .int 2, .int 0, .int 0, .int 0, .ref s1, .ref k1, .int 0])), (s1, .inl (cS, 10, .inl f4)), (k1, .inl (cP, 14, .inr (.inr (.inr (.inr g)))))] := hD
  refine lv_iinc (v := 2) (lv' := [(1, .int 2), (0, .ref q)]) hx hb dX2_startOver_93 hl (k := 0) rfl (by decide) (by decide) rfl (fun ls hl => ?_)
  refine lv_goto (tgt := 80) hx hb dX2_startOver_96 (by decide) ?_
  refine lv_iload_n hx hb dX2_startOver_80 rfl (lv_at hl 0 rfl) ?_
  refine lv_bipush (v := 10) hx hb dX2_startOver_81 (by decide) ?_
  refine lv_icmp_ge (tgt := 99) hx hb dX2_startOver_83 (by decide) (fun c5 => absurd c5 (by decide)) (fun _ => ?_)
  refine lv_aload_n hx hb dX2_startOver_86 rfl (lv_at hl 1 rfl) ?_
  refine va_get (D := (dC, dI)) (ci := 7) (v := .ref s1) (C := RX2) (T := TX2) (N := 17) hx hb hts (by decide +kernel) hown hK hP 0 rfl rfl 14 (by decide) (hts (.fieldLink RX2 9 "Gangline$Party" "stock" "[I") (by decide +kernel)) (fun _ h9 => h9) rfl dX2_startOver_87 ?_
  refine lv_iload_n hx hb dX2_startOver_90 rfl (lv_at hl 0 rfl) ?_
  refine lv_iconst (v := 0) hx hb dX2_startOver_91 (by decide) ?_
  refine va_iast hx hb hK hP hD hS 1 0 rfl rfl (by unfold vp_in; decide) dX2_startOver_92 (fun H locs hP hD hS => ?_)
  have hP : va_P (dC, dI) vwCl [(q, .inr (7, [.int 45, .int 0, .int 0, .int 0, .int 0, .int 100, .int 0, .int 3, .int 6, .int 0, .int 2, .int 0, .int 0, .int 0, .ref s1, .ref k1, .int 0])), (s1, .inl (cS, 10, .inl (upd f4 (2 : Int32).toNatClampNeg 0))), (k1, .inl (cP, 14, .inr (.inr (.inr (.inr g)))))] H := hP
  have hD : va_D A [(q, .inr (7, [.int 45, .int 0, .int 0, .int 0, .int 0, .int 100, .int 0, .int 3, .int 6, .int 0, .int 2, .int 0, .int 0, .int 0, .ref s1, .ref k1, .int 0])), (s1, .inl (cS, 10, .inl (upd f4 (2 : Int32).toNatClampNeg 0))), (k1, .inl (cP, 14, .inr (.inr (.inr (.inr g)))))] := hD
  generalize (upd f4 (2 : Int32).toNatClampNeg 0) = f6 at hP hD
  have hP : va_P (dC, dI) vwCl [(q, .inr (7, [.int 45, .int 0, .int 0, .int 0, .int 0, .int 100, .int 0, .int 3, .int 6, .int 0, .int 2, .int 0, .int 0, .int 0, .ref s1, .ref k1, .int 0])), (s1, .inl (cS, 10, .inl f6)), (k1, .inl (cP, 14, .inr (.inr (.inr (.inr g)))))] H := hP
  have hD : va_D A [(q, .inr (7, [.int 45, .int 0, .int 0, .int 0, .int 0, .int 100, .int 0, .int 3, .int 6, .int 0, .int 2, .int 0, .int 0, .int 0, .ref s1, .ref k1, .int 0])), (s1, .inl (cS, 10, .inl f6)), (k1, .inl (cP, 14, .inr (.inr (.inr (.inr g)))))] := hD
  refine lv_iinc (v := 3) (lv' := [(1, .int 3), (0, .ref q)]) hx hb dX2_startOver_93 hl (k := 0) rfl (by decide) (by decide) rfl (fun ls hl => ?_)
  refine lv_goto (tgt := 80) hx hb dX2_startOver_96 (by decide) ?_
  refine lv_iload_n hx hb dX2_startOver_80 rfl (lv_at hl 0 rfl) ?_
  refine lv_bipush (v := 10) hx hb dX2_startOver_81 (by decide) ?_
  refine lv_icmp_ge (tgt := 99) hx hb dX2_startOver_83 (by decide) (fun c7 => absurd c7 (by decide)) (fun _ => ?_)
  refine lv_aload_n hx hb dX2_startOver_86 rfl (lv_at hl 1 rfl) ?_
  refine va_get (D := (dC, dI)) (ci := 7) (v := .ref s1) (C := RX2) (T := TX2) (N := 17) hx hb hts (by decide +kernel) hown hK hP 0 rfl rfl 14 (by decide) (hts (.fieldLink RX2 9 "Gangline$Party" "stock" "[I") (by decide +kernel)) (fun _ h9 => h9) rfl dX2_startOver_87 ?_
  refine lv_iload_n hx hb dX2_startOver_90 rfl (lv_at hl 0 rfl) ?_
  refine lv_iconst (v := 0) hx hb dX2_startOver_91 (by decide) ?_
  refine va_iast hx hb hK hP hD hS 1 0 rfl rfl (by unfold vp_in; decide) dX2_startOver_92 (fun H locs hP hD hS => ?_)
  have hP : va_P (dC, dI) vwCl [(q, .inr (7, [.int 45, .int 0, .int 0, .int 0, .int 0, .int 100, .int 0, .int 3, .int 6, .int 0, .int 2, .int 0, .int 0, .int 0, .ref s1, .ref k1, .int 0])), (s1, .inl (cS, 10, .inl (upd f6 (3 : Int32).toNatClampNeg 0))), (k1, .inl (cP, 14, .inr (.inr (.inr (.inr g)))))] H := hP
  have hD : va_D A [(q, .inr (7, [.int 45, .int 0, .int 0, .int 0, .int 0, .int 100, .int 0, .int 3, .int 6, .int 0, .int 2, .int 0, .int 0, .int 0, .ref s1, .ref k1, .int 0])), (s1, .inl (cS, 10, .inl (upd f6 (3 : Int32).toNatClampNeg 0))), (k1, .inl (cP, 14, .inr (.inr (.inr (.inr g)))))] := hD
  generalize (upd f6 (3 : Int32).toNatClampNeg 0) = f8 at hP hD
  have hP : va_P (dC, dI) vwCl [(q, .inr (7, [.int 45, .int 0, .int 0, .int 0, .int 0, .int 100, .int 0, .int 3, .int 6, .int 0, .int 2, .int 0, .int 0, .int 0, .ref s1, .ref k1, .int 0])), (s1, .inl (cS, 10, .inl f8)), (k1, .inl (cP, 14, .inr (.inr (.inr (.inr g)))))] H := hP
  have hD : va_D A [(q, .inr (7, [.int 45, .int 0, .int 0, .int 0, .int 0, .int 100, .int 0, .int 3, .int 6, .int 0, .int 2, .int 0, .int 0, .int 0, .ref s1, .ref k1, .int 0])), (s1, .inl (cS, 10, .inl f8)), (k1, .inl (cP, 14, .inr (.inr (.inr (.inr g)))))] := hD
  refine lv_iinc (v := 4) (lv' := [(1, .int 4), (0, .ref q)]) hx hb dX2_startOver_93 hl (k := 0) rfl (by decide) (by decide) rfl (fun ls hl => ?_)
  refine lv_goto (tgt := 80) hx hb dX2_startOver_96 (by decide) ?_
  refine lv_iload_n hx hb dX2_startOver_80 rfl (lv_at hl 0 rfl) ?_
  refine lv_bipush (v := 10) hx hb dX2_startOver_81 (by decide) ?_
  refine lv_icmp_ge (tgt := 99) hx hb dX2_startOver_83 (by decide) (fun c9 => absurd c9 (by decide)) (fun _ => ?_)
  refine lv_aload_n hx hb dX2_startOver_86 rfl (lv_at hl 1 rfl) ?_
  refine va_get (D := (dC, dI)) (ci := 7) (v := .ref s1) (C := RX2) (T := TX2) (N := 17) hx hb hts (by decide +kernel) hown hK hP 0 rfl rfl 14 (by decide) (hts (.fieldLink RX2 9 "Gangline$Party" "stock" "[I") (by decide +kernel)) (fun _ h9 => h9) rfl dX2_startOver_87 ?_
  refine lv_iload_n hx hb dX2_startOver_90 rfl (lv_at hl 0 rfl) ?_
  refine lv_iconst (v := 0) hx hb dX2_startOver_91 (by decide) ?_
  refine va_iast hx hb hK hP hD hS 1 0 rfl rfl (by unfold vp_in; decide) dX2_startOver_92 (fun H locs hP hD hS => ?_)
  have hP : va_P (dC, dI) vwCl [(q, .inr (7, [.int 45, .int 0, .int 0, .int 0, .int 0, .int 100, .int 0, .int 3, .int 6, .int 0, .int 2, .int 0, .int 0, .int 0, .ref s1, .ref k1, .int 0])), (s1, .inl (cS, 10, .inl (upd f8 (4 : Int32).toNatClampNeg 0))), (k1, .inl (cP, 14, .inr (.inr (.inr (.inr g)))))] H := hP
  have hD : va_D A [(q, .inr (7, [.int 45, .int 0, .int 0, .int 0, .int 0, .int 100, .int 0, .int 3, .int 6, .int 0, .int 2, .int 0, .int 0, .int 0, .ref s1, .ref k1, .int 0])), (s1, .inl (cS, 10, .inl (upd f8 (4 : Int32).toNatClampNeg 0))), (k1, .inl (cP, 14, .inr (.inr (.inr (.inr g)))))] := hD
  generalize (upd f8 (4 : Int32).toNatClampNeg 0) = f10 at hP hD
  have hP : va_P (dC, dI) vwCl [(q, .inr (7, [.int 45, .int 0, .int 0, .int 0, .int 0, .int 100, .int 0, .int 3, .int 6, .int 0, .int 2, .int 0, .int 0, .int 0, .ref s1, .ref k1, .int 0])), (s1, .inl (cS, 10, .inl f10)), (k1, .inl (cP, 14, .inr (.inr (.inr (.inr g)))))] H := hP
  have hD : va_D A [(q, .inr (7, [.int 45, .int 0, .int 0, .int 0, .int 0, .int 100, .int 0, .int 3, .int 6, .int 0, .int 2, .int 0, .int 0, .int 0, .ref s1, .ref k1, .int 0])), (s1, .inl (cS, 10, .inl f10)), (k1, .inl (cP, 14, .inr (.inr (.inr (.inr g)))))] := hD
  refine lv_iinc (v := 5) (lv' := [(1, .int 5), (0, .ref q)]) hx hb dX2_startOver_93 hl (k := 0) rfl (by decide) (by decide) rfl (fun ls hl => ?_)
  refine lv_goto (tgt := 80) hx hb dX2_startOver_96 (by decide) ?_
  refine lv_iload_n hx hb dX2_startOver_80 rfl (lv_at hl 0 rfl) ?_
  refine lv_bipush (v := 10) hx hb dX2_startOver_81 (by decide) ?_
  refine lv_icmp_ge (tgt := 99) hx hb dX2_startOver_83 (by decide) (fun c11 => absurd c11 (by decide)) (fun _ => ?_)
  refine lv_aload_n hx hb dX2_startOver_86 rfl (lv_at hl 1 rfl) ?_
  refine va_get (D := (dC, dI)) (ci := 7) (v := .ref s1) (C := RX2) (T := TX2) (N := 17) hx hb hts (by decide +kernel) hown hK hP 0 rfl rfl 14 (by decide) (hts (.fieldLink RX2 9 "Gangline$Party" "stock" "[I") (by decide +kernel)) (fun _ h9 => h9) rfl dX2_startOver_87 ?_
  refine lv_iload_n hx hb dX2_startOver_90 rfl (lv_at hl 0 rfl) ?_
  refine lv_iconst (v := 0) hx hb dX2_startOver_91 (by decide) ?_
  refine va_iast hx hb hK hP hD hS 1 0 rfl rfl (by unfold vp_in; decide) dX2_startOver_92 (fun H locs hP hD hS => ?_)
  have hP : va_P (dC, dI) vwCl [(q, .inr (7, [.int 45, .int 0, .int 0, .int 0, .int 0, .int 100, .int 0, .int 3, .int 6, .int 0, .int 2, .int 0, .int 0, .int 0, .ref s1, .ref k1, .int 0])), (s1, .inl (cS, 10, .inl (upd f10 (5 : Int32).toNatClampNeg 0))), (k1, .inl (cP, 14, .inr (.inr (.inr (.inr g)))))] H := hP
  have hD : va_D A [(q, .inr (7, [.int 45, .int 0, .int 0, .int 0, .int 0, .int 100, .int 0, .int 3, .int 6, .int 0, .int 2, .int 0, .int 0, .int 0, .ref s1, .ref k1, .int 0])), (s1, .inl (cS, 10, .inl (upd f10 (5 : Int32).toNatClampNeg 0))), (k1, .inl (cP, 14, .inr (.inr (.inr (.inr g)))))] := hD
  generalize (upd f10 (5 : Int32).toNatClampNeg 0) = f12 at hP hD
  have hP : va_P (dC, dI) vwCl [(q, .inr (7, [.int 45, .int 0, .int 0, .int 0, .int 0, .int 100, .int 0, .int 3, .int 6, .int 0, .int 2, .int 0, .int 0, .int 0, .ref s1, .ref k1, .int 0])), (s1, .inl (cS, 10, .inl f12)), (k1, .inl (cP, 14, .inr (.inr (.inr (.inr g)))))] H := hP
  have hD : va_D A [(q, .inr (7, [.int 45, .int 0, .int 0, .int 0, .int 0, .int 100, .int 0, .int 3, .int 6, .int 0, .int 2, .int 0, .int 0, .int 0, .ref s1, .ref k1, .int 0])), (s1, .inl (cS, 10, .inl f12)), (k1, .inl (cP, 14, .inr (.inr (.inr (.inr g)))))] := hD
  refine lv_iinc (v := 6) (lv' := [(1, .int 6), (0, .ref q)]) hx hb dX2_startOver_93 hl (k := 0) rfl (by decide) (by decide) rfl (fun ls hl => ?_)
  refine lv_goto (tgt := 80) hx hb dX2_startOver_96 (by decide) ?_
  refine lv_iload_n hx hb dX2_startOver_80 rfl (lv_at hl 0 rfl) ?_
  refine lv_bipush (v := 10) hx hb dX2_startOver_81 (by decide) ?_
  refine lv_icmp_ge (tgt := 99) hx hb dX2_startOver_83 (by decide) (fun c13 => absurd c13 (by decide)) (fun _ => ?_)
  refine lv_aload_n hx hb dX2_startOver_86 rfl (lv_at hl 1 rfl) ?_
  refine va_get (D := (dC, dI)) (ci := 7) (v := .ref s1) (C := RX2) (T := TX2) (N := 17) hx hb hts (by decide +kernel) hown hK hP 0 rfl rfl 14 (by decide) (hts (.fieldLink RX2 9 "Gangline$Party" "stock" "[I") (by decide +kernel)) (fun _ h9 => h9) rfl dX2_startOver_87 ?_
  refine lv_iload_n hx hb dX2_startOver_90 rfl (lv_at hl 0 rfl) ?_
  refine lv_iconst (v := 0) hx hb dX2_startOver_91 (by decide) ?_
  refine va_iast hx hb hK hP hD hS 1 0 rfl rfl (by unfold vp_in; decide) dX2_startOver_92 (fun H locs hP hD hS => ?_)
  have hP : va_P (dC, dI) vwCl [(q, .inr (7, [.int 45, .int 0, .int 0, .int 0, .int 0, .int 100, .int 0, .int 3, .int 6, .int 0, .int 2, .int 0, .int 0, .int 0, .ref s1, .ref k1, .int 0])), (s1, .inl (cS, 10, .inl (upd f12 (6 : Int32).toNatClampNeg 0))), (k1, .inl (cP, 14, .inr (.inr (.inr (.inr g)))))] H := hP
  have hD : va_D A [(q, .inr (7, [.int 45, .int 0, .int 0, .int 0, .int 0, .int 100, .int 0, .int 3, .int 6, .int 0, .int 2, .int 0, .int 0, .int 0, .ref s1, .ref k1, .int 0])), (s1, .inl (cS, 10, .inl (upd f12 (6 : Int32).toNatClampNeg 0))), (k1, .inl (cP, 14, .inr (.inr (.inr (.inr g)))))] := hD
  generalize (upd f12 (6 : Int32).toNatClampNeg 0) = f14 at hP hD
  have hP : va_P (dC, dI) vwCl [(q, .inr (7, [.int 45, .int 0, .int 0, .int 0, .int 0, .int 100, .int 0, .int 3, .int 6, .int 0, .int 2, .int 0, .int 0, .int 0, .ref s1, .ref k1, .int 0])), (s1, .inl (cS, 10, .inl f14)), (k1, .inl (cP, 14, .inr (.inr (.inr (.inr g)))))] H := hP
  have hD : va_D A [(q, .inr (7, [.int 45, .int 0, .int 0, .int 0, .int 0, .int 100, .int 0, .int 3, .int 6, .int 0, .int 2, .int 0, .int 0, .int 0, .ref s1, .ref k1, .int 0])), (s1, .inl (cS, 10, .inl f14)), (k1, .inl (cP, 14, .inr (.inr (.inr (.inr g)))))] := hD
  refine lv_iinc (v := 7) (lv' := [(1, .int 7), (0, .ref q)]) hx hb dX2_startOver_93 hl (k := 0) rfl (by decide) (by decide) rfl (fun ls hl => ?_)
  refine lv_goto (tgt := 80) hx hb dX2_startOver_96 (by decide) ?_
  refine lv_iload_n hx hb dX2_startOver_80 rfl (lv_at hl 0 rfl) ?_
  refine lv_bipush (v := 10) hx hb dX2_startOver_81 (by decide) ?_
  refine lv_icmp_ge (tgt := 99) hx hb dX2_startOver_83 (by decide) (fun c15 => absurd c15 (by decide)) (fun _ => ?_)
  refine lv_aload_n hx hb dX2_startOver_86 rfl (lv_at hl 1 rfl) ?_
  refine va_get (D := (dC, dI)) (ci := 7) (v := .ref s1) (C := RX2) (T := TX2) (N := 17) hx hb hts (by decide +kernel) hown hK hP 0 rfl rfl 14 (by decide) (hts (.fieldLink RX2 9 "Gangline$Party" "stock" "[I") (by decide +kernel)) (fun _ h9 => h9) rfl dX2_startOver_87 ?_
  refine lv_iload_n hx hb dX2_startOver_90 rfl (lv_at hl 0 rfl) ?_
  refine lv_iconst (v := 0) hx hb dX2_startOver_91 (by decide) ?_
  refine va_iast hx hb hK hP hD hS 1 0 rfl rfl (by unfold vp_in; decide) dX2_startOver_92 (fun H locs hP hD hS => ?_)
  have hP : va_P (dC, dI) vwCl [(q, .inr (7, [.int 45, .int 0, .int 0, .int 0, .int 0, .int 100, .int 0, .int 3, .int 6, .int 0, .int 2, .int 0, .int 0, .int 0, .ref s1, .ref k1, .int 0])), (s1, .inl (cS, 10, .inl (upd f14 (7 : Int32).toNatClampNeg 0))), (k1, .inl (cP, 14, .inr (.inr (.inr (.inr g)))))] H := hP
  have hD : va_D A [(q, .inr (7, [.int 45, .int 0, .int 0, .int 0, .int 0, .int 100, .int 0, .int 3, .int 6, .int 0, .int 2, .int 0, .int 0, .int 0, .ref s1, .ref k1, .int 0])), (s1, .inl (cS, 10, .inl (upd f14 (7 : Int32).toNatClampNeg 0))), (k1, .inl (cP, 14, .inr (.inr (.inr (.inr g)))))] := hD
  generalize (upd f14 (7 : Int32).toNatClampNeg 0) = f16 at hP hD
  have hP : va_P (dC, dI) vwCl [(q, .inr (7, [.int 45, .int 0, .int 0, .int 0, .int 0, .int 100, .int 0, .int 3, .int 6, .int 0, .int 2, .int 0, .int 0, .int 0, .ref s1, .ref k1, .int 0])), (s1, .inl (cS, 10, .inl f16)), (k1, .inl (cP, 14, .inr (.inr (.inr (.inr g)))))] H := hP
  have hD : va_D A [(q, .inr (7, [.int 45, .int 0, .int 0, .int 0, .int 0, .int 100, .int 0, .int 3, .int 6, .int 0, .int 2, .int 0, .int 0, .int 0, .ref s1, .ref k1, .int 0])), (s1, .inl (cS, 10, .inl f16)), (k1, .inl (cP, 14, .inr (.inr (.inr (.inr g)))))] := hD
  refine lv_iinc (v := 8) (lv' := [(1, .int 8), (0, .ref q)]) hx hb dX2_startOver_93 hl (k := 0) rfl (by decide) (by decide) rfl (fun ls hl => ?_)
  refine lv_goto (tgt := 80) hx hb dX2_startOver_96 (by decide) ?_
  refine lv_iload_n hx hb dX2_startOver_80 rfl (lv_at hl 0 rfl) ?_
  refine lv_bipush (v := 10) hx hb dX2_startOver_81 (by decide) ?_
  refine lv_icmp_ge (tgt := 99) hx hb dX2_startOver_83 (by decide) (fun c17 => absurd c17 (by decide)) (fun _ => ?_)
  refine lv_aload_n hx hb dX2_startOver_86 rfl (lv_at hl 1 rfl) ?_
  refine va_get (D := (dC, dI)) (ci := 7) (v := .ref s1) (C := RX2) (T := TX2) (N := 17) hx hb hts (by decide +kernel) hown hK hP 0 rfl rfl 14 (by decide) (hts (.fieldLink RX2 9 "Gangline$Party" "stock" "[I") (by decide +kernel)) (fun _ h9 => h9) rfl dX2_startOver_87 ?_
  refine lv_iload_n hx hb dX2_startOver_90 rfl (lv_at hl 0 rfl) ?_
  refine lv_iconst (v := 0) hx hb dX2_startOver_91 (by decide) ?_
  refine va_iast hx hb hK hP hD hS 1 0 rfl rfl (by unfold vp_in; decide) dX2_startOver_92 (fun H locs hP hD hS => ?_)
  have hP : va_P (dC, dI) vwCl [(q, .inr (7, [.int 45, .int 0, .int 0, .int 0, .int 0, .int 100, .int 0, .int 3, .int 6, .int 0, .int 2, .int 0, .int 0, .int 0, .ref s1, .ref k1, .int 0])), (s1, .inl (cS, 10, .inl (upd f16 (8 : Int32).toNatClampNeg 0))), (k1, .inl (cP, 14, .inr (.inr (.inr (.inr g)))))] H := hP
  have hD : va_D A [(q, .inr (7, [.int 45, .int 0, .int 0, .int 0, .int 0, .int 100, .int 0, .int 3, .int 6, .int 0, .int 2, .int 0, .int 0, .int 0, .ref s1, .ref k1, .int 0])), (s1, .inl (cS, 10, .inl (upd f16 (8 : Int32).toNatClampNeg 0))), (k1, .inl (cP, 14, .inr (.inr (.inr (.inr g)))))] := hD
  generalize (upd f16 (8 : Int32).toNatClampNeg 0) = f18 at hP hD
  have hP : va_P (dC, dI) vwCl [(q, .inr (7, [.int 45, .int 0, .int 0, .int 0, .int 0, .int 100, .int 0, .int 3, .int 6, .int 0, .int 2, .int 0, .int 0, .int 0, .ref s1, .ref k1, .int 0])), (s1, .inl (cS, 10, .inl f18)), (k1, .inl (cP, 14, .inr (.inr (.inr (.inr g)))))] H := hP
  have hD : va_D A [(q, .inr (7, [.int 45, .int 0, .int 0, .int 0, .int 0, .int 100, .int 0, .int 3, .int 6, .int 0, .int 2, .int 0, .int 0, .int 0, .ref s1, .ref k1, .int 0])), (s1, .inl (cS, 10, .inl f18)), (k1, .inl (cP, 14, .inr (.inr (.inr (.inr g)))))] := hD
  refine lv_iinc (v := 9) (lv' := [(1, .int 9), (0, .ref q)]) hx hb dX2_startOver_93 hl (k := 0) rfl (by decide) (by decide) rfl (fun ls hl => ?_)
  refine lv_goto (tgt := 80) hx hb dX2_startOver_96 (by decide) ?_
  refine lv_iload_n hx hb dX2_startOver_80 rfl (lv_at hl 0 rfl) ?_
  refine lv_bipush (v := 10) hx hb dX2_startOver_81 (by decide) ?_
  refine lv_icmp_ge (tgt := 99) hx hb dX2_startOver_83 (by decide) (fun c19 => absurd c19 (by decide)) (fun _ => ?_)
  refine lv_aload_n hx hb dX2_startOver_86 rfl (lv_at hl 1 rfl) ?_
  refine va_get (D := (dC, dI)) (ci := 7) (v := .ref s1) (C := RX2) (T := TX2) (N := 17) hx hb hts (by decide +kernel) hown hK hP 0 rfl rfl 14 (by decide) (hts (.fieldLink RX2 9 "Gangline$Party" "stock" "[I") (by decide +kernel)) (fun _ h9 => h9) rfl dX2_startOver_87 ?_
  refine lv_iload_n hx hb dX2_startOver_90 rfl (lv_at hl 0 rfl) ?_
  refine lv_iconst (v := 0) hx hb dX2_startOver_91 (by decide) ?_
  refine va_iast hx hb hK hP hD hS 1 0 rfl rfl (by unfold vp_in; decide) dX2_startOver_92 (fun H locs hP hD hS => ?_)
  have hP : va_P (dC, dI) vwCl [(q, .inr (7, [.int 45, .int 0, .int 0, .int 0, .int 0, .int 100, .int 0, .int 3, .int 6, .int 0, .int 2, .int 0, .int 0, .int 0, .ref s1, .ref k1, .int 0])), (s1, .inl (cS, 10, .inl (upd f18 (9 : Int32).toNatClampNeg 0))), (k1, .inl (cP, 14, .inr (.inr (.inr (.inr g)))))] H := hP
  have hD : va_D A [(q, .inr (7, [.int 45, .int 0, .int 0, .int 0, .int 0, .int 100, .int 0, .int 3, .int 6, .int 0, .int 2, .int 0, .int 0, .int 0, .ref s1, .ref k1, .int 0])), (s1, .inl (cS, 10, .inl (upd f18 (9 : Int32).toNatClampNeg 0))), (k1, .inl (cP, 14, .inr (.inr (.inr (.inr g)))))] := hD
  generalize (upd f18 (9 : Int32).toNatClampNeg 0) = f20 at hP hD
  have hP : va_P (dC, dI) vwCl [(q, .inr (7, [.int 45, .int 0, .int 0, .int 0, .int 0, .int 100, .int 0, .int 3, .int 6, .int 0, .int 2, .int 0, .int 0, .int 0, .ref s1, .ref k1, .int 0])), (s1, .inl (cS, 10, .inl f20)), (k1, .inl (cP, 14, .inr (.inr (.inr (.inr g)))))] H := hP
  have hD : va_D A [(q, .inr (7, [.int 45, .int 0, .int 0, .int 0, .int 0, .int 100, .int 0, .int 3, .int 6, .int 0, .int 2, .int 0, .int 0, .int 0, .ref s1, .ref k1, .int 0])), (s1, .inl (cS, 10, .inl f20)), (k1, .inl (cP, 14, .inr (.inr (.inr (.inr g)))))] := hD
  refine lv_iinc (v := 10) (lv' := [(1, .int 10), (0, .ref q)]) hx hb dX2_startOver_93 hl (k := 0) rfl (by decide) (by decide) rfl (fun ls hl => ?_)
  refine lv_goto (tgt := 80) hx hb dX2_startOver_96 (by decide) ?_
  refine lv_iload_n hx hb dX2_startOver_80 rfl (lv_at hl 0 rfl) ?_
  refine lv_bipush (v := 10) hx hb dX2_startOver_81 (by decide) ?_
  refine lv_icmp_ge (tgt := 99) hx hb dX2_startOver_83 (by decide) (fun _ => ?_) (fun c21 => absurd (by decide) c21)
  refine lv_iconst (v := 0) hx hb dX2_startOver_99 (by decide) ?_
  refine lv_istore_n (lv' := [(1, .int 0), (0, .ref q)]) hx hb dX2_startOver_100 rfl hl (by decide) rfl (fun ls hl => ?_)
  refine lv_iload_n hx hb dX2_startOver_101 rfl (lv_at hl 0 rfl) ?_
  refine lv_bipush (v := 14) hx hb dX2_startOver_102 (by decide) ?_
  refine lv_icmp_ge (tgt := 120) hx hb dX2_startOver_104 (by decide) (fun c22 => absurd c22 (by decide)) (fun _ => ?_)
  refine lv_aload_n hx hb dX2_startOver_107 rfl (lv_at hl 1 rfl) ?_
  refine va_get (D := (dC, dI)) (ci := 7) (v := .ref k1) (C := RX2) (T := TX2) (N := 17) hx hb hts (by decide +kernel) hown hK hP 0 rfl rfl 15 (by decide) (hts (.fieldLink RX2 17 "Gangline$Party" "pack" "[LGangline$Dog;") (by decide +kernel)) (fun _ h9 => h9) rfl dX2_startOver_108 ?_
  refine lv_iload_n hx hb dX2_startOver_111 rfl (lv_at hl 0 rfl) ?_
  refine lv_null hx hb dX2_startOver_112 ?_
  refine va_astqN hx hb hK hP hD hS 2 1 rfl rfl (by unfold vp_in; decide) dX2_startOver_113 (fun H locs hP hD hS => ?_)
  have hP : va_P (dC, dI) vwCl [(q, .inr (7, [.int 45, .int 0, .int 0, .int 0, .int 0, .int 100, .int 0, .int 3, .int 6, .int 0, .int 2, .int 0, .int 0, .int 0, .ref s1, .ref k1, .int 0])), (s1, .inl (cS, 10, .inl f20)), (k1, .inl (cP, 14, .inr (.inr (.inr (.inr (va_up g (0 : Int32).toNatClampNeg none))))))] H := hP
  have hD : va_D A [(q, .inr (7, [.int 45, .int 0, .int 0, .int 0, .int 0, .int 100, .int 0, .int 3, .int 6, .int 0, .int 2, .int 0, .int 0, .int 0, .ref s1, .ref k1, .int 0])), (s1, .inl (cS, 10, .inl f20)), (k1, .inl (cP, 14, .inr (.inr (.inr (.inr (va_up g (0 : Int32).toNatClampNeg none))))))] := hD
  generalize (va_up g (0 : Int32).toNatClampNeg none) = f23 at hP hD
  have hP : va_P (dC, dI) vwCl [(q, .inr (7, [.int 45, .int 0, .int 0, .int 0, .int 0, .int 100, .int 0, .int 3, .int 6, .int 0, .int 2, .int 0, .int 0, .int 0, .ref s1, .ref k1, .int 0])), (s1, .inl (cS, 10, .inl f20)), (k1, .inl (cP, 14, .inr (.inr (.inr (.inr f23)))))] H := hP
  have hD : va_D A [(q, .inr (7, [.int 45, .int 0, .int 0, .int 0, .int 0, .int 100, .int 0, .int 3, .int 6, .int 0, .int 2, .int 0, .int 0, .int 0, .ref s1, .ref k1, .int 0])), (s1, .inl (cS, 10, .inl f20)), (k1, .inl (cP, 14, .inr (.inr (.inr (.inr f23)))))] := hD
  refine lv_iinc (v := 1) (lv' := [(1, .int 1), (0, .ref q)]) hx hb dX2_startOver_114 hl (k := 0) rfl (by decide) (by decide) rfl (fun ls hl => ?_)
  refine lv_goto (tgt := 101) hx hb dX2_startOver_117 (by decide) ?_
  refine lv_iload_n hx hb dX2_startOver_101 rfl (lv_at hl 0 rfl) ?_
  refine lv_bipush (v := 14) hx hb dX2_startOver_102 (by decide) ?_
  refine lv_icmp_ge (tgt := 120) hx hb dX2_startOver_104 (by decide) (fun c24 => absurd c24 (by decide)) (fun _ => ?_)
  refine lv_aload_n hx hb dX2_startOver_107 rfl (lv_at hl 1 rfl) ?_
  refine va_get (D := (dC, dI)) (ci := 7) (v := .ref k1) (C := RX2) (T := TX2) (N := 17) hx hb hts (by decide +kernel) hown hK hP 0 rfl rfl 15 (by decide) (hts (.fieldLink RX2 17 "Gangline$Party" "pack" "[LGangline$Dog;") (by decide +kernel)) (fun _ h9 => h9) rfl dX2_startOver_108 ?_
  refine lv_iload_n hx hb dX2_startOver_111 rfl (lv_at hl 0 rfl) ?_
  refine lv_null hx hb dX2_startOver_112 ?_
  refine va_astqN hx hb hK hP hD hS 2 1 rfl rfl (by unfold vp_in; decide) dX2_startOver_113 (fun H locs hP hD hS => ?_)
  have hP : va_P (dC, dI) vwCl [(q, .inr (7, [.int 45, .int 0, .int 0, .int 0, .int 0, .int 100, .int 0, .int 3, .int 6, .int 0, .int 2, .int 0, .int 0, .int 0, .ref s1, .ref k1, .int 0])), (s1, .inl (cS, 10, .inl f20)), (k1, .inl (cP, 14, .inr (.inr (.inr (.inr (va_up f23 (1 : Int32).toNatClampNeg none))))))] H := hP
  have hD : va_D A [(q, .inr (7, [.int 45, .int 0, .int 0, .int 0, .int 0, .int 100, .int 0, .int 3, .int 6, .int 0, .int 2, .int 0, .int 0, .int 0, .ref s1, .ref k1, .int 0])), (s1, .inl (cS, 10, .inl f20)), (k1, .inl (cP, 14, .inr (.inr (.inr (.inr (va_up f23 (1 : Int32).toNatClampNeg none))))))] := hD
  generalize (va_up f23 (1 : Int32).toNatClampNeg none) = f25 at hP hD
  have hP : va_P (dC, dI) vwCl [(q, .inr (7, [.int 45, .int 0, .int 0, .int 0, .int 0, .int 100, .int 0, .int 3, .int 6, .int 0, .int 2, .int 0, .int 0, .int 0, .ref s1, .ref k1, .int 0])), (s1, .inl (cS, 10, .inl f20)), (k1, .inl (cP, 14, .inr (.inr (.inr (.inr f25)))))] H := hP
  have hD : va_D A [(q, .inr (7, [.int 45, .int 0, .int 0, .int 0, .int 0, .int 100, .int 0, .int 3, .int 6, .int 0, .int 2, .int 0, .int 0, .int 0, .ref s1, .ref k1, .int 0])), (s1, .inl (cS, 10, .inl f20)), (k1, .inl (cP, 14, .inr (.inr (.inr (.inr f25)))))] := hD
  refine lv_iinc (v := 2) (lv' := [(1, .int 2), (0, .ref q)]) hx hb dX2_startOver_114 hl (k := 0) rfl (by decide) (by decide) rfl (fun ls hl => ?_)
  refine lv_goto (tgt := 101) hx hb dX2_startOver_117 (by decide) ?_
  refine lv_iload_n hx hb dX2_startOver_101 rfl (lv_at hl 0 rfl) ?_
  refine lv_bipush (v := 14) hx hb dX2_startOver_102 (by decide) ?_
  refine lv_icmp_ge (tgt := 120) hx hb dX2_startOver_104 (by decide) (fun c26 => absurd c26 (by decide)) (fun _ => ?_)
  refine lv_aload_n hx hb dX2_startOver_107 rfl (lv_at hl 1 rfl) ?_
  refine va_get (D := (dC, dI)) (ci := 7) (v := .ref k1) (C := RX2) (T := TX2) (N := 17) hx hb hts (by decide +kernel) hown hK hP 0 rfl rfl 15 (by decide) (hts (.fieldLink RX2 17 "Gangline$Party" "pack" "[LGangline$Dog;") (by decide +kernel)) (fun _ h9 => h9) rfl dX2_startOver_108 ?_
  refine lv_iload_n hx hb dX2_startOver_111 rfl (lv_at hl 0 rfl) ?_
  refine lv_null hx hb dX2_startOver_112 ?_
  refine va_astqN hx hb hK hP hD hS 2 1 rfl rfl (by unfold vp_in; decide) dX2_startOver_113 (fun H locs hP hD hS => ?_)
  have hP : va_P (dC, dI) vwCl [(q, .inr (7, [.int 45, .int 0, .int 0, .int 0, .int 0, .int 100, .int 0, .int 3, .int 6, .int 0, .int 2, .int 0, .int 0, .int 0, .ref s1, .ref k1, .int 0])), (s1, .inl (cS, 10, .inl f20)), (k1, .inl (cP, 14, .inr (.inr (.inr (.inr (va_up f25 (2 : Int32).toNatClampNeg none))))))] H := hP
  have hD : va_D A [(q, .inr (7, [.int 45, .int 0, .int 0, .int 0, .int 0, .int 100, .int 0, .int 3, .int 6, .int 0, .int 2, .int 0, .int 0, .int 0, .ref s1, .ref k1, .int 0])), (s1, .inl (cS, 10, .inl f20)), (k1, .inl (cP, 14, .inr (.inr (.inr (.inr (va_up f25 (2 : Int32).toNatClampNeg none))))))] := hD
  generalize (va_up f25 (2 : Int32).toNatClampNeg none) = f27 at hP hD
  have hP : va_P (dC, dI) vwCl [(q, .inr (7, [.int 45, .int 0, .int 0, .int 0, .int 0, .int 100, .int 0, .int 3, .int 6, .int 0, .int 2, .int 0, .int 0, .int 0, .ref s1, .ref k1, .int 0])), (s1, .inl (cS, 10, .inl f20)), (k1, .inl (cP, 14, .inr (.inr (.inr (.inr f27)))))] H := hP
  have hD : va_D A [(q, .inr (7, [.int 45, .int 0, .int 0, .int 0, .int 0, .int 100, .int 0, .int 3, .int 6, .int 0, .int 2, .int 0, .int 0, .int 0, .ref s1, .ref k1, .int 0])), (s1, .inl (cS, 10, .inl f20)), (k1, .inl (cP, 14, .inr (.inr (.inr (.inr f27)))))] := hD
  refine lv_iinc (v := 3) (lv' := [(1, .int 3), (0, .ref q)]) hx hb dX2_startOver_114 hl (k := 0) rfl (by decide) (by decide) rfl (fun ls hl => ?_)
  refine lv_goto (tgt := 101) hx hb dX2_startOver_117 (by decide) ?_
  refine lv_iload_n hx hb dX2_startOver_101 rfl (lv_at hl 0 rfl) ?_
  refine lv_bipush (v := 14) hx hb dX2_startOver_102 (by decide) ?_
  refine lv_icmp_ge (tgt := 120) hx hb dX2_startOver_104 (by decide) (fun c28 => absurd c28 (by decide)) (fun _ => ?_)
  refine lv_aload_n hx hb dX2_startOver_107 rfl (lv_at hl 1 rfl) ?_
  refine va_get (D := (dC, dI)) (ci := 7) (v := .ref k1) (C := RX2) (T := TX2) (N := 17) hx hb hts (by decide +kernel) hown hK hP 0 rfl rfl 15 (by decide) (hts (.fieldLink RX2 17 "Gangline$Party" "pack" "[LGangline$Dog;") (by decide +kernel)) (fun _ h9 => h9) rfl dX2_startOver_108 ?_
  refine lv_iload_n hx hb dX2_startOver_111 rfl (lv_at hl 0 rfl) ?_
  refine lv_null hx hb dX2_startOver_112 ?_
  refine va_astqN hx hb hK hP hD hS 2 1 rfl rfl (by unfold vp_in; decide) dX2_startOver_113 (fun H locs hP hD hS => ?_)
  have hP : va_P (dC, dI) vwCl [(q, .inr (7, [.int 45, .int 0, .int 0, .int 0, .int 0, .int 100, .int 0, .int 3, .int 6, .int 0, .int 2, .int 0, .int 0, .int 0, .ref s1, .ref k1, .int 0])), (s1, .inl (cS, 10, .inl f20)), (k1, .inl (cP, 14, .inr (.inr (.inr (.inr (va_up f27 (3 : Int32).toNatClampNeg none))))))] H := hP
  have hD : va_D A [(q, .inr (7, [.int 45, .int 0, .int 0, .int 0, .int 0, .int 100, .int 0, .int 3, .int 6, .int 0, .int 2, .int 0, .int 0, .int 0, .ref s1, .ref k1, .int 0])), (s1, .inl (cS, 10, .inl f20)), (k1, .inl (cP, 14, .inr (.inr (.inr (.inr (va_up f27 (3 : Int32).toNatClampNeg none))))))] := hD
  generalize (va_up f27 (3 : Int32).toNatClampNeg none) = f29 at hP hD
  have hP : va_P (dC, dI) vwCl [(q, .inr (7, [.int 45, .int 0, .int 0, .int 0, .int 0, .int 100, .int 0, .int 3, .int 6, .int 0, .int 2, .int 0, .int 0, .int 0, .ref s1, .ref k1, .int 0])), (s1, .inl (cS, 10, .inl f20)), (k1, .inl (cP, 14, .inr (.inr (.inr (.inr f29)))))] H := hP
  have hD : va_D A [(q, .inr (7, [.int 45, .int 0, .int 0, .int 0, .int 0, .int 100, .int 0, .int 3, .int 6, .int 0, .int 2, .int 0, .int 0, .int 0, .ref s1, .ref k1, .int 0])), (s1, .inl (cS, 10, .inl f20)), (k1, .inl (cP, 14, .inr (.inr (.inr (.inr f29)))))] := hD
  refine lv_iinc (v := 4) (lv' := [(1, .int 4), (0, .ref q)]) hx hb dX2_startOver_114 hl (k := 0) rfl (by decide) (by decide) rfl (fun ls hl => ?_)
  refine lv_goto (tgt := 101) hx hb dX2_startOver_117 (by decide) ?_
  refine lv_iload_n hx hb dX2_startOver_101 rfl (lv_at hl 0 rfl) ?_
  refine lv_bipush (v := 14) hx hb dX2_startOver_102 (by decide) ?_
  refine lv_icmp_ge (tgt := 120) hx hb dX2_startOver_104 (by decide) (fun c30 => absurd c30 (by decide)) (fun _ => ?_)
  refine lv_aload_n hx hb dX2_startOver_107 rfl (lv_at hl 1 rfl) ?_
  refine va_get (D := (dC, dI)) (ci := 7) (v := .ref k1) (C := RX2) (T := TX2) (N := 17) hx hb hts (by decide +kernel) hown hK hP 0 rfl rfl 15 (by decide) (hts (.fieldLink RX2 17 "Gangline$Party" "pack" "[LGangline$Dog;") (by decide +kernel)) (fun _ h9 => h9) rfl dX2_startOver_108 ?_
  refine lv_iload_n hx hb dX2_startOver_111 rfl (lv_at hl 0 rfl) ?_
  refine lv_null hx hb dX2_startOver_112 ?_
  refine va_astqN hx hb hK hP hD hS 2 1 rfl rfl (by unfold vp_in; decide) dX2_startOver_113 (fun H locs hP hD hS => ?_)
  have hP : va_P (dC, dI) vwCl [(q, .inr (7, [.int 45, .int 0, .int 0, .int 0, .int 0, .int 100, .int 0, .int 3, .int 6, .int 0, .int 2, .int 0, .int 0, .int 0, .ref s1, .ref k1, .int 0])), (s1, .inl (cS, 10, .inl f20)), (k1, .inl (cP, 14, .inr (.inr (.inr (.inr (va_up f29 (4 : Int32).toNatClampNeg none))))))] H := hP
  have hD : va_D A [(q, .inr (7, [.int 45, .int 0, .int 0, .int 0, .int 0, .int 100, .int 0, .int 3, .int 6, .int 0, .int 2, .int 0, .int 0, .int 0, .ref s1, .ref k1, .int 0])), (s1, .inl (cS, 10, .inl f20)), (k1, .inl (cP, 14, .inr (.inr (.inr (.inr (va_up f29 (4 : Int32).toNatClampNeg none))))))] := hD
  generalize (va_up f29 (4 : Int32).toNatClampNeg none) = f31 at hP hD
  have hP : va_P (dC, dI) vwCl [(q, .inr (7, [.int 45, .int 0, .int 0, .int 0, .int 0, .int 100, .int 0, .int 3, .int 6, .int 0, .int 2, .int 0, .int 0, .int 0, .ref s1, .ref k1, .int 0])), (s1, .inl (cS, 10, .inl f20)), (k1, .inl (cP, 14, .inr (.inr (.inr (.inr f31)))))] H := hP
  have hD : va_D A [(q, .inr (7, [.int 45, .int 0, .int 0, .int 0, .int 0, .int 100, .int 0, .int 3, .int 6, .int 0, .int 2, .int 0, .int 0, .int 0, .ref s1, .ref k1, .int 0])), (s1, .inl (cS, 10, .inl f20)), (k1, .inl (cP, 14, .inr (.inr (.inr (.inr f31)))))] := hD
  refine lv_iinc (v := 5) (lv' := [(1, .int 5), (0, .ref q)]) hx hb dX2_startOver_114 hl (k := 0) rfl (by decide) (by decide) rfl (fun ls hl => ?_)
  refine lv_goto (tgt := 101) hx hb dX2_startOver_117 (by decide) ?_
  refine lv_iload_n hx hb dX2_startOver_101 rfl (lv_at hl 0 rfl) ?_
  refine lv_bipush (v := 14) hx hb dX2_startOver_102 (by decide) ?_
  refine lv_icmp_ge (tgt := 120) hx hb dX2_startOver_104 (by decide) (fun c32 => absurd c32 (by decide)) (fun _ => ?_)
  refine lv_aload_n hx hb dX2_startOver_107 rfl (lv_at hl 1 rfl) ?_
  refine va_get (D := (dC, dI)) (ci := 7) (v := .ref k1) (C := RX2) (T := TX2) (N := 17) hx hb hts (by decide +kernel) hown hK hP 0 rfl rfl 15 (by decide) (hts (.fieldLink RX2 17 "Gangline$Party" "pack" "[LGangline$Dog;") (by decide +kernel)) (fun _ h9 => h9) rfl dX2_startOver_108 ?_
  refine lv_iload_n hx hb dX2_startOver_111 rfl (lv_at hl 0 rfl) ?_
  refine lv_null hx hb dX2_startOver_112 ?_
  refine va_astqN hx hb hK hP hD hS 2 1 rfl rfl (by unfold vp_in; decide) dX2_startOver_113 (fun H locs hP hD hS => ?_)
  have hP : va_P (dC, dI) vwCl [(q, .inr (7, [.int 45, .int 0, .int 0, .int 0, .int 0, .int 100, .int 0, .int 3, .int 6, .int 0, .int 2, .int 0, .int 0, .int 0, .ref s1, .ref k1, .int 0])), (s1, .inl (cS, 10, .inl f20)), (k1, .inl (cP, 14, .inr (.inr (.inr (.inr (va_up f31 (5 : Int32).toNatClampNeg none))))))] H := hP
  have hD : va_D A [(q, .inr (7, [.int 45, .int 0, .int 0, .int 0, .int 0, .int 100, .int 0, .int 3, .int 6, .int 0, .int 2, .int 0, .int 0, .int 0, .ref s1, .ref k1, .int 0])), (s1, .inl (cS, 10, .inl f20)), (k1, .inl (cP, 14, .inr (.inr (.inr (.inr (va_up f31 (5 : Int32).toNatClampNeg none))))))] := hD
  generalize (va_up f31 (5 : Int32).toNatClampNeg none) = f33 at hP hD
  have hP : va_P (dC, dI) vwCl [(q, .inr (7, [.int 45, .int 0, .int 0, .int 0, .int 0, .int 100, .int 0, .int 3, .int 6, .int 0, .int 2, .int 0, .int 0, .int 0, .ref s1, .ref k1, .int 0])), (s1, .inl (cS, 10, .inl f20)), (k1, .inl (cP, 14, .inr (.inr (.inr (.inr f33)))))] H := hP
  have hD : va_D A [(q, .inr (7, [.int 45, .int 0, .int 0, .int 0, .int 0, .int 100, .int 0, .int 3, .int 6, .int 0, .int 2, .int 0, .int 0, .int 0, .ref s1, .ref k1, .int 0])), (s1, .inl (cS, 10, .inl f20)), (k1, .inl (cP, 14, .inr (.inr (.inr (.inr f33)))))] := hD
  refine lv_iinc (v := 6) (lv' := [(1, .int 6), (0, .ref q)]) hx hb dX2_startOver_114 hl (k := 0) rfl (by decide) (by decide) rfl (fun ls hl => ?_)
  refine lv_goto (tgt := 101) hx hb dX2_startOver_117 (by decide) ?_
  refine lv_iload_n hx hb dX2_startOver_101 rfl (lv_at hl 0 rfl) ?_
  refine lv_bipush (v := 14) hx hb dX2_startOver_102 (by decide) ?_
  refine lv_icmp_ge (tgt := 120) hx hb dX2_startOver_104 (by decide) (fun c34 => absurd c34 (by decide)) (fun _ => ?_)
  refine lv_aload_n hx hb dX2_startOver_107 rfl (lv_at hl 1 rfl) ?_
  refine va_get (D := (dC, dI)) (ci := 7) (v := .ref k1) (C := RX2) (T := TX2) (N := 17) hx hb hts (by decide +kernel) hown hK hP 0 rfl rfl 15 (by decide) (hts (.fieldLink RX2 17 "Gangline$Party" "pack" "[LGangline$Dog;") (by decide +kernel)) (fun _ h9 => h9) rfl dX2_startOver_108 ?_
  refine lv_iload_n hx hb dX2_startOver_111 rfl (lv_at hl 0 rfl) ?_
  refine lv_null hx hb dX2_startOver_112 ?_
  refine va_astqN hx hb hK hP hD hS 2 1 rfl rfl (by unfold vp_in; decide) dX2_startOver_113 (fun H locs hP hD hS => ?_)
  have hP : va_P (dC, dI) vwCl [(q, .inr (7, [.int 45, .int 0, .int 0, .int 0, .int 0, .int 100, .int 0, .int 3, .int 6, .int 0, .int 2, .int 0, .int 0, .int 0, .ref s1, .ref k1, .int 0])), (s1, .inl (cS, 10, .inl f20)), (k1, .inl (cP, 14, .inr (.inr (.inr (.inr (va_up f33 (6 : Int32).toNatClampNeg none))))))] H := hP
  have hD : va_D A [(q, .inr (7, [.int 45, .int 0, .int 0, .int 0, .int 0, .int 100, .int 0, .int 3, .int 6, .int 0, .int 2, .int 0, .int 0, .int 0, .ref s1, .ref k1, .int 0])), (s1, .inl (cS, 10, .inl f20)), (k1, .inl (cP, 14, .inr (.inr (.inr (.inr (va_up f33 (6 : Int32).toNatClampNeg none))))))] := hD
  generalize (va_up f33 (6 : Int32).toNatClampNeg none) = f35 at hP hD
  have hP : va_P (dC, dI) vwCl [(q, .inr (7, [.int 45, .int 0, .int 0, .int 0, .int 0, .int 100, .int 0, .int 3, .int 6, .int 0, .int 2, .int 0, .int 0, .int 0, .ref s1, .ref k1, .int 0])), (s1, .inl (cS, 10, .inl f20)), (k1, .inl (cP, 14, .inr (.inr (.inr (.inr f35)))))] H := hP
  have hD : va_D A [(q, .inr (7, [.int 45, .int 0, .int 0, .int 0, .int 0, .int 100, .int 0, .int 3, .int 6, .int 0, .int 2, .int 0, .int 0, .int 0, .ref s1, .ref k1, .int 0])), (s1, .inl (cS, 10, .inl f20)), (k1, .inl (cP, 14, .inr (.inr (.inr (.inr f35)))))] := hD
  refine lv_iinc (v := 7) (lv' := [(1, .int 7), (0, .ref q)]) hx hb dX2_startOver_114 hl (k := 0) rfl (by decide) (by decide) rfl (fun ls hl => ?_)
  refine lv_goto (tgt := 101) hx hb dX2_startOver_117 (by decide) ?_
  refine lv_iload_n hx hb dX2_startOver_101 rfl (lv_at hl 0 rfl) ?_
  refine lv_bipush (v := 14) hx hb dX2_startOver_102 (by decide) ?_
  refine lv_icmp_ge (tgt := 120) hx hb dX2_startOver_104 (by decide) (fun c36 => absurd c36 (by decide)) (fun _ => ?_)
  refine lv_aload_n hx hb dX2_startOver_107 rfl (lv_at hl 1 rfl) ?_
  refine va_get (D := (dC, dI)) (ci := 7) (v := .ref k1) (C := RX2) (T := TX2) (N := 17) hx hb hts (by decide +kernel) hown hK hP 0 rfl rfl 15 (by decide) (hts (.fieldLink RX2 17 "Gangline$Party" "pack" "[LGangline$Dog;") (by decide +kernel)) (fun _ h9 => h9) rfl dX2_startOver_108 ?_
  refine lv_iload_n hx hb dX2_startOver_111 rfl (lv_at hl 0 rfl) ?_
  refine lv_null hx hb dX2_startOver_112 ?_
  refine va_astqN hx hb hK hP hD hS 2 1 rfl rfl (by unfold vp_in; decide) dX2_startOver_113 (fun H locs hP hD hS => ?_)
  have hP : va_P (dC, dI) vwCl [(q, .inr (7, [.int 45, .int 0, .int 0, .int 0, .int 0, .int 100, .int 0, .int 3, .int 6, .int 0, .int 2, .int 0, .int 0, .int 0, .ref s1, .ref k1, .int 0])), (s1, .inl (cS, 10, .inl f20)), (k1, .inl (cP, 14, .inr (.inr (.inr (.inr (va_up f35 (7 : Int32).toNatClampNeg none))))))] H := hP
  have hD : va_D A [(q, .inr (7, [.int 45, .int 0, .int 0, .int 0, .int 0, .int 100, .int 0, .int 3, .int 6, .int 0, .int 2, .int 0, .int 0, .int 0, .ref s1, .ref k1, .int 0])), (s1, .inl (cS, 10, .inl f20)), (k1, .inl (cP, 14, .inr (.inr (.inr (.inr (va_up f35 (7 : Int32).toNatClampNeg none))))))] := hD
  generalize (va_up f35 (7 : Int32).toNatClampNeg none) = f37 at hP hD
  have hP : va_P (dC, dI) vwCl [(q, .inr (7, [.int 45, .int 0, .int 0, .int 0, .int 0, .int 100, .int 0, .int 3, .int 6, .int 0, .int 2, .int 0, .int 0, .int 0, .ref s1, .ref k1, .int 0])), (s1, .inl (cS, 10, .inl f20)), (k1, .inl (cP, 14, .inr (.inr (.inr (.inr f37)))))] H := hP
  have hD : va_D A [(q, .inr (7, [.int 45, .int 0, .int 0, .int 0, .int 0, .int 100, .int 0, .int 3, .int 6, .int 0, .int 2, .int 0, .int 0, .int 0, .ref s1, .ref k1, .int 0])), (s1, .inl (cS, 10, .inl f20)), (k1, .inl (cP, 14, .inr (.inr (.inr (.inr f37)))))] := hD
  refine lv_iinc (v := 8) (lv' := [(1, .int 8), (0, .ref q)]) hx hb dX2_startOver_114 hl (k := 0) rfl (by decide) (by decide) rfl (fun ls hl => ?_)
  refine lv_goto (tgt := 101) hx hb dX2_startOver_117 (by decide) ?_
  refine lv_iload_n hx hb dX2_startOver_101 rfl (lv_at hl 0 rfl) ?_
  refine lv_bipush (v := 14) hx hb dX2_startOver_102 (by decide) ?_
  refine lv_icmp_ge (tgt := 120) hx hb dX2_startOver_104 (by decide) (fun c38 => absurd c38 (by decide)) (fun _ => ?_)
  refine lv_aload_n hx hb dX2_startOver_107 rfl (lv_at hl 1 rfl) ?_
  refine va_get (D := (dC, dI)) (ci := 7) (v := .ref k1) (C := RX2) (T := TX2) (N := 17) hx hb hts (by decide +kernel) hown hK hP 0 rfl rfl 15 (by decide) (hts (.fieldLink RX2 17 "Gangline$Party" "pack" "[LGangline$Dog;") (by decide +kernel)) (fun _ h9 => h9) rfl dX2_startOver_108 ?_
  refine lv_iload_n hx hb dX2_startOver_111 rfl (lv_at hl 0 rfl) ?_
  refine lv_null hx hb dX2_startOver_112 ?_
  refine va_astqN hx hb hK hP hD hS 2 1 rfl rfl (by unfold vp_in; decide) dX2_startOver_113 (fun H locs hP hD hS => ?_)
  have hP : va_P (dC, dI) vwCl [(q, .inr (7, [.int 45, .int 0, .int 0, .int 0, .int 0, .int 100, .int 0, .int 3, .int 6, .int 0, .int 2, .int 0, .int 0, .int 0, .ref s1, .ref k1, .int 0])), (s1, .inl (cS, 10, .inl f20)), (k1, .inl (cP, 14, .inr (.inr (.inr (.inr (va_up f37 (8 : Int32).toNatClampNeg none))))))] H := hP
  have hD : va_D A [(q, .inr (7, [.int 45, .int 0, .int 0, .int 0, .int 0, .int 100, .int 0, .int 3, .int 6, .int 0, .int 2, .int 0, .int 0, .int 0, .ref s1, .ref k1, .int 0])), (s1, .inl (cS, 10, .inl f20)), (k1, .inl (cP, 14, .inr (.inr (.inr (.inr (va_up f37 (8 : Int32).toNatClampNeg none))))))] := hD
  generalize (va_up f37 (8 : Int32).toNatClampNeg none) = f39 at hP hD
  have hP : va_P (dC, dI) vwCl [(q, .inr (7, [.int 45, .int 0, .int 0, .int 0, .int 0, .int 100, .int 0, .int 3, .int 6, .int 0, .int 2, .int 0, .int 0, .int 0, .ref s1, .ref k1, .int 0])), (s1, .inl (cS, 10, .inl f20)), (k1, .inl (cP, 14, .inr (.inr (.inr (.inr f39)))))] H := hP
  have hD : va_D A [(q, .inr (7, [.int 45, .int 0, .int 0, .int 0, .int 0, .int 100, .int 0, .int 3, .int 6, .int 0, .int 2, .int 0, .int 0, .int 0, .ref s1, .ref k1, .int 0])), (s1, .inl (cS, 10, .inl f20)), (k1, .inl (cP, 14, .inr (.inr (.inr (.inr f39)))))] := hD
  refine lv_iinc (v := 9) (lv' := [(1, .int 9), (0, .ref q)]) hx hb dX2_startOver_114 hl (k := 0) rfl (by decide) (by decide) rfl (fun ls hl => ?_)
  refine lv_goto (tgt := 101) hx hb dX2_startOver_117 (by decide) ?_
  refine lv_iload_n hx hb dX2_startOver_101 rfl (lv_at hl 0 rfl) ?_
  refine lv_bipush (v := 14) hx hb dX2_startOver_102 (by decide) ?_
  refine lv_icmp_ge (tgt := 120) hx hb dX2_startOver_104 (by decide) (fun c40 => absurd c40 (by decide)) (fun _ => ?_)
  refine lv_aload_n hx hb dX2_startOver_107 rfl (lv_at hl 1 rfl) ?_
  refine va_get (D := (dC, dI)) (ci := 7) (v := .ref k1) (C := RX2) (T := TX2) (N := 17) hx hb hts (by decide +kernel) hown hK hP 0 rfl rfl 15 (by decide) (hts (.fieldLink RX2 17 "Gangline$Party" "pack" "[LGangline$Dog;") (by decide +kernel)) (fun _ h9 => h9) rfl dX2_startOver_108 ?_
  refine lv_iload_n hx hb dX2_startOver_111 rfl (lv_at hl 0 rfl) ?_
  refine lv_null hx hb dX2_startOver_112 ?_
  refine va_astqN hx hb hK hP hD hS 2 1 rfl rfl (by unfold vp_in; decide) dX2_startOver_113 (fun H locs hP hD hS => ?_)
  have hP : va_P (dC, dI) vwCl [(q, .inr (7, [.int 45, .int 0, .int 0, .int 0, .int 0, .int 100, .int 0, .int 3, .int 6, .int 0, .int 2, .int 0, .int 0, .int 0, .ref s1, .ref k1, .int 0])), (s1, .inl (cS, 10, .inl f20)), (k1, .inl (cP, 14, .inr (.inr (.inr (.inr (va_up f39 (9 : Int32).toNatClampNeg none))))))] H := hP
  have hD : va_D A [(q, .inr (7, [.int 45, .int 0, .int 0, .int 0, .int 0, .int 100, .int 0, .int 3, .int 6, .int 0, .int 2, .int 0, .int 0, .int 0, .ref s1, .ref k1, .int 0])), (s1, .inl (cS, 10, .inl f20)), (k1, .inl (cP, 14, .inr (.inr (.inr (.inr (va_up f39 (9 : Int32).toNatClampNeg none))))))] := hD
  generalize (va_up f39 (9 : Int32).toNatClampNeg none) = f41 at hP hD
  have hP : va_P (dC, dI) vwCl [(q, .inr (7, [.int 45, .int 0, .int 0, .int 0, .int 0, .int 100, .int 0, .int 3, .int 6, .int 0, .int 2, .int 0, .int 0, .int 0, .ref s1, .ref k1, .int 0])), (s1, .inl (cS, 10, .inl f20)), (k1, .inl (cP, 14, .inr (.inr (.inr (.inr f41)))))] H := hP
  have hD : va_D A [(q, .inr (7, [.int 45, .int 0, .int 0, .int 0, .int 0, .int 100, .int 0, .int 3, .int 6, .int 0, .int 2, .int 0, .int 0, .int 0, .ref s1, .ref k1, .int 0])), (s1, .inl (cS, 10, .inl f20)), (k1, .inl (cP, 14, .inr (.inr (.inr (.inr f41)))))] := hD
  refine lv_iinc (v := 10) (lv' := [(1, .int 10), (0, .ref q)]) hx hb dX2_startOver_114 hl (k := 0) rfl (by decide) (by decide) rfl (fun ls hl => ?_)
  refine lv_goto (tgt := 101) hx hb dX2_startOver_117 (by decide) ?_
  refine lv_iload_n hx hb dX2_startOver_101 rfl (lv_at hl 0 rfl) ?_
  refine lv_bipush (v := 14) hx hb dX2_startOver_102 (by decide) ?_
  refine lv_icmp_ge (tgt := 120) hx hb dX2_startOver_104 (by decide) (fun c42 => absurd c42 (by decide)) (fun _ => ?_)
  refine lv_aload_n hx hb dX2_startOver_107 rfl (lv_at hl 1 rfl) ?_
  refine va_get (D := (dC, dI)) (ci := 7) (v := .ref k1) (C := RX2) (T := TX2) (N := 17) hx hb hts (by decide +kernel) hown hK hP 0 rfl rfl 15 (by decide) (hts (.fieldLink RX2 17 "Gangline$Party" "pack" "[LGangline$Dog;") (by decide +kernel)) (fun _ h9 => h9) rfl dX2_startOver_108 ?_
  refine lv_iload_n hx hb dX2_startOver_111 rfl (lv_at hl 0 rfl) ?_
  refine lv_null hx hb dX2_startOver_112 ?_
  refine va_astqN hx hb hK hP hD hS 2 1 rfl rfl (by unfold vp_in; decide) dX2_startOver_113 (fun H locs hP hD hS => ?_)
  have hP : va_P (dC, dI) vwCl [(q, .inr (7, [.int 45, .int 0, .int 0, .int 0, .int 0, .int 100, .int 0, .int 3, .int 6, .int 0, .int 2, .int 0, .int 0, .int 0, .ref s1, .ref k1, .int 0])), (s1, .inl (cS, 10, .inl f20)), (k1, .inl (cP, 14, .inr (.inr (.inr (.inr (va_up f41 (10 : Int32).toNatClampNeg none))))))] H := hP
  have hD : va_D A [(q, .inr (7, [.int 45, .int 0, .int 0, .int 0, .int 0, .int 100, .int 0, .int 3, .int 6, .int 0, .int 2, .int 0, .int 0, .int 0, .ref s1, .ref k1, .int 0])), (s1, .inl (cS, 10, .inl f20)), (k1, .inl (cP, 14, .inr (.inr (.inr (.inr (va_up f41 (10 : Int32).toNatClampNeg none))))))] := hD
  generalize (va_up f41 (10 : Int32).toNatClampNeg none) = f43 at hP hD
  have hP : va_P (dC, dI) vwCl [(q, .inr (7, [.int 45, .int 0, .int 0, .int 0, .int 0, .int 100, .int 0, .int 3, .int 6, .int 0, .int 2, .int 0, .int 0, .int 0, .ref s1, .ref k1, .int 0])), (s1, .inl (cS, 10, .inl f20)), (k1, .inl (cP, 14, .inr (.inr (.inr (.inr f43)))))] H := hP
  have hD : va_D A [(q, .inr (7, [.int 45, .int 0, .int 0, .int 0, .int 0, .int 100, .int 0, .int 3, .int 6, .int 0, .int 2, .int 0, .int 0, .int 0, .ref s1, .ref k1, .int 0])), (s1, .inl (cS, 10, .inl f20)), (k1, .inl (cP, 14, .inr (.inr (.inr (.inr f43)))))] := hD
  refine lv_iinc (v := 11) (lv' := [(1, .int 11), (0, .ref q)]) hx hb dX2_startOver_114 hl (k := 0) rfl (by decide) (by decide) rfl (fun ls hl => ?_)
  refine lv_goto (tgt := 101) hx hb dX2_startOver_117 (by decide) ?_
  refine lv_iload_n hx hb dX2_startOver_101 rfl (lv_at hl 0 rfl) ?_
  refine lv_bipush (v := 14) hx hb dX2_startOver_102 (by decide) ?_
  refine lv_icmp_ge (tgt := 120) hx hb dX2_startOver_104 (by decide) (fun c44 => absurd c44 (by decide)) (fun _ => ?_)
  refine lv_aload_n hx hb dX2_startOver_107 rfl (lv_at hl 1 rfl) ?_
  refine va_get (D := (dC, dI)) (ci := 7) (v := .ref k1) (C := RX2) (T := TX2) (N := 17) hx hb hts (by decide +kernel) hown hK hP 0 rfl rfl 15 (by decide) (hts (.fieldLink RX2 17 "Gangline$Party" "pack" "[LGangline$Dog;") (by decide +kernel)) (fun _ h9 => h9) rfl dX2_startOver_108 ?_
  refine lv_iload_n hx hb dX2_startOver_111 rfl (lv_at hl 0 rfl) ?_
  refine lv_null hx hb dX2_startOver_112 ?_
  refine va_astqN hx hb hK hP hD hS 2 1 rfl rfl (by unfold vp_in; decide) dX2_startOver_113 (fun H locs hP hD hS => ?_)
  have hP : va_P (dC, dI) vwCl [(q, .inr (7, [.int 45, .int 0, .int 0, .int 0, .int 0, .int 100, .int 0, .int 3, .int 6, .int 0, .int 2, .int 0, .int 0, .int 0, .ref s1, .ref k1, .int 0])), (s1, .inl (cS, 10, .inl f20)), (k1, .inl (cP, 14, .inr (.inr (.inr (.inr (va_up f43 (11 : Int32).toNatClampNeg none))))))] H := hP
  have hD : va_D A [(q, .inr (7, [.int 45, .int 0, .int 0, .int 0, .int 0, .int 100, .int 0, .int 3, .int 6, .int 0, .int 2, .int 0, .int 0, .int 0, .ref s1, .ref k1, .int 0])), (s1, .inl (cS, 10, .inl f20)), (k1, .inl (cP, 14, .inr (.inr (.inr (.inr (va_up f43 (11 : Int32).toNatClampNeg none))))))] := hD
  generalize (va_up f43 (11 : Int32).toNatClampNeg none) = f45 at hP hD
  have hP : va_P (dC, dI) vwCl [(q, .inr (7, [.int 45, .int 0, .int 0, .int 0, .int 0, .int 100, .int 0, .int 3, .int 6, .int 0, .int 2, .int 0, .int 0, .int 0, .ref s1, .ref k1, .int 0])), (s1, .inl (cS, 10, .inl f20)), (k1, .inl (cP, 14, .inr (.inr (.inr (.inr f45)))))] H := hP
  have hD : va_D A [(q, .inr (7, [.int 45, .int 0, .int 0, .int 0, .int 0, .int 100, .int 0, .int 3, .int 6, .int 0, .int 2, .int 0, .int 0, .int 0, .ref s1, .ref k1, .int 0])), (s1, .inl (cS, 10, .inl f20)), (k1, .inl (cP, 14, .inr (.inr (.inr (.inr f45)))))] := hD
  refine lv_iinc (v := 12) (lv' := [(1, .int 12), (0, .ref q)]) hx hb dX2_startOver_114 hl (k := 0) rfl (by decide) (by decide) rfl (fun ls hl => ?_)
  refine lv_goto (tgt := 101) hx hb dX2_startOver_117 (by decide) ?_
  refine lv_iload_n hx hb dX2_startOver_101 rfl (lv_at hl 0 rfl) ?_
  refine lv_bipush (v := 14) hx hb dX2_startOver_102 (by decide) ?_
  refine lv_icmp_ge (tgt := 120) hx hb dX2_startOver_104 (by decide) (fun c46 => absurd c46 (by decide)) (fun _ => ?_)
  refine lv_aload_n hx hb dX2_startOver_107 rfl (lv_at hl 1 rfl) ?_
  refine va_get (D := (dC, dI)) (ci := 7) (v := .ref k1) (C := RX2) (T := TX2) (N := 17) hx hb hts (by decide +kernel) hown hK hP 0 rfl rfl 15 (by decide) (hts (.fieldLink RX2 17 "Gangline$Party" "pack" "[LGangline$Dog;") (by decide +kernel)) (fun _ h9 => h9) rfl dX2_startOver_108 ?_
  refine lv_iload_n hx hb dX2_startOver_111 rfl (lv_at hl 0 rfl) ?_
  refine lv_null hx hb dX2_startOver_112 ?_
  refine va_astqN hx hb hK hP hD hS 2 1 rfl rfl (by unfold vp_in; decide) dX2_startOver_113 (fun H locs hP hD hS => ?_)
  have hP : va_P (dC, dI) vwCl [(q, .inr (7, [.int 45, .int 0, .int 0, .int 0, .int 0, .int 100, .int 0, .int 3, .int 6, .int 0, .int 2, .int 0, .int 0, .int 0, .ref s1, .ref k1, .int 0])), (s1, .inl (cS, 10, .inl f20)), (k1, .inl (cP, 14, .inr (.inr (.inr (.inr (va_up f45 (12 : Int32).toNatClampNeg none))))))] H := hP
  have hD : va_D A [(q, .inr (7, [.int 45, .int 0, .int 0, .int 0, .int 0, .int 100, .int 0, .int 3, .int 6, .int 0, .int 2, .int 0, .int 0, .int 0, .ref s1, .ref k1, .int 0])), (s1, .inl (cS, 10, .inl f20)), (k1, .inl (cP, 14, .inr (.inr (.inr (.inr (va_up f45 (12 : Int32).toNatClampNeg none))))))] := hD
  generalize (va_up f45 (12 : Int32).toNatClampNeg none) = f47 at hP hD
  have hP : va_P (dC, dI) vwCl [(q, .inr (7, [.int 45, .int 0, .int 0, .int 0, .int 0, .int 100, .int 0, .int 3, .int 6, .int 0, .int 2, .int 0, .int 0, .int 0, .ref s1, .ref k1, .int 0])), (s1, .inl (cS, 10, .inl f20)), (k1, .inl (cP, 14, .inr (.inr (.inr (.inr f47)))))] H := hP
  have hD : va_D A [(q, .inr (7, [.int 45, .int 0, .int 0, .int 0, .int 0, .int 100, .int 0, .int 3, .int 6, .int 0, .int 2, .int 0, .int 0, .int 0, .ref s1, .ref k1, .int 0])), (s1, .inl (cS, 10, .inl f20)), (k1, .inl (cP, 14, .inr (.inr (.inr (.inr f47)))))] := hD
  refine lv_iinc (v := 13) (lv' := [(1, .int 13), (0, .ref q)]) hx hb dX2_startOver_114 hl (k := 0) rfl (by decide) (by decide) rfl (fun ls hl => ?_)
  refine lv_goto (tgt := 101) hx hb dX2_startOver_117 (by decide) ?_
  refine lv_iload_n hx hb dX2_startOver_101 rfl (lv_at hl 0 rfl) ?_
  refine lv_bipush (v := 14) hx hb dX2_startOver_102 (by decide) ?_
  refine lv_icmp_ge (tgt := 120) hx hb dX2_startOver_104 (by decide) (fun c48 => absurd c48 (by decide)) (fun _ => ?_)
  refine lv_aload_n hx hb dX2_startOver_107 rfl (lv_at hl 1 rfl) ?_
  refine va_get (D := (dC, dI)) (ci := 7) (v := .ref k1) (C := RX2) (T := TX2) (N := 17) hx hb hts (by decide +kernel) hown hK hP 0 rfl rfl 15 (by decide) (hts (.fieldLink RX2 17 "Gangline$Party" "pack" "[LGangline$Dog;") (by decide +kernel)) (fun _ h9 => h9) rfl dX2_startOver_108 ?_
  refine lv_iload_n hx hb dX2_startOver_111 rfl (lv_at hl 0 rfl) ?_
  refine lv_null hx hb dX2_startOver_112 ?_
  refine va_astqN hx hb hK hP hD hS 2 1 rfl rfl (by unfold vp_in; decide) dX2_startOver_113 (fun H locs hP hD hS => ?_)
  have hP : va_P (dC, dI) vwCl [(q, .inr (7, [.int 45, .int 0, .int 0, .int 0, .int 0, .int 100, .int 0, .int 3, .int 6, .int 0, .int 2, .int 0, .int 0, .int 0, .ref s1, .ref k1, .int 0])), (s1, .inl (cS, 10, .inl f20)), (k1, .inl (cP, 14, .inr (.inr (.inr (.inr (va_up f47 (13 : Int32).toNatClampNeg none))))))] H := hP
  have hD : va_D A [(q, .inr (7, [.int 45, .int 0, .int 0, .int 0, .int 0, .int 100, .int 0, .int 3, .int 6, .int 0, .int 2, .int 0, .int 0, .int 0, .ref s1, .ref k1, .int 0])), (s1, .inl (cS, 10, .inl f20)), (k1, .inl (cP, 14, .inr (.inr (.inr (.inr (va_up f47 (13 : Int32).toNatClampNeg none))))))] := hD
  generalize (va_up f47 (13 : Int32).toNatClampNeg none) = f49 at hP hD
  have hP : va_P (dC, dI) vwCl [(q, .inr (7, [.int 45, .int 0, .int 0, .int 0, .int 0, .int 100, .int 0, .int 3, .int 6, .int 0, .int 2, .int 0, .int 0, .int 0, .ref s1, .ref k1, .int 0])), (s1, .inl (cS, 10, .inl f20)), (k1, .inl (cP, 14, .inr (.inr (.inr (.inr f49)))))] H := hP
  have hD : va_D A [(q, .inr (7, [.int 45, .int 0, .int 0, .int 0, .int 0, .int 100, .int 0, .int 3, .int 6, .int 0, .int 2, .int 0, .int 0, .int 0, .ref s1, .ref k1, .int 0])), (s1, .inl (cS, 10, .inl f20)), (k1, .inl (cP, 14, .inr (.inr (.inr (.inr f49)))))] := hD
  refine lv_iinc (v := 14) (lv' := [(1, .int 14), (0, .ref q)]) hx hb dX2_startOver_114 hl (k := 0) rfl (by decide) (by decide) rfl (fun ls hl => ?_)
  refine lv_goto (tgt := 101) hx hb dX2_startOver_117 (by decide) ?_
  refine lv_iload_n hx hb dX2_startOver_101 rfl (lv_at hl 0 rfl) ?_
  refine lv_bipush (v := 14) hx hb dX2_startOver_102 (by decide) ?_
  refine lv_icmp_ge (tgt := 120) hx hb dX2_startOver_104 (by decide) (fun _ => ?_) (fun c50 => absurd (by decide) c50)
  have hP9 := hP.sub (ws' := [(q, .inr (7, [.int 45, .int 0, .int 0, .int 0, .int 0, .int 100, .int 0, .int 3, .int 6, .int 0, .int 2, .int 0, .int 0, .int 0, .ref s1, .ref k1, .int 0])), (k1, .inl (cP, 14, .inr (.inr (.inr (.inr f49)))))]) [0, 2] rfl
  have hD9 := hD.sub (ws' := [(q, .inr (7, [.int 45, .int 0, .int 0, .int 0, .int 0, .int 100, .int 0, .int 3, .int 6, .int 0, .int 2, .int 0, .int 0, .int 0, .ref s1, .ref k1, .int 0])), (k1, .inl (cP, 14, .inr (.inr (.inr (.inr f49)))))]) [0, 2] (by decide) rfl
  have hK9 := hK.sub (tys' := [(cS, .int), (cP, (.object RX0))]) [0, 1] rfl
  exact W.vret hx hb hr (fun t ht hW => ⟨⟨(), rfl, trivial, ⟨f49, by rw [ht]; exact hP9, va_K.moved hW.alike hK9, hD9⟩⟩, hS.F ht⟩) hS.2.2 dX2_startOver_120

set_option maxRecDepth 20000 in
theorem ggX2_init_X2_startOver : GoodIn wsX2_init wsX2_startOver := goodIn_ca (goodIn_r _ [12, 13, 14, 15, 16, 17, 18, 19, 20, 21, 22, 23, 24, 25, 26, 27, 5, 7, 28, 29, 30, 31, 32, 33, 34, 35, 36, 37, 38, 39, 40, 41, 42, 43, 44] (by decide +kernel) (by decide +kernel)) (goodIn_sub (fun _ h => List.mem_cons_of_mem _ (List.mem_append_right _ h)) (by decide +kernel))
set_option maxRecDepth 20000 in
theorem gX2_init_X2_startOver : GoodIn wsX2_init (wsV RX2 21 RX2 yX2_startOver wsX2_startOver) := goodIn_app (goodIn_of _ (by decide +kernel)) ggX2_init_X2_startOver
theorem dX2_init_0 : decode cX2_init 0 = .ok (.aload_n 0, 1) := by decide +kernel
theorem dX2_init_1 : decode cX2_init 1 = .ok (.invokespecial 3, 3) := by decide +kernel
theorem dX2_init_4 : decode cX2_init 4 = .ok (.aload_n 0, 1) := by decide +kernel
theorem dX2_init_5 : decode cX2_init 5 = .ok (.bipush 10, 2) := by decide +kernel
theorem dX2_init_7 : decode cX2_init 7 = .ok (.newarray .int, 2) := by decide +kernel
theorem dX2_init_9 : decode cX2_init 9 = .ok (.putfield 9, 3) := by decide +kernel
theorem dX2_init_12 : decode cX2_init 12 = .ok (.aload_n 0, 1) := by decide +kernel
theorem dX2_init_13 : decode cX2_init 13 = .ok (.bipush 14, 2) := by decide +kernel
theorem dX2_init_15 : decode cX2_init 15 = .ok (.anewarray 15, 3) := by decide +kernel
theorem dX2_init_18 : decode cX2_init 18 = .ok (.putfield 17, 3) := by decide +kernel
theorem dX2_init_21 : decode cX2_init 21 = .ok (.aload_n 0, 1) := by decide +kernel
theorem dX2_init_22 : decode cX2_init 22 = .ok (.invokevirtual 21, 3) := by decide +kernel
theorem dX2_init_25 : decode cX2_init 25 = .ok (.return_, 1) := by decide +kernel
set_option maxHeartbeats 4000000 in
set_option maxRecDepth 100000 in
theorem c_X2_init (l : Launch) (htr : l.stackTraces = false) (dC : Nat → ClassId) (dI : Nat → Nat → Nat) (e0 sz : Nat) (q : Nat) : Met l yX2_init wsX2_init ({ frames := 1, cells := 2, slots := 24, locals := 21 }) (va_Pc [.ref q] (fun U => U.heap.size = sz ∧ va_P (dC, dI) vwCl [(q, .inr (7, [.int 0, .int 0, .int 0, .int 0, .int 0, .int 0, .int 0, .int 0, .int 0, .int 0, .int 0, .int 0, .int 0, .int 0, .null, .null, .int 0]))] U.heap ∧ va_K (dC, dI) vwCl [] U ∧ va_D (fun _ => True) [(q, .inr (7, [.int 0, .int 0, .int 0, .int 0, .int 0, .int 0, .int 0, .int 0, .int 0, .int 0, .int 0, .int 0, .int 0, .int 0, .null, .null, .int 0]))] ∧ zE e0 (va_A [(q, .inr (7, [.int 0, .int 0, .int 0, .int 0, .int 0, .int 0, .int 0, .int 0, .int 0, .int 0, .int 0, .int 0, .int 0, .int 0, .null, .null, .int 0]))] sz) U U.heap)) (va_Qv (fun _ : Unit => True) (fun _ t => ∃ (w1 : Nat), ∃ (w2 : Nat), ∃ (cP : ClassId), ∃ (g2 : Nat → Option Nat), va_P (dC, dI) vwCl [(q, .inr (7, [.int 45, .int 0, .int 0, .int 0, .int 0, .int 100, .int 0, .int 3, .int 6, .int 0, .int 2, .int 0, .int 0, .int 0, .ref w1, .ref w2, .int 0])), (w2, .inl (cP, 14, .inr (.inr (.inr (.inr g2)))))] t.heap ∧ va_K (dC, dI) vwCl [(cP, (.object RX0))] t ∧ va_D (va_A [(q, .inr (7, [.int 0, .int 0, .int 0, .int 0, .int 0, .int 0, .int 0, .int 0, .int 0, .int 0, .int 0, .int 0, .int 0, .int 0, .null, .null, .int 0]))] sz) [(q, .inr (7, [.int 45, .int 0, .int 0, .int 0, .int 0, .int 100, .int 0, .int 3, .int 6, .int 0, .int 2, .int 0, .int 0, .int 0, .ref w1, .ref w2, .int 0])), (w2, .inl (cP, 14, .inr (.inr (.inr (.inr g2)))))]) (va_A [(q, .inr (7, [.int 0, .int 0, .int 0, .int 0, .int 0, .int 0, .int 0, .int 0, .int 0, .int 0, .int 0, .int 0, .int 0, .int 0, .null, .null, .int 0]))] sz)) 2 24 (va_A [(q, .inr (7, [.int 0, .int 0, .int 0, .int 0, .int 0, .int 0, .int 0, .int 0, .int 0, .int 0, .int 0, .int 0, .int 0, .int 0, .null, .null, .int 0]))] sz) := by
  refine Met.ofW (cc := cX2_init) (maxL := 1) (ret := none) (by decide) rfl ?_
  intro p e s m args below meth c s₁ B hml hv
  obtain ⟨rfl, hsz, hP, hK, hD0, hE⟩ := hv
  have hx := B.exec
  have hb := B.bytes
  have hr := B.returns
  have hts := atoms_spec (ws := wsX2_init) B.pre
  have hown : s.vm.findClass RX2 = some m.cls := findClass_of_methodNamed B.named
  have hlocks := B.notSynchronized
  have hin : meth.name = "<init>" := (name_of_methodNamed B.named B.method).1
  subst hsz
  have hD := hD0.self (sz := s.heap.size)
  generalize hAe : va_A [(q, .inr (7, [.int 0, .int 0, .int 0, .int 0, .int 0, .int 0, .int 0, .int 0, .int 0, .int 0, .int 0, .int 0, .int 0, .int 0, .null, .null, .int 0]))] s.heap.size = A at hD hE ⊢
  have hA : ∀ q : Nat, s.heap.size ≤ q → A q := fun q h => by rw [← hAe]; exact Or.inr h
  have hS : va_S A s.heap s.heap [] := va_S.rf
  have hl := lv_entry ([.ref q]) (n := 1) (Nat.le_of_ble_eq_true rfl)
  rw [lg_entry_eq]
  generalize (lg_sl ([.ref q]) ++ List.replicate (1 - (lg_sl ([.ref q])).length) Slot.unset).toArray = ls at hl ⊢
  have hl : lv_has ls 1 [(0, .ref q)] := hl
  refine lv_aload_n hx hb dX2_init_0 rfl (lv_at hl 0 rfl) ?_
  refine W.objInit hx hb hown (hts (.methodLink RX2 3 objectInit) (by decide +kernel)) (hts (.instanceMethod objectInit) (by decide +kernel)) (hts (.code objectInit ⟨#[0xb1]⟩ 1 none) (by decide +kernel)) rfl (by rw [hml]; exact hl.1) rfl dX2_init_1 (Nat.le_of_ble_eq_true rfl) (Nat.le_of_ble_eq_true rfl) ?_
  refine W.eq (g2 := F0 m 4 ls []) rfl ?_
  refine lv_aload_n hx hb dX2_init_4 rfl (lv_at hl 0 rfl) ?_
  refine lv_bipush (v := 10) hx hb dX2_init_5 (by decide) ?_
  refine va_newa (atype := .int) (ty := .int) (N' := 10) (a0 := (10, .inl (fun _ => 0))) hx hb (hts (.arrayClass .int) (by decide +kernel)) rfl hK hP hD hS hA (fun _ => rfl) (by decide) (by decide) (by decide) (Nat.le_of_ble_eq_true rfl) (Nat.le_of_ble_eq_true rfl) dX2_init_7 (fun q1 k2 H hK hP hD hS => ?_)
  have hK : va_K (dC, dI) vwCl [(k2, .int)] s := hK
  have hP : va_P (dC, dI) vwCl [(q, .inr (7, [.int 0, .int 0, .int 0, .int 0, .int 0, .int 0, .int 0, .int 0, .int 0, .int 0, .int 0, .int 0, .int 0, .int 0, .null, .null, .int 0])), (q1, .inl (k2, 10, .inl (fun _ => 0)))] H := hP
  have hD : va_D A [(q, .inr (7, [.int 0, .int 0, .int 0, .int 0, .int 0, .int 0, .int 0, .int 0, .int 0, .int 0, .int 0, .int 0, .int 0, .int 0, .null, .null, .int 0])), (q1, .inl (k2, 10, .inl (fun _ => 0)))] := hD
  refine W.widen (k := 1) (n := 10) (by decide) (by decide) ?_
  refine va_putF (D := (dC, dI)) (ci := 7) (v := .ref q1) (ty := (.array .int)) (C := RX2) (T := TX2) (N := 17) hx hb hts (by decide +kernel) tyX2 tyX2_ok nmX2 hown hK hP hD hS 0 rfl rfl 14 (by decide) (hts (.fieldLink RX2 9 "Gangline$Party" "stock" "[I") (by decide +kernel)) (fun _ h9 => h9) rfl hin rfl (by decide +kernel) rfl rfl (Nat.le_of_ble_eq_true rfl) dX2_init_9 (fun H locs hP hD hS => ?_)
  have hP : va_P (dC, dI) vwCl [(q, .inr (7, [.int 0, .int 0, .int 0, .int 0, .int 0, .int 0, .int 0, .int 0, .int 0, .int 0, .int 0, .int 0, .int 0, .int 0, .ref q1, .null, .int 0])), (q1, .inl (k2, 10, .inl (fun _ => 0)))] H := hP
  have hD : va_D A [(q, .inr (7, [.int 0, .int 0, .int 0, .int 0, .int 0, .int 0, .int 0, .int 0, .int 0, .int 0, .int 0, .int 0, .int 0, .int 0, .ref q1, .null, .int 0])), (q1, .inl (k2, 10, .inl (fun _ => 0)))] := hD
  refine lv_aload_n hx hb dX2_init_12 rfl (lv_at hl 0 rfl) ?_
  refine lv_bipush (v := 14) hx hb dX2_init_13 (by decide) ?_
  refine va_newq (C := RX0) (N' := 14) hx hb hown (hts (.classLink RX2 15 RX0) (by decide +kernel)) (zV_A_Gangline_Dog hE.v) hK hP hD hS hA (by decide) (by decide) (by decide) (Nat.le_of_ble_eq_true rfl) (Nat.le_of_ble_eq_true rfl) dX2_init_15 (fun q3 k4 H hK hP hD hS => ?_)
  have hK : va_K (dC, dI) vwCl [(k2, .int), (k4, (.object RX0))] s := hK
  have hP : va_P (dC, dI) vwCl [(q, .inr (7, [.int 0, .int 0, .int 0, .int 0, .int 0, .int 0, .int 0, .int 0, .int 0, .int 0, .int 0, .int 0, .int 0, .int 0, .ref q1, .null, .int 0])), (q1, .inl (k2, 10, .inl (fun _ => 0))), (q3, .inl (k4, 14, .inr (.inr (.inr (.inr (fun _ => none))))))] H := hP
  have hD : va_D A [(q, .inr (7, [.int 0, .int 0, .int 0, .int 0, .int 0, .int 0, .int 0, .int 0, .int 0, .int 0, .int 0, .int 0, .int 0, .int 0, .ref q1, .null, .int 0])), (q1, .inl (k2, 10, .inl (fun _ => 0))), (q3, .inl (k4, 14, .inr (.inr (.inr (.inr (fun _ => none))))))] := hD
  refine W.widen (k := 2) (n := 24) (by decide) (by decide) ?_
  refine va_putF (D := (dC, dI)) (ci := 7) (v := .ref q3) (ty := (.array (.object "Gangline$Dog"))) (C := RX2) (T := TX2) (N := 17) hx hb hts (by decide +kernel) tyX2 tyX2_ok nmX2 hown hK hP hD hS 0 rfl rfl 15 (by decide) (hts (.fieldLink RX2 17 "Gangline$Party" "pack" "[LGangline$Dog;") (by decide +kernel)) (fun _ h9 => h9) rfl hin rfl (by decide +kernel) rfl rfl (Nat.le_of_ble_eq_true rfl) dX2_init_18 (fun H locs hP hD hS => ?_)
  have hP : va_P (dC, dI) vwCl [(q, .inr (7, [.int 0, .int 0, .int 0, .int 0, .int 0, .int 0, .int 0, .int 0, .int 0, .int 0, .int 0, .int 0, .int 0, .int 0, .ref q1, .ref q3, .int 0])), (q1, .inl (k2, 10, .inl (fun _ => 0))), (q3, .inl (k4, 14, .inr (.inr (.inr (.inr (fun _ => none))))))] H := hP
  have hD : va_D A [(q, .inr (7, [.int 0, .int 0, .int 0, .int 0, .int 0, .int 0, .int 0, .int 0, .int 0, .int 0, .int 0, .int 0, .int 0, .int 0, .ref q1, .ref q3, .int 0])), (q1, .inl (k2, 10, .inl (fun _ => 0))), (q3, .inl (k4, 14, .inr (.inr (.inr (.inr (fun _ => none))))))] := hD
  refine lv_aload_n hx hb dX2_init_21 rfl (lv_at hl 0 rfl) ?_
  have hPc := hP.sub (ws' := [(q, .inr (7, [.int 0, .int 0, .int 0, .int 0, .int 0, .int 0, .int 0, .int 0, .int 0, .int 0, .int 0, .int 0, .int 0, .int 0, .ref q1, .ref q3, .int 0])), (q1, .inl (k2, 10, .inl (fun _ => 0))), (q3, .inl (k4, 14, .inr (.inr (.inr (.inr (fun _ => none))))))]) [0, 1, 2] rfl
  have hDc := hD.sub (ws' := [(q, .inr (7, [.int 0, .int 0, .int 0, .int 0, .int 0, .int 0, .int 0, .int 0, .int 0, .int 0, .int 0, .int 0, .int 0, .int 0, .ref q1, .ref q3, .int 0])), (q1, .inl (k2, 10, .inl (fun _ => 0))), (q3, .inl (k4, 14, .inr (.inr (.inr (.inr (fun _ => none))))))]) [0, 1, 2] (by decide) rfl
  have hKc := hK.sub (tys' := [(k2, .int), (k4, (.object RX0))]) [0, 1] rfl
  have hFc := va_free (wc := [(q, .inr (7, [.int 0, .int 0, .int 0, .int 0, .int 0, .int 0, .int 0, .int 0, .int 0, .int 0, .int 0, .int 0, .int 0, .int 0, .ref q1, .ref q3, .int 0])), (q1, .inl (k2, 10, .inl (fun _ => 0))), (q3, .inl (k4, 14, .inr (.inr (.inr (.inr (fun _ => none))))))]) hD hS hA [0, 1, 2] rfl
  refine va_callv (va_runV (As := []) (rest := []) ⟨hx, hb, hml, hown, hts⟩ (c_X2_startOver l htr dC dI e0 H.size q q1 q3 k2 k4 (fun _ => 0) (fun _ => none)) (cwV 0 hts gX2_init_X2_startOver rfl rfl rfl (by decide +kernel) ⟨Nat.le_of_ble_eq_true rfl, Nat.le_of_ble_eq_true rfl⟩) ⟨fun a U g mk q => by obtain ⟨q0, q1, qP, qK, qD⟩ := q; exact ⟨q0, q1, qP, va_K.moved (u := U) (U := U.calling g mk a) (Vm.Alike.refl U.vm) qK, qD⟩, va_recv hKc hPc (ci := 7) (q0 := 0) rfl rfl, fun U hU hW => ⟨rfl, by rw [hU], by rw [hU]; exact hPc, va_K.moved hW.alike hKc, hDc.weaken (fun _ _ _ _ => trivial)⟩⟩ rfl rfl hl.1 rfl (lv_room (Nat.le_of_ble_eq_true rfl)) dX2_init_22 ⟨Nat.le_of_ble_eq_true rfl, Nat.le_of_ble_eq_true rfl⟩) hS (fun q _ h => hFc q h) hFc (fun u t H1 locs ht hvm hw hB hz1 hk1 hS => ?_)
  obtain ⟨q5, hP1, hK1, hD1⟩ := hB
  rw [ht] at hP1
  obtain ⟨hP, hD⟩ := va_join (wr := []) (w1 := [(q, .inr (7, [.int 45, .int 0, .int 0, .int 0, .int 0, .int 100, .int 0, .int 3, .int 6, .int 0, .int 2, .int 0, .int 0, .int 0, .ref q1, .ref q3, .int 0])), (q3, .inl (k4, 14, .inr (.inr (.inr (.inr q5)))))]) hP hD [0, 1, 2] [] rfl rfl (by decide) (by decide) hk1 hFc hP1 hD1
  generalize H1 = H at hP hS ⊢
  have hP : va_P (dC, dI) vwCl [(q, .inr (7, [.int 45, .int 0, .int 0, .int 0, .int 0, .int 100, .int 0, .int 3, .int 6, .int 0, .int 2, .int 0, .int 0, .int 0, .ref q1, .ref q3, .int 0])), (q3, .inl (k4, 14, .inr (.inr (.inr (.inr q5)))))] H := hP
  have hD : va_D A [(q, .inr (7, [.int 45, .int 0, .int 0, .int 0, .int 0, .int 100, .int 0, .int 3, .int 6, .int 0, .int 2, .int 0, .int 0, .int 0, .ref q1, .ref q3, .int 0])), (q3, .inl (k4, 14, .inr (.inr (.inr (.inr q5)))))] := hD
  have hP9 := hP.sub (ws' := [(q, .inr (7, [.int 45, .int 0, .int 0, .int 0, .int 0, .int 100, .int 0, .int 3, .int 6, .int 0, .int 2, .int 0, .int 0, .int 0, .ref q1, .ref q3, .int 0])), (q3, .inl (k4, 14, .inr (.inr (.inr (.inr q5)))))]) [0, 1] rfl
  have hD9 := hD.sub (ws' := [(q, .inr (7, [.int 45, .int 0, .int 0, .int 0, .int 0, .int 100, .int 0, .int 3, .int 6, .int 0, .int 2, .int 0, .int 0, .int 0, .ref q1, .ref q3, .int 0])), (q3, .inl (k4, 14, .inr (.inr (.inr (.inr q5)))))]) [0, 1] (by decide) rfl
  have hK9 := hK.sub (tys' := [(k4, (.object RX0))]) [1] rfl
  exact W.vret hx hb hr (fun t ht hW => ⟨⟨(), rfl, trivial, ⟨q1, q3, k4, q5, by rw [ht]; exact hP9, va_K.moved hW.alike hK9, hD9⟩⟩, hS.F ht⟩) hS.2.2 dX2_init_25

set_option maxRecDepth 20000 in
theorem ggX5_init_X2_init : GoodIn wsX5_init wsX2_init := goodIn_ca (goodIn_r _ [15, 16, 2, 3, 17, 18, 19, 20, 21, 22, 23, 6, 24, 25, 26, 27, 28, 29, 30, 31, 32, 33, 34, 35, 36, 37, 38, 39, 46, 47, 48, 49, 50, 51, 52, 53, 54, 55, 56, 57, 58, 59, 60, 61, 62] (by decide +kernel) (by decide +kernel)) (goodIn_sub (fun _ h => List.mem_cons_of_mem _ (List.mem_append_right _ h)) (by decide +kernel))
set_option maxRecDepth 20000 in
theorem gX5_init_X2_init : GoodIn wsX5_init (wsX2_init) := ggX5_init_X2_init
set_option maxRecDepth 20000 in
theorem ggX5_init_X3_init : GoodIn wsX5_init wsX3_init := goodIn_r _ [41, 42, 2, 3, 43, 44, 17, 45, 68, 69, 70] (by decide +kernel) (by decide +kernel)
set_option maxRecDepth 20000 in
theorem gX5_init_X3_init_n20 : GoodIn wsX5_init (wsX3_init) := ggX5_init_X3_init
theorem dX5_init_0 : decode cX5_init 0 = .ok (.aload_n 0, 1) := by decide +kernel
theorem dX5_init_1 : decode cX5_init 1 = .ok (.invokespecial 3, 3) := by decide +kernel
theorem dX5_init_4 : decode cX5_init 4 = .ok (.aload_n 0, 1) := by decide +kernel
theorem dX5_init_5 : decode cX5_init 5 = .ok (.new 9, 3) := by decide +kernel
theorem dX5_init_8 : decode cX5_init 8 = .ok (.dup, 1) := by decide +kernel
theorem dX5_init_9 : decode cX5_init 9 = .ok (.invokespecial 11, 3) := by decide +kernel
theorem dX5_init_12 : decode cX5_init 12 = .ok (.putfield 12, 3) := by decide +kernel
theorem dX5_init_15 : decode cX5_init 15 = .ok (.aload_n 0, 1) := by decide +kernel
theorem dX5_init_16 : decode cX5_init 16 = .ok (.new 18, 3) := by decide +kernel
theorem dX5_init_19 : decode cX5_init 19 = .ok (.dup, 1) := by decide +kernel
theorem dX5_init_20 : decode cX5_init 20 = .ok (.invokespecial 20, 3) := by decide +kernel
theorem dX5_init_23 : decode cX5_init 23 = .ok (.putfield 21, 3) := by decide +kernel
theorem dX5_init_26 : decode cX5_init 26 = .ok (.aload_n 0, 1) := by decide +kernel
theorem dX5_init_27 : decode cX5_init 27 = .ok (.bipush 45, 2) := by decide +kernel
theorem dX5_init_29 : decode cX5_init 29 = .ok (.putfield 25, 3) := by decide +kernel
theorem dX5_init_32 : decode cX5_init 32 = .ok (.return_, 1) := by decide +kernel
set_option maxHeartbeats 4000000 in
set_option maxRecDepth 100000 in
theorem c_X5_init (l : Launch) (htr : l.stackTraces = false) (dC : Nat → ClassId) (dI : Nat → Nat → Nat) (e0 sz : Nat) (q : Nat) : Met l yX5_init wsX5_init ({ frames := 2, cells := 6, slots := 68, locals := 41 }) (va_Pc [.ref q] (fun U => U.heap.size = sz ∧ va_P (dC, dI) vwCl [(q, .inr (10, [.null, .null, .int 0, .int 0, .int 0]))] U.heap ∧ va_K (dC, dI) vwCl [] U ∧ va_D (fun _ => True) [(q, .inr (10, [.null, .null, .int 0, .int 0, .int 0]))] ∧ zE e0 (va_A [(q, .inr (10, [.null, .null, .int 0, .int 0, .int 0]))] sz) U U.heap)) (va_Qv (fun _ : Unit => True) (fun _ t => ∃ (w1 : Nat), ∃ (w2 : Nat), va_P (dC, dI) vwCl [(q, .inr (10, [.ref w1, .ref w2, .int 0, .int 0, .int 45]))] t.heap ∧ va_K (dC, dI) vwCl [] t ∧ va_D (va_A [(q, .inr (10, [.null, .null, .int 0, .int 0, .int 0]))] sz) [(q, .inr (10, [.ref w1, .ref w2, .int 0, .int 0, .int 45]))]) (va_A [(q, .inr (10, [.null, .null, .int 0, .int 0, .int 0]))] sz)) 6 68 (va_A [(q, .inr (10, [.null, .null, .int 0, .int 0, .int 0]))] sz) := by
  refine Met.ofW (cc := cX5_init) (maxL := 1) (ret := none) (by decide) rfl ?_
  intro p e s m args below meth c s₁ B hml hv
  obtain ⟨rfl, hsz, hP, hK, hD0, hE⟩ := hv
  have hx := B.exec
  have hb := B.bytes
  have hr := B.returns
  have hts := atoms_spec (ws := wsX5_init) B.pre
  have hown : s.vm.findClass RX5 = some m.cls := findClass_of_methodNamed B.named
  have hlocks := B.notSynchronized
  have hin : meth.name = "<init>" := (name_of_methodNamed B.named B.method).1
  subst hsz
  have hD := hD0.self (sz := s.heap.size)
  generalize hAe : va_A [(q, .inr (10, [.null, .null, .int 0, .int 0, .int 0]))] s.heap.size = A at hD hE ⊢
  have hA : ∀ q : Nat, s.heap.size ≤ q → A q := fun q h => by rw [← hAe]; exact Or.inr h
  have hS : va_S A s.heap s.heap [] := va_S.rf
  have hl := lv_entry ([.ref q]) (n := 1) (Nat.le_of_ble_eq_true rfl)
  rw [lg_entry_eq]
  generalize (lg_sl ([.ref q]) ++ List.replicate (1 - (lg_sl ([.ref q])).length) Slot.unset).toArray = ls at hl ⊢
  have hl : lv_has ls 1 [(0, .ref q)] := hl
  refine lv_aload_n hx hb dX5_init_0 rfl (lv_at hl 0 rfl) ?_
  refine W.objInit hx hb hown (hts (.methodLink RX5 3 objectInit) (by decide +kernel)) (hts (.instanceMethod objectInit) (by decide +kernel)) (hts (.code objectInit ⟨#[0xb1]⟩ 1 none) (by decide +kernel)) rfl (by rw [hml]; exact hl.1) rfl dX5_init_1 (Nat.le_of_ble_eq_true rfl) (Nat.le_of_ble_eq_true rfl) ?_
  refine W.eq (g2 := F0 m 4 ls []) rfl ?_
  refine lv_aload_n hx hb dX5_init_4 rfl (lv_at hl 0 rfl) ?_
  refine va_new (ci := 7) (fs := [.int 0, .int 0, .int 0, .int 0, .int 0, .int 0, .int 0, .int 0, .int 0, .int 0, .int 0, .int 0, .int 0, .int 0, .null, .null, .int 0]) (C := RX2) (T := TX2) (N := 17) hx hb hts (by decide +kernel) tyX2 tyX2_ok hown (hts (.classLink RX5 9 RX2) (by decide +kernel)) (hts (.instantiable RX2 17) (by decide +kernel)) (hts (.initialized RX2) (by decide +kernel)) hK hP hD hS hA rfl (fun j hj => by rcases (show j = 0 ∨ j = 1 ∨ j = 2 ∨ j = 3 ∨ j = 4 ∨ j = 5 ∨ j = 6 ∨ j = 7 ∨ j = 8 ∨ j = 9 ∨ j = 10 ∨ j = 11 ∨ j = 12 ∨ j = 13 ∨ j = 14 ∨ j = 15 ∨ j = 16 by omega) with rfl | rfl | rfl | rfl | rfl | rfl | rfl | rfl | rfl | rfl | rfl | rfl | rfl | rfl | rfl | rfl | rfl <;> rfl) (Nat.le_of_ble_eq_true rfl) (Nat.le_of_ble_eq_true rfl) dX5_init_5 (fun q1 H hP hD hS => ?_)
  have hP : va_P (dC, dI) vwCl [(q, .inr (10, [.null, .null, .int 0, .int 0, .int 0])), (q1, .inr (7, [.int 0, .int 0, .int 0, .int 0, .int 0, .int 0, .int 0, .int 0, .int 0, .int 0, .int 0, .int 0, .int 0, .int 0, .null, .null, .int 0]))] H := hP
  have hD : va_D A [(q, .inr (10, [.null, .null, .int 0, .int 0, .int 0])), (q1, .inr (7, [.int 0, .int 0, .int 0, .int 0, .int 0, .int 0, .int 0, .int 0, .int 0, .int 0, .int 0, .int 0, .int 0, .int 0, .null, .null, .int 0]))] := hD
  refine W.widen (k := 1) (n := 17) (by decide) (by decide) ?_
  refine lv_dup hx hb dX5_init_8 rfl ?_
  have hPc := hP.sub (ws' := [(q1, .inr (7, [.int 0, .int 0, .int 0, .int 0, .int 0, .int 0, .int 0, .int 0, .int 0, .int 0, .int 0, .int 0, .int 0, .int 0, .null, .null, .int 0]))]) [1] rfl
  have hDc := hD.sub (ws' := [(q1, .inr (7, [.int 0, .int 0, .int 0, .int 0, .int 0, .int 0, .int 0, .int 0, .int 0, .int 0, .int 0, .int 0, .int 0, .int 0, .null, .null, .int 0]))]) [1] (by decide) rfl
  have hKc := hK.sub (tys' := []) [] rfl
  have hFc := va_free (wc := [(q1, .inr (7, [.int 0, .int 0, .int 0, .int 0, .int 0, .int 0, .int 0, .int 0, .int 0, .int 0, .int 0, .int 0, .int 0, .int 0, .null, .null, .int 0]))]) hD hS hA [1] rfl
  have hEc := (hE.kept hS.2.1).narrow hFc
  refine va_callv (va_runI (As := []) (rest := [.ref q1, .ref q]) ⟨hx, hb, hml, hown, hts⟩ (c_X2_init l htr dC dI e0 H.size q1) (cwI 0 hts gX5_init_X2_init rfl rfl rfl (hts (.initialized RX2) (by decide +kernel)) (hts (.methodLink RX5 11 yX2_init) (by decide +kernel)) (hts (.instanceMethod yX2_init) (by decide +kernel)) rfl (by decide +kernel) ⟨Nat.le_of_ble_eq_true rfl, Nat.le_of_ble_eq_true rfl⟩) ⟨fun a U g mk q => by obtain ⟨q0, q1, qP, qK, qD, qE⟩ := q; exact ⟨q0, q1, qP, va_K.moved (u := U) (U := U.calling g mk a) (Vm.Alike.refl U.vm) qK, qD, zE.same rfl qE⟩, fun U hU hW => ⟨rfl, by rw [hU], by rw [hU]; exact hPc, va_K.moved hW.alike hKc, hDc.weaken (fun _ _ _ _ => trivial), by rw [hU]; exact zE.warm hW hEc⟩⟩ rfl rfl hl.1 rfl (lv_room (Nat.le_of_ble_eq_true rfl)) dX5_init_9 ⟨Nat.le_of_ble_eq_true rfl, Nat.le_of_ble_eq_true rfl⟩) hS (fun q _ h => hFc q h) hFc (fun u t H1 locs ht hvm hw hB hz1 hk1 hS => ?_)
  obtain ⟨q2, q3, q4, q5, hP1, hK1, hD1⟩ := hB
  rw [ht] at hP1
  obtain ⟨hP, hD⟩ := va_join (wr := [(q, .inr (10, [.null, .null, .int 0, .int 0, .int 0]))]) (w1 := [(q1, .inr (7, [.int 45, .int 0, .int 0, .int 0, .int 0, .int 100, .int 0, .int 3, .int 6, .int 0, .int 2, .int 0, .int 0, .int 0, .ref q2, .ref q3, .int 0])), (q3, .inl (q4, 14, .inr (.inr (.inr (.inr q5)))))]) hP hD [1] [0] rfl rfl (by decide) (by decide) hk1 hFc hP1 hD1
  generalize H1 = H at hP hS ⊢
  have hP : va_P (dC, dI) vwCl [(q, .inr (10, [.null, .null, .int 0, .int 0, .int 0])), (q1, .inr (7, [.int 45, .int 0, .int 0, .int 0, .int 0, .int 100, .int 0, .int 3, .int 6, .int 0, .int 2, .int 0, .int 0, .int 0, .ref q2, .ref q3, .int 0])), (q3, .inl (q4, 14, .inr (.inr (.inr (.inr q5)))))] H := hP
  have hD : va_D A [(q, .inr (10, [.null, .null, .int 0, .int 0, .int 0])), (q1, .inr (7, [.int 45, .int 0, .int 0, .int 0, .int 0, .int 100, .int 0, .int 3, .int 6, .int 0, .int 2, .int 0, .int 0, .int 0, .ref q2, .ref q3, .int 0])), (q3, .inl (q4, 14, .inr (.inr (.inr (.inr q5)))))] := hD
  have hK := hK.app ((va_K.moved hvm.symm hK1).sub (tys' := [(q4, (.object RX0))]) [0] rfl)
  have hK : va_K (dC, dI) vwCl [(q4, (.object RX0))] s := hK
  refine va_putF (D := (dC, dI)) (ci := 10) (v := .ref q1) (ty := (.object "Gangline$Party")) (C := RX5) (T := TX5) (N := 5) hx hb hts (by decide +kernel) tyX5 tyX5_ok nmX5 hown hK hP hD hS 0 rfl rfl 0 (by decide) (hts (.fieldLink RX5 12 "Gangline$Team" "party" "LGangline$Party;") (by decide +kernel)) (fun _ h9 => h9) rfl hin rfl (by decide +kernel) rfl rfl (Nat.le_of_ble_eq_true rfl) dX5_init_12 (fun H locs hP hD hS => ?_)
  have hP : va_P (dC, dI) vwCl [(q, .inr (10, [.ref q1, .null, .int 0, .int 0, .int 0])), (q1, .inr (7, [.int 45, .int 0, .int 0, .int 0, .int 0, .int 100, .int 0, .int 3, .int 6, .int 0, .int 2, .int 0, .int 0, .int 0, .ref q2, .ref q3, .int 0])), (q3, .inl (q4, 14, .inr (.inr (.inr (.inr q5)))))] H := hP
  have hD : va_D A [(q, .inr (10, [.ref q1, .null, .int 0, .int 0, .int 0])), (q1, .inr (7, [.int 45, .int 0, .int 0, .int 0, .int 0, .int 100, .int 0, .int 3, .int 6, .int 0, .int 2, .int 0, .int 0, .int 0, .ref q2, .ref q3, .int 0])), (q3, .inl (q4, 14, .inr (.inr (.inr (.inr q5)))))] := hD
  refine lv_aload_n hx hb dX5_init_15 rfl (lv_at hl 0 rfl) ?_
  refine va_new (ci := 8) (fs := [.null, .null, .int 0]) (C := RX3) (T := TX3) (N := 3) hx hb hts (by decide +kernel) tyX3 tyX3_ok hown (hts (.classLink RX5 18 RX3) (by decide +kernel)) (hts (.instantiable RX3 3) (by decide +kernel)) (hts (.initialized RX3) (by decide +kernel)) hK hP hD hS hA rfl (fun j hj => by rcases (show j = 0 ∨ j = 1 ∨ j = 2 by omega) with rfl | rfl | rfl <;> rfl) (Nat.le_of_ble_eq_true rfl) (Nat.le_of_ble_eq_true rfl) dX5_init_16 (fun q6 H hP hD hS => ?_)
  have hP : va_P (dC, dI) vwCl [(q, .inr (10, [.ref q1, .null, .int 0, .int 0, .int 0])), (q1, .inr (7, [.int 45, .int 0, .int 0, .int 0, .int 0, .int 100, .int 0, .int 3, .int 6, .int 0, .int 2, .int 0, .int 0, .int 0, .ref q2, .ref q3, .int 0])), (q3, .inl (q4, 14, .inr (.inr (.inr (.inr q5))))), (q6, .inr (8, [.null, .null, .int 0]))] H := hP
  have hD : va_D A [(q, .inr (10, [.ref q1, .null, .int 0, .int 0, .int 0])), (q1, .inr (7, [.int 45, .int 0, .int 0, .int 0, .int 0, .int 100, .int 0, .int 3, .int 6, .int 0, .int 2, .int 0, .int 0, .int 0, .ref q2, .ref q3, .int 0])), (q3, .inl (q4, 14, .inr (.inr (.inr (.inr q5))))), (q6, .inr (8, [.null, .null, .int 0]))] := hD
  refine W.widen (k := 4) (n := 44) (by decide) (by decide) ?_
  refine lv_dup hx hb dX5_init_19 rfl ?_
  have hPc := hP.sub (ws' := [(q6, .inr (8, [.null, .null, .int 0]))]) [3] rfl
  have hDc := hD.sub (ws' := [(q6, .inr (8, [.null, .null, .int 0]))]) [3] (by decide) rfl
  have hKc := hK.sub (tys' := []) [] rfl
  have hFc := va_free (wc := [(q6, .inr (8, [.null, .null, .int 0]))]) hD hS hA [3] rfl
  refine va_callv (va_runIN (As := []) (rest := [.ref q6, .ref q]) ⟨hx, hb, hml, hown, hts⟩ (c_X3_init l htr dC dI e0 H.size q6) ⟨va_cnB 0 hts gX5_init_X3_init_n20 rfl rfl rfl (zV_M20_Gangline_Team hE.v) (hts (.initialized RX3) (by decide +kernel)) (by decide +kernel) ⟨Nat.le_of_ble_eq_true rfl, Nat.le_of_ble_eq_true rfl⟩, rfl, hts (.instanceMethod yX3_init) (by decide +kernel)⟩ ⟨fun a U g mk q => by obtain ⟨q0, q1, qP, qK, qD⟩ := q; exact ⟨q0, q1, qP, va_K.moved (u := U) (U := U.calling g mk a) (Vm.Alike.refl U.vm) qK, qD⟩, fun U hU hW => ⟨rfl, by rw [hU], by rw [hU]; exact hPc, va_K.moved hW.alike hKc, hDc.weaken (fun _ _ _ _ => trivial)⟩⟩ rfl rfl hl.1 rfl (lv_room (Nat.le_of_ble_eq_true rfl)) dX5_init_20 ⟨Nat.le_of_ble_eq_true rfl, Nat.le_of_ble_eq_true rfl⟩) hS (fun q _ h => hFc q h) hFc (fun u t H1 locs ht hvm hw hB hz1 hk1 hS => ?_)
  obtain ⟨q7, q8, hP1, hK1, hD1⟩ := hB
  rw [ht] at hP1
  obtain ⟨hP, hD⟩ := va_join (wr := [(q, .inr (10, [.ref q1, .null, .int 0, .int 0, .int 0])), (q1, .inr (7, [.int 45, .int 0, .int 0, .int 0, .int 0, .int 100, .int 0, .int 3, .int 6, .int 0, .int 2, .int 0, .int 0, .int 0, .ref q2, .ref q3, .int 0])), (q3, .inl (q4, 14, .inr (.inr (.inr (.inr q5)))))]) (w1 := [(q6, .inr (8, [.ref q7, .ref q8, .int 0]))]) hP hD [3] [0, 1, 2] rfl rfl (by decide) (by decide) hk1 hFc hP1 hD1
  generalize H1 = H at hP hS ⊢
  have hP : va_P (dC, dI) vwCl [(q, .inr (10, [.ref q1, .null, .int 0, .int 0, .int 0])), (q1, .inr (7, [.int 45, .int 0, .int 0, .int 0, .int 0, .int 100, .int 0, .int 3, .int 6, .int 0, .int 2, .int 0, .int 0, .int 0, .ref q2, .ref q3, .int 0])), (q3, .inl (q4, 14, .inr (.inr (.inr (.inr q5))))), (q6, .inr (8, [.ref q7, .ref q8, .int 0]))] H := hP
  have hD : va_D A [(q, .inr (10, [.ref q1, .null, .int 0, .int 0, .int 0])), (q1, .inr (7, [.int 45, .int 0, .int 0, .int 0, .int 0, .int 100, .int 0, .int 3, .int 6, .int 0, .int 2, .int 0, .int 0, .int 0, .ref q2, .ref q3, .int 0])), (q3, .inl (q4, 14, .inr (.inr (.inr (.inr q5))))), (q6, .inr (8, [.ref q7, .ref q8, .int 0]))] := hD
  refine va_putF (D := (dC, dI)) (ci := 10) (v := .ref q6) (ty := (.object "Gangline$Plan")) (C := RX5) (T := TX5) (N := 5) hx hb hts (by decide +kernel) tyX5 tyX5_ok nmX5 hown hK hP hD hS 0 rfl rfl 1 (by decide) (hts (.fieldLink RX5 21 "Gangline$Team" "plan" "LGangline$Plan;") (by decide +kernel)) (fun _ h9 => h9) rfl hin rfl (by decide +kernel) rfl rfl (Nat.le_of_ble_eq_true rfl) dX5_init_23 (fun H locs hP hD hS => ?_)
  have hP : va_P (dC, dI) vwCl [(q, .inr (10, [.ref q1, .ref q6, .int 0, .int 0, .int 0])), (q1, .inr (7, [.int 45, .int 0, .int 0, .int 0, .int 0, .int 100, .int 0, .int 3, .int 6, .int 0, .int 2, .int 0, .int 0, .int 0, .ref q2, .ref q3, .int 0])), (q3, .inl (q4, 14, .inr (.inr (.inr (.inr q5))))), (q6, .inr (8, [.ref q7, .ref q8, .int 0]))] H := hP
  have hD : va_D A [(q, .inr (10, [.ref q1, .ref q6, .int 0, .int 0, .int 0])), (q1, .inr (7, [.int 45, .int 0, .int 0, .int 0, .int 0, .int 100, .int 0, .int 3, .int 6, .int 0, .int 2, .int 0, .int 0, .int 0, .ref q2, .ref q3, .int 0])), (q3, .inl (q4, 14, .inr (.inr (.inr (.inr q5))))), (q6, .inr (8, [.ref q7, .ref q8, .int 0]))] := hD
  refine lv_aload_n hx hb dX5_init_26 rfl (lv_at hl 0 rfl) ?_
  refine lv_bipush (v := 45) hx hb dX5_init_27 (by decide) ?_
  refine va_put (D := (dC, dI)) (ci := 10) (v := .int 45) (ty := .char) (C := RX5) (T := TX5) (N := 5) hx hb hts (by decide +kernel) tyX5 tyX5_ok nmX5 hown hK hP hD hS 0 rfl rfl 4 (by decide) (hts (.fieldLink RX5 25 "Gangline$Team" "why" "C") (by decide +kernel)) (fun _ h9 => h9) rfl (by decide +kernel) (by decide) (by decide) (Nat.le_of_ble_eq_true rfl) dX5_init_29 (fun H locs hP hD hS => ?_)
  have hP : va_P (dC, dI) vwCl [(q, .inr (10, [.ref q1, .ref q6, .int 0, .int 0, .int 45])), (q1, .inr (7, [.int 45, .int 0, .int 0, .int 0, .int 0, .int 100, .int 0, .int 3, .int 6, .int 0, .int 2, .int 0, .int 0, .int 0, .ref q2, .ref q3, .int 0])), (q3, .inl (q4, 14, .inr (.inr (.inr (.inr q5))))), (q6, .inr (8, [.ref q7, .ref q8, .int 0]))] H := hP
  have hD : va_D A [(q, .inr (10, [.ref q1, .ref q6, .int 0, .int 0, .int 45])), (q1, .inr (7, [.int 45, .int 0, .int 0, .int 0, .int 0, .int 100, .int 0, .int 3, .int 6, .int 0, .int 2, .int 0, .int 0, .int 0, .ref q2, .ref q3, .int 0])), (q3, .inl (q4, 14, .inr (.inr (.inr (.inr q5))))), (q6, .inr (8, [.ref q7, .ref q8, .int 0]))] := hD
  have hP9 := hP.sub (ws' := [(q, .inr (10, [.ref q1, .ref q6, .int 0, .int 0, .int 45]))]) [0] rfl
  have hD9 := hD.sub (ws' := [(q, .inr (10, [.ref q1, .ref q6, .int 0, .int 0, .int 45]))]) [0] (by decide) rfl
  have hK9 := hK.sub (tys' := []) [] rfl
  exact W.vret hx hb hr (fun t ht hW => ⟨⟨(), rfl, trivial, ⟨q1, q6, by rw [ht]; exact hP9, va_K.moved hW.alike hK9, hD9⟩⟩, hS.F ht⟩) hS.2.2 dX5_init_32
