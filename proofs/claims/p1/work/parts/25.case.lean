theorem dL_law_2511 : decode cL_law 2511 = .ok (.aload_n 1, 1) := by decide +kernel
theorem dL_law_2512 : decode cL_law 2512 = .ok (.aload_n 0, 1) := by decide +kernel
theorem dL_law_2513 : decode cL_law 2513 = .ok (.iload 5, 2) := by decide +kernel
theorem dL_law_2515 : decode cL_law 2515 = .ok (.iconst 1, 1) := by decide +kernel
theorem dL_law_2516 : decode cL_law 2516 = .ok (.iadd, 1) := by decide +kernel
theorem dL_law_2517 : decode cL_law 2517 = .ok (.iaload, 1) := by decide +kernel
theorem dL_law_2518 : decode cL_law 2518 = .ok (.aload_n 0, 1) := by decide +kernel
theorem dL_law_2519 : decode cL_law 2519 = .ok (.iload 5, 2) := by decide +kernel
theorem dL_law_2521 : decode cL_law 2521 = .ok (.iconst 2, 1) := by decide +kernel
theorem dL_law_2522 : decode cL_law 2522 = .ok (.iadd, 1) := by decide +kernel
theorem dL_law_2523 : decode cL_law 2523 = .ok (.iaload, 1) := by decide +kernel
theorem dL_law_2524 : decode cL_law 2524 = .ok (.i2c, 1) := by decide +kernel
theorem dL_law_2525 : decode cL_law 2525 = .ok (.aload_n 3, 1) := by decide +kernel
theorem dL_law_2526 : decode cL_law 2526 = .ok (.invokestatic 292, 3) := by decide +kernel
theorem dL_law_2529 : decode cL_law 2529 = .ok (.istore 6, 2) := by decide +kernel
theorem dL_law_2531 : decode cL_law 2531 = .ok (.aload_n 2, 1) := by decide +kernel
theorem dL_law_2532 : decode cL_law 2532 = .ok (.aload_n 0, 1) := by decide +kernel
theorem dL_law_2533 : decode cL_law 2533 = .ok (.iload 5, 2) := by decide +kernel
theorem dL_law_2535 : decode cL_law 2535 = .ok (.iconst 1, 1) := by decide +kernel
theorem dL_law_2536 : decode cL_law 2536 = .ok (.iadd, 1) := by decide +kernel
theorem dL_law_2537 : decode cL_law 2537 = .ok (.iaload, 1) := by decide +kernel
theorem dL_law_2538 : decode cL_law 2538 = .ok (.aload_n 0, 1) := by decide +kernel
theorem dL_law_2539 : decode cL_law 2539 = .ok (.iload 5, 2) := by decide +kernel
theorem dL_law_2541 : decode cL_law 2541 = .ok (.iconst 2, 1) := by decide +kernel
theorem dL_law_2542 : decode cL_law 2542 = .ok (.iadd, 1) := by decide +kernel
theorem dL_law_2543 : decode cL_law 2543 = .ok (.iaload, 1) := by decide +kernel
theorem dL_law_2544 : decode cL_law 2544 = .ok (.i2c, 1) := by decide +kernel
theorem dL_law_2545 : decode cL_law 2545 = .ok (.invokevirtual 294, 3) := by decide +kernel
theorem dL_law_2548 : decode cL_law 2548 = .ok (.istore 7, 2) := by decide +kernel
theorem dL_law_2550 : decode cL_law 2550 = .ok (.aload_n 2, 1) := by decide +kernel
theorem dL_law_2551 : decode cL_law 2551 = .ok (.invokevirtual 183, 3) := by decide +kernel
theorem dL_law_2554 : decode cL_law 2554 = .ok (.iload 6, 2) := by decide +kernel
theorem dL_law_2556 : decode cL_law 2556 = .ok (.if_icmp .eq 5, 3) := by decide +kernel
theorem dL_law_2561 : decode cL_law 2561 = .ok (.iload 6, 2) := by decide +kernel
theorem dL_law_2563 : decode cL_law 2563 = .ok (.ifCond .ne 15, 3) := by decide +kernel
theorem dL_law_2578 : decode cL_law 2578 = .ok (.goto 681, 3) := by decide +kernel
set_option maxHeartbeats 4000000 in
set_option maxRecDepth 100000 in
/-- teamOf, called on the two fresh objects -/
theorem zl_34 {p : Program} {l : Launch} {e : Env} {s : State} {m : MethodId} {below : List Frame} {meth : Method} {c : Code} {b : Nat} {xs : Nat → Int32} {A : Nat → Prop} (C0 : lw_At p s m meth c b 5 xs) (hA : ∀ q : Nat, s.heap.size ≤ q → A q) (hA2 : ∀ q : Nat, A q → s.heap.size ≤ q) (htr : l.stackTraces = false) (dC : Nat → ClassId) (dI : Nat → Nat → Nat) (e0 h0 g0 o od : Nat) (a bb : Nat → Nat) (cL cT cO cD : ClassId) (hE : zE e0 A s s.heap) (H : Heap) (locs : List Loc) (ls : Array Slot) (hK : va_K (dC, dI) vwCl [(cL, (.object RX1)), (cT, (.object RX5)), (cO, .long), (cD, .double)] s) (hP : va_P (dC, dI) vwCl [(h0, .inr (11, zC a)), ((a 0), .inl (cL, 10, .inr (.inr (.inr (.inr (fun _ => none)))))), ((a 3), .inl (cT, 6, .inr (.inr (.inr (.inr (fun _ => none)))))), (g0, .inr (15, zM 0 bb)), ((bb 0), .inr (4, [.int 0, .ref e0, .int 0])), ((bb 1), .inr (4, [.int 0, .ref e0, .int 0])), ((bb 2), .inr (4, [.int 0, .ref e0, .int 0])), ((bb 3), .inr (4, [.int 0, .ref e0, .int 0])), (o, .inl (cO, 1, .inr (.inl (fun _ => 0)))), (od, .inl (cD, 1, .inr (.inr (.inr (.inl (fun _ => 0))))))] H) (hD : va_D A [(h0, .inr (11, zC a)), ((a 0), .inl (cL, 10, .inr (.inr (.inr (.inr (fun _ => none)))))), ((a 3), .inl (cT, 6, .inr (.inr (.inr (.inr (fun _ => none)))))), (g0, .inr (15, zM 0 bb)), ((bb 0), .inr (4, [.int 0, .ref e0, .int 0])), ((bb 1), .inr (4, [.int 0, .ref e0, .int 0])), ((bb 2), .inr (4, [.int 0, .ref e0, .int 0])), ((bb 3), .inr (4, [.int 0, .ref e0, .int 0])), (o, .inl (cO, 1, .inr (.inl (fun _ => 0)))), (od, .inl (cD, 1, .inr (.inr (.inr (.inl (fun _ => 0))))))]) (hS : va_S A s.heap H locs) (hl : lv_has ls 9 [(0, .ref b), (1, .ref h0), (2, .ref g0), (3, .ref o), (4, .ref od), (5, .int 0)]) : W p l e room_1 s m #[Value.ref b] below meth c H locs (86) (1094) (lw_Z below #[Value.ref b] s) (F0 m 2511 ls []) := by
  obtain ⟨hx, hb, hr, hml, hown, ht0, hX, hbl, hlocks, hgv⟩ := id C0
  have hts := ht0
  have hbA : ¬ A b := fun h => absurd hbl (Nat.not_lt.mpr (hA2 b h))
  refine lv_aload_n hx hb dL_law_2511 rfl (lv_at hl 1 rfl) ?_
  refine lv_aload_n hx hb dL_law_2512 rfl (lv_at hl 0 rfl) ?_
  refine lv_iload hx hb dL_law_2513 (lv_at hl 5 rfl) ?_
  refine lv_iconst (v := 1) hx hb dL_law_2515 (by decide) ?_
  refine lv_iadd hx hb dL_law_2516 ?_
  refine lv_topi (fun y1 e2 => ?_)
  obtain rfl : y1 = 1 := e2.trans (by decide)
  refine va_sld hx hb hX hbl hbA hS (by unfold vp_in; decide) dL_law_2517 ?_
  refine lv_aload_n hx hb dL_law_2518 rfl (lv_at hl 0 rfl) ?_
  refine lv_iload hx hb dL_law_2519 (lv_at hl 5 rfl) ?_
  refine lv_iconst (v := 2) hx hb dL_law_2521 (by decide) ?_
  refine lv_iadd hx hb dL_law_2522 ?_
  refine lv_topi (fun y3 e4 => ?_)
  obtain rfl : y3 = 2 := e4.trans (by decide)
  refine va_sld hx hb hX hbl hbA hS (by unfold vp_in; decide) dL_law_2523 ?_
  refine lv_i2c (v := (((xs (2 : Int32).toNatClampNeg)).toUInt32 % 65536).toInt32) hx hb dL_law_2524 rfl ?_
  refine lv_aload_n hx hb dL_law_2525 rfl (lv_at hl 3 rfl) ?_
  have hPc := hP.sub (ws' := [(h0, .inr (11, zC a))]) [0] rfl
  have hDc := hD.sub (ws' := [(h0, .inr (11, zC a))]) [0] (by decide) rfl
  have hKc := hK.sub (tys' := []) [] rfl
  have hFc := va_free (wc := [(h0, .inr (11, zC a))]) hD hS hA [0] rfl
  have hEc := (hE.kept hS.2.1).narrow hFc
  refine vx_calli (vx_runSX (As := [.ref h0, .int (xs (1 : Int32).toNatClampNeg), .int ((((xs (2 : Int32).toNatClampNeg)).toUInt32 % 65536).toInt32), .ref o]) (rest := []) ⟨hx, hb, hml, hown, hts⟩ (c_L_teamOf l htr dC dI e0 H.size h0 a (xs (1 : Int32).toNatClampNeg) ((((xs (2 : Int32).toNatClampNeg)).toUInt32 % 65536).toInt32) o) (vx_cwSW 4 hts gL_law_L_teamOf rfl rfl rfl (by decide +kernel) ⟨Nat.le_of_ble_eq_true rfl, Nat.le_of_ble_eq_true rfl⟩) ⟨fun a U g mk q => by obtain ⟨q0, q1, qP, qK, qD, qE⟩ := q; exact ⟨q0, q1, qP, va_K.moved (u := U) (U := U.calling g mk a) (Vm.Alike.refl U.vm) qK, qD, zE.same rfl qE⟩, fun U hU hW => ⟨rfl, by rw [hU], by rw [hU]; exact hPc, va_K.moved hW.alike hKc, hDc.weaken (fun _ _ _ _ => trivial), by rw [hU]; exact zE.warm hW hEc⟩⟩ rfl rfl hl.1 rfl (lv_room (Nat.le_of_ble_eq_true rfl)) dL_law_2526 ⟨Nat.le_of_ble_eq_true rfl, Nat.le_of_ble_eq_true rfl⟩) hS (fun q _ h => hFc q h) hFc (fun q _ h => hFc q h) (fun E ce q9 u t H1 locs1 ht hvm hpx hBX hz1 hk1 hS hce hcv hcl => absurd hpx id) (fun r5 u t H1 locs ht hvm hw hB hz1 hk1 hS => ?_)
  have hP1 : va_P (dC, dI) vwCl [] H1 := fun k q h => by simp at h
  have hD1 : va_D (va_A [(h0, .inr (11, zC a))] H.size) [] := ⟨fun i j p q h => by simp at h, fun k q h => by simp at h⟩
  obtain ⟨hP, hD⟩ := va_join (wr := [((a 0), .inl (cL, 10, .inr (.inr (.inr (.inr (fun _ => none)))))), ((a 3), .inl (cT, 6, .inr (.inr (.inr (.inr (fun _ => none)))))), (g0, .inr (15, zM 0 bb)), ((bb 0), .inr (4, [.int 0, .ref e0, .int 0])), ((bb 1), .inr (4, [.int 0, .ref e0, .int 0])), ((bb 2), .inr (4, [.int 0, .ref e0, .int 0])), ((bb 3), .inr (4, [.int 0, .ref e0, .int 0])), (o, .inl (cO, 1, .inr (.inl (fun _ => 0)))), (od, .inl (cD, 1, .inr (.inr (.inr (.inl (fun _ => 0))))))]) (w1 := []) hP hD [0] [1, 2, 3, 4, 5, 6, 7, 8, 9] rfl rfl (by decide) (by decide) hk1 hFc hP1 hD1
  generalize H1 = H at hP hS ⊢
  have hP : va_P (dC, dI) vwCl [((a 0), .inl (cL, 10, .inr (.inr (.inr (.inr (fun _ => none)))))), ((a 3), .inl (cT, 6, .inr (.inr (.inr (.inr (fun _ => none)))))), (g0, .inr (15, zM 0 bb)), ((bb 0), .inr (4, [.int 0, .ref e0, .int 0])), ((bb 1), .inr (4, [.int 0, .ref e0, .int 0])), ((bb 2), .inr (4, [.int 0, .ref e0, .int 0])), ((bb 3), .inr (4, [.int 0, .ref e0, .int 0])), (o, .inl (cO, 1, .inr (.inl (fun _ => 0)))), (od, .inl (cD, 1, .inr (.inr (.inr (.inl (fun _ => 0))))))] H := hP
  have hD : va_D A [((a 0), .inl (cL, 10, .inr (.inr (.inr (.inr (fun _ => none)))))), ((a 3), .inl (cT, 6, .inr (.inr (.inr (.inr (fun _ => none)))))), (g0, .inr (15, zM 0 bb)), ((bb 0), .inr (4, [.int 0, .ref e0, .int 0])), ((bb 1), .inr (4, [.int 0, .ref e0, .int 0])), ((bb 2), .inr (4, [.int 0, .ref e0, .int 0])), ((bb 3), .inr (4, [.int 0, .ref e0, .int 0])), (o, .inl (cO, 1, .inr (.inl (fun _ => 0)))), (od, .inl (cD, 1, .inr (.inr (.inr (.inl (fun _ => 0))))))] := hD
  obtain rfl : r5 = 1 := hw
  refine lv_istore (lv' := [(6, .int 1), (0, .ref b), (1, .ref h0), (2, .ref g0), (3, .ref o), (4, .ref od), (5, .int 0)]) hx hb dL_law_2529 hl (by decide) rfl (fun ls hl => ?_)
  refine lv_aload_n hx hb dL_law_2531 rfl (lv_at hl 3 rfl) ?_
  refine lv_aload_n hx hb dL_law_2532 rfl (lv_at hl 1 rfl) ?_
  refine lv_iload hx hb dL_law_2533 (lv_at hl 6 rfl) ?_
  refine lv_iconst (v := 1) hx hb dL_law_2535 (by decide) ?_
  refine lv_iadd hx hb dL_law_2536 ?_
  refine lv_topi (fun y6 e7 => ?_)
  obtain rfl : y6 = 1 := e7.trans (by decide)
  refine va_sld hx hb hX hbl hbA hS (by unfold vp_in; decide) dL_law_2537 ?_
  refine lv_aload_n hx hb dL_law_2538 rfl (lv_at hl 1 rfl) ?_
  refine lv_iload hx hb dL_law_2539 (lv_at hl 6 rfl) ?_
  refine lv_iconst (v := 2) hx hb dL_law_2541 (by decide) ?_
  refine lv_iadd hx hb dL_law_2542 ?_
  refine lv_topi (fun y8 e9 => ?_)
  obtain rfl : y8 = 2 := e9.trans (by decide)
  refine va_sld hx hb hX hbl hbA hS (by unfold vp_in; decide) dL_law_2543 ?_
  refine lv_i2c (v := (((xs (2 : Int32).toNatClampNeg)).toUInt32 % 65536).toInt32) hx hb dL_law_2544 rfl ?_
  have hPc := hP.sub (ws' := [(g0, .inr (15, zM 0 bb)), ((bb 0), .inr (4, [.int 0, .ref e0, .int 0])), ((bb 1), .inr (4, [.int 0, .ref e0, .int 0])), ((bb 2), .inr (4, [.int 0, .ref e0, .int 0])), ((bb 3), .inr (4, [.int 0, .ref e0, .int 0]))]) [2, 3, 4, 5, 6] rfl
  have hDc := hD.sub (ws' := [(g0, .inr (15, zM 0 bb)), ((bb 0), .inr (4, [.int 0, .ref e0, .int 0])), ((bb 1), .inr (4, [.int 0, .ref e0, .int 0])), ((bb 2), .inr (4, [.int 0, .ref e0, .int 0])), ((bb 3), .inr (4, [.int 0, .ref e0, .int 0]))]) [2, 3, 4, 5, 6] (by decide) rfl
  have hKc := hK.sub (tys' := []) [] rfl
  have hFc := va_free (wc := [(g0, .inr (15, zM 0 bb)), ((bb 0), .inr (4, [.int 0, .ref e0, .int 0])), ((bb 1), .inr (4, [.int 0, .ref e0, .int 0])), ((bb 2), .inr (4, [.int 0, .ref e0, .int 0])), ((bb 3), .inr (4, [.int 0, .ref e0, .int 0]))]) hD hS hA [2, 3, 4, 5, 6] rfl
  have hEc := (hE.kept hS.2.1).narrow hFc
  refine va_calli (va_runV (As := [.int (xs (1 : Int32).toNatClampNeg), .int ((((xs (2 : Int32).toNatClampNeg)).toUInt32 % 65536).toInt32)]) (rest := []) ⟨hx, hb, hml, hown, hts⟩ (c_X10_teamOf l htr dC dI e0 H.size g0 0 bb (xs (1 : Int32).toNatClampNeg) ((((xs (2 : Int32).toNatClampNeg)).toUInt32 % 65536).toInt32)) (cwV 2 hts gL_law_X10_teamOf rfl rfl rfl (by decide +kernel) ⟨Nat.le_of_ble_eq_true rfl, Nat.le_of_ble_eq_true rfl⟩) ⟨fun a U g mk q => by obtain ⟨q0, q1, qP, qK, qD, qE⟩ := q; exact ⟨q0, q1, qP, va_K.moved (u := U) (U := U.calling g mk a) (Vm.Alike.refl U.vm) qK, qD, zE.same rfl qE⟩, va_recv hKc hPc (ci := 15) (q0 := 0) rfl rfl, fun U hU hW => ⟨rfl, by rw [hU], by rw [hU]; exact hPc, va_K.moved hW.alike hKc, hDc.weaken (fun _ _ _ _ => trivial), by rw [hU]; exact zE.warm hW hEc⟩⟩ rfl rfl hl.1 rfl (lv_room (Nat.le_of_ble_eq_true rfl)) dL_law_2545 ⟨Nat.le_of_ble_eq_true rfl, Nat.le_of_ble_eq_true rfl⟩) hS (fun q _ h => hFc q h) hFc (fun r10 u t H1 locs ht hvm hw hB hz1 hk1 hS => ?_)
  obtain ⟨hP1, hK1, hD1⟩ := hB
  rw [ht] at hP1
  obtain ⟨hP, hD⟩ := va_join (wr := [((a 0), .inl (cL, 10, .inr (.inr (.inr (.inr (fun _ => none)))))), ((a 3), .inl (cT, 6, .inr (.inr (.inr (.inr (fun _ => none)))))), (o, .inl (cO, 1, .inr (.inl (fun _ => 0)))), (od, .inl (cD, 1, .inr (.inr (.inr (.inl (fun _ => 0))))))]) (w1 := [(g0, .inr (15, zM 1 bb))]) hP hD [2, 3, 4, 5, 6] [0, 1, 7, 8] rfl rfl (by decide) (by decide) hk1 hFc hP1 hD1
  generalize H1 = H at hP hS ⊢
  have hP : va_P (dC, dI) vwCl [((a 0), .inl (cL, 10, .inr (.inr (.inr (.inr (fun _ => none)))))), ((a 3), .inl (cT, 6, .inr (.inr (.inr (.inr (fun _ => none)))))), (o, .inl (cO, 1, .inr (.inl (fun _ => 0)))), (od, .inl (cD, 1, .inr (.inr (.inr (.inl (fun _ => 0)))))), (g0, .inr (15, zM 1 bb))] H := hP
  have hD : va_D A [((a 0), .inl (cL, 10, .inr (.inr (.inr (.inr (fun _ => none)))))), ((a 3), .inl (cT, 6, .inr (.inr (.inr (.inr (fun _ => none)))))), (o, .inl (cO, 1, .inr (.inl (fun _ => 0)))), (od, .inl (cD, 1, .inr (.inr (.inr (.inl (fun _ => 0)))))), (g0, .inr (15, zM 1 bb))] := hD
  obtain rfl : r10 = 0 := hw
  refine lv_istore (lv' := [(7, .int 0), (6, .int 1), (0, .ref b), (1, .ref h0), (2, .ref g0), (3, .ref o), (4, .ref od), (5, .int 0)]) hx hb dL_law_2548 hl (by decide) rfl (fun ls hl => ?_)
  refine lv_aload_n hx hb dL_law_2550 rfl (lv_at hl 4 rfl) ?_
  have hPc := hP.sub (ws' := [(g0, .inr (15, [.int 1, .ref (bb 0), .ref (bb 1), .ref (bb 2), .ref (bb 3), .int 0, .long 0, .int 0, .int 0, .int 0, .int 0]))]) [4] rfl
  have hDc := hD.sub (ws' := [(g0, .inr (15, [.int 1, .ref (bb 0), .ref (bb 1), .ref (bb 2), .ref (bb 3), .int 0, .long 0, .int 0, .int 0, .int 0, .int 0]))]) [4] (by decide) rfl
  have hKc := hK.sub (tys' := []) [] rfl
  have hFc := va_free (wc := [(g0, .inr (15, [.int 1, .ref (bb 0), .ref (bb 1), .ref (bb 2), .ref (bb 3), .int 0, .long 0, .int 0, .int 0, .int 0, .int 0]))]) hD hS hA [4] rfl
  refine va_calli (va_runV (As := []) (rest := []) ⟨hx, hb, hml, hown, hts⟩ (c_X10_thrown l htr dC dI e0 H.size g0 1 (bb 0) (bb 1) (bb 2) (bb 3) 0 0 0 0 0 0) (cwV 0 hts gL_law_X10_thrown rfl rfl rfl (by decide +kernel) ⟨Nat.le_of_ble_eq_true rfl, Nat.le_of_ble_eq_true rfl⟩) ⟨fun a U g mk q => by obtain ⟨q0, q1, qP, qK, qD⟩ := q; exact ⟨q0, q1, qP, va_K.moved (u := U) (U := U.calling g mk a) (Vm.Alike.refl U.vm) qK, qD⟩, va_recv hKc hPc (ci := 15) (q0 := 0) rfl rfl, fun U hU hW => ⟨rfl, by rw [hU], by rw [hU]; exact hPc, va_K.moved hW.alike hKc, hDc.weaken (fun _ _ _ _ => trivial)⟩⟩ rfl rfl hl.1 rfl (lv_room (Nat.le_of_ble_eq_true rfl)) dL_law_2551 ⟨Nat.le_of_ble_eq_true rfl, Nat.le_of_ble_eq_true rfl⟩) hS (fun q _ h => hFc q h) hFc (fun r11 u t H1 locs ht hvm hw hB hz1 hk1 hS => ?_)
  obtain ⟨hP1, hK1, hD1⟩ := hB
  rw [ht] at hP1
  obtain ⟨hP, hD⟩ := va_join (wr := [((a 0), .inl (cL, 10, .inr (.inr (.inr (.inr (fun _ => none)))))), ((a 3), .inl (cT, 6, .inr (.inr (.inr (.inr (fun _ => none)))))), (o, .inl (cO, 1, .inr (.inl (fun _ => 0)))), (od, .inl (cD, 1, .inr (.inr (.inr (.inl (fun _ => 0))))))]) (w1 := [(g0, .inr (15, [.int 1, .ref (bb 0), .ref (bb 1), .ref (bb 2), .ref (bb 3), .int 0, .long 0, .int 0, .int 0, .int 0, .int 0]))]) hP hD [4] [0, 1, 2, 3] rfl rfl (by decide) (by decide) hk1 hFc hP1 hD1
  generalize H1 = H at hP hS ⊢
  have hP : va_P (dC, dI) vwCl [((a 0), .inl (cL, 10, .inr (.inr (.inr (.inr (fun _ => none)))))), ((a 3), .inl (cT, 6, .inr (.inr (.inr (.inr (fun _ => none)))))), (o, .inl (cO, 1, .inr (.inl (fun _ => 0)))), (od, .inl (cD, 1, .inr (.inr (.inr (.inl (fun _ => 0)))))), (g0, .inr (15, [.int 1, .ref (bb 0), .ref (bb 1), .ref (bb 2), .ref (bb 3), .int 0, .long 0, .int 0, .int 0, .int 0, .int 0]))] H := hP
  have hD : va_D A [((a 0), .inl (cL, 10, .inr (.inr (.inr (.inr (fun _ => none)))))), ((a 3), .inl (cT, 6, .inr (.inr (.inr (.inr (fun _ => none)))))), (o, .inl (cO, 1, .inr (.inl (fun _ => 0)))), (od, .inl (cD, 1, .inr (.inr (.inr (.inl (fun _ => 0)))))), (g0, .inr (15, [.int 1, .ref (bb 0), .ref (bb 1), .ref (bb 2), .ref (bb 3), .int 0, .long 0, .int 0, .int 0, .int 0, .int 0]))] := hD
  obtain rfl : r11 = 1 := hw
  refine lv_iload hx hb dL_law_2554 (lv_at hl 1 rfl) ?_
  refine lv_icmp_eq (tgt := 2561) hx hb dL_law_2556 (by decide) (fun _ => ?_) (fun c12 => absurd (by decide) c12)
  refine lv_iload hx hb dL_law_2561 (lv_at hl 1 rfl) ?_
  refine lv_if_ne (tgt := 2578) hx hb dL_law_2563 (by decide) (fun _ => ?_) (fun c13 => absurd c13 (by decide))
  refine lv_goto (tgt := 3259) hx hb dL_law_2578 (by decide) ?_
  exact zl_end C0 hA2 (Nat.le_of_ble_eq_true rfl) (Nat.le_of_ble_eq_true rfl) hS (lv_sub hl [7, 2] rfl)
theorem dL_law_2581 : decode cL_law 2581 = .ok (.aload_n 1, 1) := by decide +kernel
theorem dL_law_2582 : decode cL_law 2582 = .ok (.aload_n 0, 1) := by decide +kernel
theorem dL_law_2583 : decode cL_law 2583 = .ok (.iload 5, 2) := by decide +kernel
theorem dL_law_2585 : decode cL_law 2585 = .ok (.iconst 1, 1) := by decide +kernel
theorem dL_law_2586 : decode cL_law 2586 = .ok (.iadd, 1) := by decide +kernel
theorem dL_law_2587 : decode cL_law 2587 = .ok (.iaload, 1) := by decide +kernel
theorem dL_law_2588 : decode cL_law 2588 = .ok (.aload_n 3, 1) := by decide +kernel
theorem dL_law_2589 : decode cL_law 2589 = .ok (.invokestatic 295, 3) := by decide +kernel
theorem dL_law_2592 : decode cL_law 2592 = .ok (.istore 6, 2) := by decide +kernel
theorem dL_law_2594 : decode cL_law 2594 = .ok (.aload_n 2, 1) := by decide +kernel
theorem dL_law_2595 : decode cL_law 2595 = .ok (.aload_n 0, 1) := by decide +kernel
theorem dL_law_2596 : decode cL_law 2596 = .ok (.iload 5, 2) := by decide +kernel
theorem dL_law_2598 : decode cL_law 2598 = .ok (.iconst 1, 1) := by decide +kernel
theorem dL_law_2599 : decode cL_law 2599 = .ok (.iadd, 1) := by decide +kernel
theorem dL_law_2600 : decode cL_law 2600 = .ok (.iaload, 1) := by decide +kernel
theorem dL_law_2601 : decode cL_law 2601 = .ok (.invokevirtual 297, 3) := by decide +kernel
theorem dL_law_2604 : decode cL_law 2604 = .ok (.istore 7, 2) := by decide +kernel
theorem dL_law_2606 : decode cL_law 2606 = .ok (.aload_n 2, 1) := by decide +kernel
theorem dL_law_2607 : decode cL_law 2607 = .ok (.invokevirtual 183, 3) := by decide +kernel
theorem dL_law_2610 : decode cL_law 2610 = .ok (.iload 6, 2) := by decide +kernel
theorem dL_law_2612 : decode cL_law 2612 = .ok (.if_icmp .eq 5, 3) := by decide +kernel
theorem dL_law_2617 : decode cL_law 2617 = .ok (.iload 6, 2) := by decide +kernel
theorem dL_law_2619 : decode cL_law 2619 = .ok (.ifCond .ne 15, 3) := by decide +kernel
theorem dL_law_2634 : decode cL_law 2634 = .ok (.goto 625, 3) := by decide +kernel
set_option maxHeartbeats 4000000 in
set_option maxRecDepth 100000 in
/-- raceOf, called on the two fresh objects -/
theorem zl_35 {p : Program} {l : Launch} {e : Env} {s : State} {m : MethodId} {below : List Frame} {meth : Method} {c : Code} {b : Nat} {xs : Nat → Int32} {A : Nat → Prop} (C0 : lw_At p s m meth c b 5 xs) (hA : ∀ q : Nat, s.heap.size ≤ q → A q) (hA2 : ∀ q : Nat, A q → s.heap.size ≤ q) (htr : l.stackTraces = false) (dC : Nat → ClassId) (dI : Nat → Nat → Nat) (e0 h0 g0 o od : Nat) (a bb : Nat → Nat) (cL cT cO cD : ClassId) (hE : zE e0 A s s.heap) (H : Heap) (locs : List Loc) (ls : Array Slot) (hK : va_K (dC, dI) vwCl [(cL, (.object RX1)), (cT, (.object RX5)), (cO, .long), (cD, .double)] s) (hP : va_P (dC, dI) vwCl [(h0, .inr (11, zC a)), ((a 0), .inl (cL, 10, .inr (.inr (.inr (.inr (fun _ => none)))))), ((a 3), .inl (cT, 6, .inr (.inr (.inr (.inr (fun _ => none)))))), (g0, .inr (15, zM 0 bb)), ((bb 0), .inr (4, [.int 0, .ref e0, .int 0])), ((bb 1), .inr (4, [.int 0, .ref e0, .int 0])), ((bb 2), .inr (4, [.int 0, .ref e0, .int 0])), ((bb 3), .inr (4, [.int 0, .ref e0, .int 0])), (o, .inl (cO, 1, .inr (.inl (fun _ => 0)))), (od, .inl (cD, 1, .inr (.inr (.inr (.inl (fun _ => 0))))))] H) (hD : va_D A [(h0, .inr (11, zC a)), ((a 0), .inl (cL, 10, .inr (.inr (.inr (.inr (fun _ => none)))))), ((a 3), .inl (cT, 6, .inr (.inr (.inr (.inr (fun _ => none)))))), (g0, .inr (15, zM 0 bb)), ((bb 0), .inr (4, [.int 0, .ref e0, .int 0])), ((bb 1), .inr (4, [.int 0, .ref e0, .int 0])), ((bb 2), .inr (4, [.int 0, .ref e0, .int 0])), ((bb 3), .inr (4, [.int 0, .ref e0, .int 0])), (o, .inl (cO, 1, .inr (.inl (fun _ => 0)))), (od, .inl (cD, 1, .inr (.inr (.inr (.inl (fun _ => 0))))))]) (hS : va_S A s.heap H locs) (hl : lv_has ls 9 [(0, .ref b), (1, .ref h0), (2, .ref g0), (3, .ref o), (4, .ref od), (5, .int 0)]) : W p l e room_1 s m #[Value.ref b] below meth c H locs (86) (1094) (lw_Z below #[Value.ref b] s) (F0 m 2581 ls []) := by
  obtain ⟨hx, hb, hr, hml, hown, ht0, hX, hbl, hlocks, hgv⟩ := id C0
  have hts := ht0
  have hbA : ¬ A b := fun h => absurd hbl (Nat.not_lt.mpr (hA2 b h))
  refine lv_aload_n hx hb dL_law_2581 rfl (lv_at hl 1 rfl) ?_
  refine lv_aload_n hx hb dL_law_2582 rfl (lv_at hl 0 rfl) ?_
  refine lv_iload hx hb dL_law_2583 (lv_at hl 5 rfl) ?_
  refine lv_iconst (v := 1) hx hb dL_law_2585 (by decide) ?_
  refine lv_iadd hx hb dL_law_2586 ?_
  refine lv_topi (fun y1 e2 => ?_)
  obtain rfl : y1 = 1 := e2.trans (by decide)
  refine va_sld hx hb hX hbl hbA hS (by unfold vp_in; decide) dL_law_2587 ?_
  refine lv_aload_n hx hb dL_law_2588 rfl (lv_at hl 3 rfl) ?_
  have hPc := hP.sub (ws' := [(h0, .inr (11, zC a))]) [0] rfl
  have hDc := hD.sub (ws' := [(h0, .inr (11, zC a))]) [0] (by decide) rfl
  have hKc := hK.sub (tys' := []) [] rfl
  have hFc := va_free (wc := [(h0, .inr (11, zC a))]) hD hS hA [0] rfl
  have hEc := (hE.kept hS.2.1).narrow hFc
  refine vx_calli (vx_runSX (As := [.ref h0, .int (xs (1 : Int32).toNatClampNeg), .ref o]) (rest := []) ⟨hx, hb, hml, hown, hts⟩ (c_L_raceOf l htr dC dI e0 H.size h0 a (xs (1 : Int32).toNatClampNeg) o) (vx_cwSW 3 hts gL_law_L_raceOf rfl rfl rfl (by decide +kernel) ⟨Nat.le_of_ble_eq_true rfl, Nat.le_of_ble_eq_true rfl⟩) ⟨fun a U g mk q => by obtain ⟨q0, q1, qP, qK, qD, qE⟩ := q; exact ⟨q0, q1, qP, va_K.moved (u := U) (U := U.calling g mk a) (Vm.Alike.refl U.vm) qK, qD, zE.same rfl qE⟩, fun U hU hW => ⟨rfl, by rw [hU], by rw [hU]; exact hPc, va_K.moved hW.alike hKc, hDc.weaken (fun _ _ _ _ => trivial), by rw [hU]; exact zE.warm hW hEc⟩⟩ rfl rfl hl.1 rfl (lv_room (Nat.le_of_ble_eq_true rfl)) dL_law_2589 ⟨Nat.le_of_ble_eq_true rfl, Nat.le_of_ble_eq_true rfl⟩) hS (fun q _ h => hFc q h) hFc (fun q _ h => hFc q h) (fun E ce q9 u t H1 locs1 ht hvm hpx hBX hz1 hk1 hS hce hcv hcl => absurd hpx id) (fun r3 u t H1 locs ht hvm hw hB hz1 hk1 hS => ?_)
  have hP1 : va_P (dC, dI) vwCl [] H1 := fun k q h => by simp at h
  have hD1 : va_D (va_A [(h0, .inr (11, zC a))] H.size) [] := ⟨fun i j p q h => by simp at h, fun k q h => by simp at h⟩
  obtain ⟨hP, hD⟩ := va_join (wr := [((a 0), .inl (cL, 10, .inr (.inr (.inr (.inr (fun _ => none)))))), ((a 3), .inl (cT, 6, .inr (.inr (.inr (.inr (fun _ => none)))))), (g0, .inr (15, zM 0 bb)), ((bb 0), .inr (4, [.int 0, .ref e0, .int 0])), ((bb 1), .inr (4, [.int 0, .ref e0, .int 0])), ((bb 2), .inr (4, [.int 0, .ref e0, .int 0])), ((bb 3), .inr (4, [.int 0, .ref e0, .int 0])), (o, .inl (cO, 1, .inr (.inl (fun _ => 0)))), (od, .inl (cD, 1, .inr (.inr (.inr (.inl (fun _ => 0))))))]) (w1 := []) hP hD [0] [1, 2, 3, 4, 5, 6, 7, 8, 9] rfl rfl (by decide) (by decide) hk1 hFc hP1 hD1
  generalize H1 = H at hP hS ⊢
  have hP : va_P (dC, dI) vwCl [((a 0), .inl (cL, 10, .inr (.inr (.inr (.inr (fun _ => none)))))), ((a 3), .inl (cT, 6, .inr (.inr (.inr (.inr (fun _ => none)))))), (g0, .inr (15, zM 0 bb)), ((bb 0), .inr (4, [.int 0, .ref e0, .int 0])), ((bb 1), .inr (4, [.int 0, .ref e0, .int 0])), ((bb 2), .inr (4, [.int 0, .ref e0, .int 0])), ((bb 3), .inr (4, [.int 0, .ref e0, .int 0])), (o, .inl (cO, 1, .inr (.inl (fun _ => 0)))), (od, .inl (cD, 1, .inr (.inr (.inr (.inl (fun _ => 0))))))] H := hP
  have hD : va_D A [((a 0), .inl (cL, 10, .inr (.inr (.inr (.inr (fun _ => none)))))), ((a 3), .inl (cT, 6, .inr (.inr (.inr (.inr (fun _ => none)))))), (g0, .inr (15, zM 0 bb)), ((bb 0), .inr (4, [.int 0, .ref e0, .int 0])), ((bb 1), .inr (4, [.int 0, .ref e0, .int 0])), ((bb 2), .inr (4, [.int 0, .ref e0, .int 0])), ((bb 3), .inr (4, [.int 0, .ref e0, .int 0])), (o, .inl (cO, 1, .inr (.inl (fun _ => 0)))), (od, .inl (cD, 1, .inr (.inr (.inr (.inl (fun _ => 0))))))] := hD
  obtain rfl : r3 = 1 := hw
  refine lv_istore (lv' := [(6, .int 1), (0, .ref b), (1, .ref h0), (2, .ref g0), (3, .ref o), (4, .ref od), (5, .int 0)]) hx hb dL_law_2592 hl (by decide) rfl (fun ls hl => ?_)
  refine lv_aload_n hx hb dL_law_2594 rfl (lv_at hl 3 rfl) ?_
  refine lv_aload_n hx hb dL_law_2595 rfl (lv_at hl 1 rfl) ?_
  refine lv_iload hx hb dL_law_2596 (lv_at hl 6 rfl) ?_
  refine lv_iconst (v := 1) hx hb dL_law_2598 (by decide) ?_
  refine lv_iadd hx hb dL_law_2599 ?_
  refine lv_topi (fun y4 e5 => ?_)
  obtain rfl : y4 = 1 := e5.trans (by decide)
  refine va_sld hx hb hX hbl hbA hS (by unfold vp_in; decide) dL_law_2600 ?_
  have hPc := hP.sub (ws' := [(g0, .inr (15, zM 0 bb)), ((bb 0), .inr (4, [.int 0, .ref e0, .int 0])), ((bb 1), .inr (4, [.int 0, .ref e0, .int 0])), ((bb 2), .inr (4, [.int 0, .ref e0, .int 0])), ((bb 3), .inr (4, [.int 0, .ref e0, .int 0]))]) [2, 3, 4, 5, 6] rfl
  have hDc := hD.sub (ws' := [(g0, .inr (15, zM 0 bb)), ((bb 0), .inr (4, [.int 0, .ref e0, .int 0])), ((bb 1), .inr (4, [.int 0, .ref e0, .int 0])), ((bb 2), .inr (4, [.int 0, .ref e0, .int 0])), ((bb 3), .inr (4, [.int 0, .ref e0, .int 0]))]) [2, 3, 4, 5, 6] (by decide) rfl
  have hKc := hK.sub (tys' := []) [] rfl
  have hFc := va_free (wc := [(g0, .inr (15, zM 0 bb)), ((bb 0), .inr (4, [.int 0, .ref e0, .int 0])), ((bb 1), .inr (4, [.int 0, .ref e0, .int 0])), ((bb 2), .inr (4, [.int 0, .ref e0, .int 0])), ((bb 3), .inr (4, [.int 0, .ref e0, .int 0]))]) hD hS hA [2, 3, 4, 5, 6] rfl
  have hEc := (hE.kept hS.2.1).narrow hFc
  refine va_calli (va_runV (As := [.int (xs (1 : Int32).toNatClampNeg)]) (rest := []) ⟨hx, hb, hml, hown, hts⟩ (c_X10_raceOf l htr dC dI e0 H.size g0 0 bb (xs (1 : Int32).toNatClampNeg)) (cwV 1 hts gL_law_X10_raceOf rfl rfl rfl (by decide +kernel) ⟨Nat.le_of_ble_eq_true rfl, Nat.le_of_ble_eq_true rfl⟩) ⟨fun a U g mk q => by obtain ⟨q0, q1, qP, qK, qD, qE⟩ := q; exact ⟨q0, q1, qP, va_K.moved (u := U) (U := U.calling g mk a) (Vm.Alike.refl U.vm) qK, qD, zE.same rfl qE⟩, va_recv hKc hPc (ci := 15) (q0 := 0) rfl rfl, fun U hU hW => ⟨rfl, by rw [hU], by rw [hU]; exact hPc, va_K.moved hW.alike hKc, hDc.weaken (fun _ _ _ _ => trivial), by rw [hU]; exact zE.warm hW hEc⟩⟩ rfl rfl hl.1 rfl (lv_room (Nat.le_of_ble_eq_true rfl)) dL_law_2601 ⟨Nat.le_of_ble_eq_true rfl, Nat.le_of_ble_eq_true rfl⟩) hS (fun q _ h => hFc q h) hFc (fun r6 u t H1 locs ht hvm hw hB hz1 hk1 hS => ?_)
  obtain ⟨hP1, hK1, hD1⟩ := hB
  rw [ht] at hP1
  obtain ⟨hP, hD⟩ := va_join (wr := [((a 0), .inl (cL, 10, .inr (.inr (.inr (.inr (fun _ => none)))))), ((a 3), .inl (cT, 6, .inr (.inr (.inr (.inr (fun _ => none)))))), (o, .inl (cO, 1, .inr (.inl (fun _ => 0)))), (od, .inl (cD, 1, .inr (.inr (.inr (.inl (fun _ => 0))))))]) (w1 := [(g0, .inr (15, zM 1 bb))]) hP hD [2, 3, 4, 5, 6] [0, 1, 7, 8] rfl rfl (by decide) (by decide) hk1 hFc hP1 hD1
  generalize H1 = H at hP hS ⊢
  have hP : va_P (dC, dI) vwCl [((a 0), .inl (cL, 10, .inr (.inr (.inr (.inr (fun _ => none)))))), ((a 3), .inl (cT, 6, .inr (.inr (.inr (.inr (fun _ => none)))))), (o, .inl (cO, 1, .inr (.inl (fun _ => 0)))), (od, .inl (cD, 1, .inr (.inr (.inr (.inl (fun _ => 0)))))), (g0, .inr (15, zM 1 bb))] H := hP
  have hD : va_D A [((a 0), .inl (cL, 10, .inr (.inr (.inr (.inr (fun _ => none)))))), ((a 3), .inl (cT, 6, .inr (.inr (.inr (.inr (fun _ => none)))))), (o, .inl (cO, 1, .inr (.inl (fun _ => 0)))), (od, .inl (cD, 1, .inr (.inr (.inr (.inl (fun _ => 0)))))), (g0, .inr (15, zM 1 bb))] := hD
  obtain rfl : r6 = 0 := hw
  refine lv_istore (lv' := [(7, .int 0), (6, .int 1), (0, .ref b), (1, .ref h0), (2, .ref g0), (3, .ref o), (4, .ref od), (5, .int 0)]) hx hb dL_law_2604 hl (by decide) rfl (fun ls hl => ?_)
  refine lv_aload_n hx hb dL_law_2606 rfl (lv_at hl 4 rfl) ?_
  have hPc := hP.sub (ws' := [(g0, .inr (15, [.int 1, .ref (bb 0), .ref (bb 1), .ref (bb 2), .ref (bb 3), .int 0, .long 0, .int 0, .int 0, .int 0, .int 0]))]) [4] rfl
  have hDc := hD.sub (ws' := [(g0, .inr (15, [.int 1, .ref (bb 0), .ref (bb 1), .ref (bb 2), .ref (bb 3), .int 0, .long 0, .int 0, .int 0, .int 0, .int 0]))]) [4] (by decide) rfl
  have hKc := hK.sub (tys' := []) [] rfl
  have hFc := va_free (wc := [(g0, .inr (15, [.int 1, .ref (bb 0), .ref (bb 1), .ref (bb 2), .ref (bb 3), .int 0, .long 0, .int 0, .int 0, .int 0, .int 0]))]) hD hS hA [4] rfl
  refine va_calli (va_runV (As := []) (rest := []) ⟨hx, hb, hml, hown, hts⟩ (c_X10_thrown l htr dC dI e0 H.size g0 1 (bb 0) (bb 1) (bb 2) (bb 3) 0 0 0 0 0 0) (cwV 0 hts gL_law_X10_thrown rfl rfl rfl (by decide +kernel) ⟨Nat.le_of_ble_eq_true rfl, Nat.le_of_ble_eq_true rfl⟩) ⟨fun a U g mk q => by obtain ⟨q0, q1, qP, qK, qD⟩ := q; exact ⟨q0, q1, qP, va_K.moved (u := U) (U := U.calling g mk a) (Vm.Alike.refl U.vm) qK, qD⟩, va_recv hKc hPc (ci := 15) (q0 := 0) rfl rfl, fun U hU hW => ⟨rfl, by rw [hU], by rw [hU]; exact hPc, va_K.moved hW.alike hKc, hDc.weaken (fun _ _ _ _ => trivial)⟩⟩ rfl rfl hl.1 rfl (lv_room (Nat.le_of_ble_eq_true rfl)) dL_law_2607 ⟨Nat.le_of_ble_eq_true rfl, Nat.le_of_ble_eq_true rfl⟩) hS (fun q _ h => hFc q h) hFc (fun r7 u t H1 locs ht hvm hw hB hz1 hk1 hS => ?_)
  obtain ⟨hP1, hK1, hD1⟩ := hB
  rw [ht] at hP1
  obtain ⟨hP, hD⟩ := va_join (wr := [((a 0), .inl (cL, 10, .inr (.inr (.inr (.inr (fun _ => none)))))), ((a 3), .inl (cT, 6, .inr (.inr (.inr (.inr (fun _ => none)))))), (o, .inl (cO, 1, .inr (.inl (fun _ => 0)))), (od, .inl (cD, 1, .inr (.inr (.inr (.inl (fun _ => 0))))))]) (w1 := [(g0, .inr (15, [.int 1, .ref (bb 0), .ref (bb 1), .ref (bb 2), .ref (bb 3), .int 0, .long 0, .int 0, .int 0, .int 0, .int 0]))]) hP hD [4] [0, 1, 2, 3] rfl rfl (by decide) (by decide) hk1 hFc hP1 hD1
  generalize H1 = H at hP hS ⊢
  have hP : va_P (dC, dI) vwCl [((a 0), .inl (cL, 10, .inr (.inr (.inr (.inr (fun _ => none)))))), ((a 3), .inl (cT, 6, .inr (.inr (.inr (.inr (fun _ => none)))))), (o, .inl (cO, 1, .inr (.inl (fun _ => 0)))), (od, .inl (cD, 1, .inr (.inr (.inr (.inl (fun _ => 0)))))), (g0, .inr (15, [.int 1, .ref (bb 0), .ref (bb 1), .ref (bb 2), .ref (bb 3), .int 0, .long 0, .int 0, .int 0, .int 0, .int 0]))] H := hP
  have hD : va_D A [((a 0), .inl (cL, 10, .inr (.inr (.inr (.inr (fun _ => none)))))), ((a 3), .inl (cT, 6, .inr (.inr (.inr (.inr (fun _ => none)))))), (o, .inl (cO, 1, .inr (.inl (fun _ => 0)))), (od, .inl (cD, 1, .inr (.inr (.inr (.inl (fun _ => 0)))))), (g0, .inr (15, [.int 1, .ref (bb 0), .ref (bb 1), .ref (bb 2), .ref (bb 3), .int 0, .long 0, .int 0, .int 0, .int 0, .int 0]))] := hD
  obtain rfl : r7 = 1 := hw
  refine lv_iload hx hb dL_law_2610 (lv_at hl 1 rfl) ?_
  refine lv_icmp_eq (tgt := 2617) hx hb dL_law_2612 (by decide) (fun _ => ?_) (fun c8 => absurd (by decide) c8)
  refine lv_iload hx hb dL_law_2617 (lv_at hl 1 rfl) ?_
  refine lv_if_ne (tgt := 2634) hx hb dL_law_2619 (by decide) (fun _ => ?_) (fun c9 => absurd c9 (by decide))
  refine lv_goto (tgt := 3259) hx hb dL_law_2634 (by decide) ?_
  exact zl_end C0 hA2 (Nat.le_of_ble_eq_true rfl) (Nat.le_of_ble_eq_true rfl) hS (lv_sub hl [7, 2] rfl)
theorem dL_law_2637 : decode cL_law 2637 = .ok (.aload_n 1, 1) := by decide +kernel
theorem dL_law_2638 : decode cL_law 2638 = .ok (.aload_n 0, 1) := by decide +kernel
theorem dL_law_2639 : decode cL_law 2639 = .ok (.iload 5, 2) := by decide +kernel
theorem dL_law_2641 : decode cL_law 2641 = .ok (.iconst 1, 1) := by decide +kernel
theorem dL_law_2642 : decode cL_law 2642 = .ok (.iadd, 1) := by decide +kernel
theorem dL_law_2643 : decode cL_law 2643 = .ok (.iaload, 1) := by decide +kernel
theorem dL_law_2644 : decode cL_law 2644 = .ok (.aload_n 3, 1) := by decide +kernel
theorem dL_law_2645 : decode cL_law 2645 = .ok (.invokestatic 298, 3) := by decide +kernel
theorem dL_law_2648 : decode cL_law 2648 = .ok (.istore 6, 2) := by decide +kernel
theorem dL_law_2650 : decode cL_law 2650 = .ok (.aload_n 2, 1) := by decide +kernel
theorem dL_law_2651 : decode cL_law 2651 = .ok (.aload_n 0, 1) := by decide +kernel
theorem dL_law_2652 : decode cL_law 2652 = .ok (.iload 5, 2) := by decide +kernel
theorem dL_law_2654 : decode cL_law 2654 = .ok (.iconst 1, 1) := by decide +kernel
theorem dL_law_2655 : decode cL_law 2655 = .ok (.iadd, 1) := by decide +kernel
theorem dL_law_2656 : decode cL_law 2656 = .ok (.iaload, 1) := by decide +kernel
theorem dL_law_2657 : decode cL_law 2657 = .ok (.invokevirtual 300, 3) := by decide +kernel
theorem dL_law_2660 : decode cL_law 2660 = .ok (.istore 7, 2) := by decide +kernel
theorem dL_law_2662 : decode cL_law 2662 = .ok (.aload_n 2, 1) := by decide +kernel
theorem dL_law_2663 : decode cL_law 2663 = .ok (.invokevirtual 183, 3) := by decide +kernel
theorem dL_law_2666 : decode cL_law 2666 = .ok (.iload 6, 2) := by decide +kernel
theorem dL_law_2668 : decode cL_law 2668 = .ok (.if_icmp .eq 5, 3) := by decide +kernel
theorem dL_law_2673 : decode cL_law 2673 = .ok (.iload 6, 2) := by decide +kernel
theorem dL_law_2675 : decode cL_law 2675 = .ok (.ifCond .ne 15, 3) := by decide +kernel
theorem dL_law_2690 : decode cL_law 2690 = .ok (.goto 569, 3) := by decide +kernel
set_option maxHeartbeats 4000000 in
set_option maxRecDepth 100000 in
/-- owed, called on the two fresh objects -/
theorem zl_36 {p : Program} {l : Launch} {e : Env} {s : State} {m : MethodId} {below : List Frame} {meth : Method} {c : Code} {b : Nat} {xs : Nat → Int32} {A : Nat → Prop} (C0 : lw_At p s m meth c b 5 xs) (hA : ∀ q : Nat, s.heap.size ≤ q → A q) (hA2 : ∀ q : Nat, A q → s.heap.size ≤ q) (htr : l.stackTraces = false) (dC : Nat → ClassId) (dI : Nat → Nat → Nat) (e0 h0 g0 o od : Nat) (a bb : Nat → Nat) (cL cT cO cD : ClassId) (hE : zE e0 A s s.heap) (H : Heap) (locs : List Loc) (ls : Array Slot) (hK : va_K (dC, dI) vwCl [(cL, (.object RX1)), (cT, (.object RX5)), (cO, .long), (cD, .double)] s) (hP : va_P (dC, dI) vwCl [(h0, .inr (11, zC a)), ((a 0), .inl (cL, 10, .inr (.inr (.inr (.inr (fun _ => none)))))), ((a 3), .inl (cT, 6, .inr (.inr (.inr (.inr (fun _ => none)))))), (g0, .inr (15, zM 0 bb)), ((bb 0), .inr (4, [.int 0, .ref e0, .int 0])), ((bb 1), .inr (4, [.int 0, .ref e0, .int 0])), ((bb 2), .inr (4, [.int 0, .ref e0, .int 0])), ((bb 3), .inr (4, [.int 0, .ref e0, .int 0])), (o, .inl (cO, 1, .inr (.inl (fun _ => 0)))), (od, .inl (cD, 1, .inr (.inr (.inr (.inl (fun _ => 0))))))] H) (hD : va_D A [(h0, .inr (11, zC a)), ((a 0), .inl (cL, 10, .inr (.inr (.inr (.inr (fun _ => none)))))), ((a 3), .inl (cT, 6, .inr (.inr (.inr (.inr (fun _ => none)))))), (g0, .inr (15, zM 0 bb)), ((bb 0), .inr (4, [.int 0, .ref e0, .int 0])), ((bb 1), .inr (4, [.int 0, .ref e0, .int 0])), ((bb 2), .inr (4, [.int 0, .ref e0, .int 0])), ((bb 3), .inr (4, [.int 0, .ref e0, .int 0])), (o, .inl (cO, 1, .inr (.inl (fun _ => 0)))), (od, .inl (cD, 1, .inr (.inr (.inr (.inl (fun _ => 0))))))]) (hS : va_S A s.heap H locs) (hl : lv_has ls 9 [(0, .ref b), (1, .ref h0), (2, .ref g0), (3, .ref o), (4, .ref od), (5, .int 0)]) : W p l e room_1 s m #[Value.ref b] below meth c H locs (86) (1094) (lw_Z below #[Value.ref b] s) (F0 m 2637 ls []) := by
  obtain ⟨hx, hb, hr, hml, hown, ht0, hX, hbl, hlocks, hgv⟩ := id C0
  have hts := ht0
  have hbA : ¬ A b := fun h => absurd hbl (Nat.not_lt.mpr (hA2 b h))
  refine lv_aload_n hx hb dL_law_2637 rfl (lv_at hl 1 rfl) ?_
  refine lv_aload_n hx hb dL_law_2638 rfl (lv_at hl 0 rfl) ?_
  refine lv_iload hx hb dL_law_2639 (lv_at hl 5 rfl) ?_
  refine lv_iconst (v := 1) hx hb dL_law_2641 (by decide) ?_
  refine lv_iadd hx hb dL_law_2642 ?_
  refine lv_topi (fun y1 e2 => ?_)
  obtain rfl : y1 = 1 := e2.trans (by decide)
  refine va_sld hx hb hX hbl hbA hS (by unfold vp_in; decide) dL_law_2643 ?_
  refine lv_aload_n hx hb dL_law_2644 rfl (lv_at hl 3 rfl) ?_
  have hPc := hP.sub (ws' := [(h0, .inr (11, zC a))]) [0] rfl
  have hDc := hD.sub (ws' := [(h0, .inr (11, zC a))]) [0] (by decide) rfl
  have hKc := hK.sub (tys' := []) [] rfl
  have hFc := va_free (wc := [(h0, .inr (11, zC a))]) hD hS hA [0] rfl
  have hEc := (hE.kept hS.2.1).narrow hFc
  refine vx_calli (vx_runSX (As := [.ref h0, .int (xs (1 : Int32).toNatClampNeg), .ref o]) (rest := []) ⟨hx, hb, hml, hown, hts⟩ (c_L_owed l htr dC dI e0 H.size h0 a (xs (1 : Int32).toNatClampNeg) o) (vx_cwSW 3 hts gL_law_L_owed rfl rfl rfl (by decide +kernel) ⟨Nat.le_of_ble_eq_true rfl, Nat.le_of_ble_eq_true rfl⟩) ⟨fun a U g mk q => by obtain ⟨q0, q1, qP, qK, qD, qE⟩ := q; exact ⟨q0, q1, qP, va_K.moved (u := U) (U := U.calling g mk a) (Vm.Alike.refl U.vm) qK, qD, zE.same rfl qE⟩, fun U hU hW => ⟨rfl, by rw [hU], by rw [hU]; exact hPc, va_K.moved hW.alike hKc, hDc.weaken (fun _ _ _ _ => trivial), by rw [hU]; exact zE.warm hW hEc⟩⟩ rfl rfl hl.1 rfl (lv_room (Nat.le_of_ble_eq_true rfl)) dL_law_2645 ⟨Nat.le_of_ble_eq_true rfl, Nat.le_of_ble_eq_true rfl⟩) hS (fun q _ h => hFc q h) hFc (fun q _ h => hFc q h) (fun E ce q9 u t H1 locs1 ht hvm hpx hBX hz1 hk1 hS hce hcv hcl => absurd hpx id) (fun r3 u t H1 locs ht hvm hw hB hz1 hk1 hS => ?_)
  have hP1 : va_P (dC, dI) vwCl [] H1 := fun k q h => by simp at h
  have hD1 : va_D (va_A [(h0, .inr (11, zC a))] H.size) [] := ⟨fun i j p q h => by simp at h, fun k q h => by simp at h⟩
  obtain ⟨hP, hD⟩ := va_join (wr := [((a 0), .inl (cL, 10, .inr (.inr (.inr (.inr (fun _ => none)))))), ((a 3), .inl (cT, 6, .inr (.inr (.inr (.inr (fun _ => none)))))), (g0, .inr (15, zM 0 bb)), ((bb 0), .inr (4, [.int 0, .ref e0, .int 0])), ((bb 1), .inr (4, [.int 0, .ref e0, .int 0])), ((bb 2), .inr (4, [.int 0, .ref e0, .int 0])), ((bb 3), .inr (4, [.int 0, .ref e0, .int 0])), (o, .inl (cO, 1, .inr (.inl (fun _ => 0)))), (od, .inl (cD, 1, .inr (.inr (.inr (.inl (fun _ => 0))))))]) (w1 := []) hP hD [0] [1, 2, 3, 4, 5, 6, 7, 8, 9] rfl rfl (by decide) (by decide) hk1 hFc hP1 hD1
  generalize H1 = H at hP hS ⊢
  have hP : va_P (dC, dI) vwCl [((a 0), .inl (cL, 10, .inr (.inr (.inr (.inr (fun _ => none)))))), ((a 3), .inl (cT, 6, .inr (.inr (.inr (.inr (fun _ => none)))))), (g0, .inr (15, zM 0 bb)), ((bb 0), .inr (4, [.int 0, .ref e0, .int 0])), ((bb 1), .inr (4, [.int 0, .ref e0, .int 0])), ((bb 2), .inr (4, [.int 0, .ref e0, .int 0])), ((bb 3), .inr (4, [.int 0, .ref e0, .int 0])), (o, .inl (cO, 1, .inr (.inl (fun _ => 0)))), (od, .inl (cD, 1, .inr (.inr (.inr (.inl (fun _ => 0))))))] H := hP
  have hD : va_D A [((a 0), .inl (cL, 10, .inr (.inr (.inr (.inr (fun _ => none)))))), ((a 3), .inl (cT, 6, .inr (.inr (.inr (.inr (fun _ => none)))))), (g0, .inr (15, zM 0 bb)), ((bb 0), .inr (4, [.int 0, .ref e0, .int 0])), ((bb 1), .inr (4, [.int 0, .ref e0, .int 0])), ((bb 2), .inr (4, [.int 0, .ref e0, .int 0])), ((bb 3), .inr (4, [.int 0, .ref e0, .int 0])), (o, .inl (cO, 1, .inr (.inl (fun _ => 0)))), (od, .inl (cD, 1, .inr (.inr (.inr (.inl (fun _ => 0))))))] := hD
  obtain rfl : r3 = 1 := hw
  refine lv_istore (lv' := [(6, .int 1), (0, .ref b), (1, .ref h0), (2, .ref g0), (3, .ref o), (4, .ref od), (5, .int 0)]) hx hb dL_law_2648 hl (by decide) rfl (fun ls hl => ?_)
  refine lv_aload_n hx hb dL_law_2650 rfl (lv_at hl 3 rfl) ?_
  refine lv_aload_n hx hb dL_law_2651 rfl (lv_at hl 1 rfl) ?_
  refine lv_iload hx hb dL_law_2652 (lv_at hl 6 rfl) ?_
  refine lv_iconst (v := 1) hx hb dL_law_2654 (by decide) ?_
  refine lv_iadd hx hb dL_law_2655 ?_
  refine lv_topi (fun y4 e5 => ?_)
  obtain rfl : y4 = 1 := e5.trans (by decide)
  refine va_sld hx hb hX hbl hbA hS (by unfold vp_in; decide) dL_law_2656 ?_
  have hPc := hP.sub (ws' := [(g0, .inr (15, zM 0 bb)), ((bb 0), .inr (4, [.int 0, .ref e0, .int 0])), ((bb 1), .inr (4, [.int 0, .ref e0, .int 0])), ((bb 2), .inr (4, [.int 0, .ref e0, .int 0])), ((bb 3), .inr (4, [.int 0, .ref e0, .int 0]))]) [2, 3, 4, 5, 6] rfl
  have hDc := hD.sub (ws' := [(g0, .inr (15, zM 0 bb)), ((bb 0), .inr (4, [.int 0, .ref e0, .int 0])), ((bb 1), .inr (4, [.int 0, .ref e0, .int 0])), ((bb 2), .inr (4, [.int 0, .ref e0, .int 0])), ((bb 3), .inr (4, [.int 0, .ref e0, .int 0]))]) [2, 3, 4, 5, 6] (by decide) rfl
  have hKc := hK.sub (tys' := []) [] rfl
  have hFc := va_free (wc := [(g0, .inr (15, zM 0 bb)), ((bb 0), .inr (4, [.int 0, .ref e0, .int 0])), ((bb 1), .inr (4, [.int 0, .ref e0, .int 0])), ((bb 2), .inr (4, [.int 0, .ref e0, .int 0])), ((bb 3), .inr (4, [.int 0, .ref e0, .int 0]))]) hD hS hA [2, 3, 4, 5, 6] rfl
  have hEc := (hE.kept hS.2.1).narrow hFc
  refine va_calli (va_runV (As := [.int (xs (1 : Int32).toNatClampNeg)]) (rest := []) ⟨hx, hb, hml, hown, hts⟩ (c_X10_owed l htr dC dI e0 H.size g0 0 bb (xs (1 : Int32).toNatClampNeg)) (cwV 1 hts gL_law_X10_owed rfl rfl rfl (by decide +kernel) ⟨Nat.le_of_ble_eq_true rfl, Nat.le_of_ble_eq_true rfl⟩) ⟨fun a U g mk q => by obtain ⟨q0, q1, qP, qK, qD, qE⟩ := q; exact ⟨q0, q1, qP, va_K.moved (u := U) (U := U.calling g mk a) (Vm.Alike.refl U.vm) qK, qD, zE.same rfl qE⟩, va_recv hKc hPc (ci := 15) (q0 := 0) rfl rfl, fun U hU hW => ⟨rfl, by rw [hU], by rw [hU]; exact hPc, va_K.moved hW.alike hKc, hDc.weaken (fun _ _ _ _ => trivial), by rw [hU]; exact zE.warm hW hEc⟩⟩ rfl rfl hl.1 rfl (lv_room (Nat.le_of_ble_eq_true rfl)) dL_law_2657 ⟨Nat.le_of_ble_eq_true rfl, Nat.le_of_ble_eq_true rfl⟩) hS (fun q _ h => hFc q h) hFc (fun r6 u t H1 locs ht hvm hw hB hz1 hk1 hS => ?_)
  obtain ⟨hP1, hK1, hD1⟩ := hB
  rw [ht] at hP1
  obtain ⟨hP, hD⟩ := va_join (wr := [((a 0), .inl (cL, 10, .inr (.inr (.inr (.inr (fun _ => none)))))), ((a 3), .inl (cT, 6, .inr (.inr (.inr (.inr (fun _ => none)))))), (o, .inl (cO, 1, .inr (.inl (fun _ => 0)))), (od, .inl (cD, 1, .inr (.inr (.inr (.inl (fun _ => 0))))))]) (w1 := [(g0, .inr (15, zM 1 bb))]) hP hD [2, 3, 4, 5, 6] [0, 1, 7, 8] rfl rfl (by decide) (by decide) hk1 hFc hP1 hD1
  generalize H1 = H at hP hS ⊢
  have hP : va_P (dC, dI) vwCl [((a 0), .inl (cL, 10, .inr (.inr (.inr (.inr (fun _ => none)))))), ((a 3), .inl (cT, 6, .inr (.inr (.inr (.inr (fun _ => none)))))), (o, .inl (cO, 1, .inr (.inl (fun _ => 0)))), (od, .inl (cD, 1, .inr (.inr (.inr (.inl (fun _ => 0)))))), (g0, .inr (15, zM 1 bb))] H := hP
  have hD : va_D A [((a 0), .inl (cL, 10, .inr (.inr (.inr (.inr (fun _ => none)))))), ((a 3), .inl (cT, 6, .inr (.inr (.inr (.inr (fun _ => none)))))), (o, .inl (cO, 1, .inr (.inl (fun _ => 0)))), (od, .inl (cD, 1, .inr (.inr (.inr (.inl (fun _ => 0)))))), (g0, .inr (15, zM 1 bb))] := hD
  obtain rfl : r6 = 0 := hw
  refine lv_istore (lv' := [(7, .int 0), (6, .int 1), (0, .ref b), (1, .ref h0), (2, .ref g0), (3, .ref o), (4, .ref od), (5, .int 0)]) hx hb dL_law_2660 hl (by decide) rfl (fun ls hl => ?_)
  refine lv_aload_n hx hb dL_law_2662 rfl (lv_at hl 4 rfl) ?_
  have hPc := hP.sub (ws' := [(g0, .inr (15, [.int 1, .ref (bb 0), .ref (bb 1), .ref (bb 2), .ref (bb 3), .int 0, .long 0, .int 0, .int 0, .int 0, .int 0]))]) [4] rfl
  have hDc := hD.sub (ws' := [(g0, .inr (15, [.int 1, .ref (bb 0), .ref (bb 1), .ref (bb 2), .ref (bb 3), .int 0, .long 0, .int 0, .int 0, .int 0, .int 0]))]) [4] (by decide) rfl
  have hKc := hK.sub (tys' := []) [] rfl
  have hFc := va_free (wc := [(g0, .inr (15, [.int 1, .ref (bb 0), .ref (bb 1), .ref (bb 2), .ref (bb 3), .int 0, .long 0, .int 0, .int 0, .int 0, .int 0]))]) hD hS hA [4] rfl
  refine va_calli (va_runV (As := []) (rest := []) ⟨hx, hb, hml, hown, hts⟩ (c_X10_thrown l htr dC dI e0 H.size g0 1 (bb 0) (bb 1) (bb 2) (bb 3) 0 0 0 0 0 0) (cwV 0 hts gL_law_X10_thrown rfl rfl rfl (by decide +kernel) ⟨Nat.le_of_ble_eq_true rfl, Nat.le_of_ble_eq_true rfl⟩) ⟨fun a U g mk q => by obtain ⟨q0, q1, qP, qK, qD⟩ := q; exact ⟨q0, q1, qP, va_K.moved (u := U) (U := U.calling g mk a) (Vm.Alike.refl U.vm) qK, qD⟩, va_recv hKc hPc (ci := 15) (q0 := 0) rfl rfl, fun U hU hW => ⟨rfl, by rw [hU], by rw [hU]; exact hPc, va_K.moved hW.alike hKc, hDc.weaken (fun _ _ _ _ => trivial)⟩⟩ rfl rfl hl.1 rfl (lv_room (Nat.le_of_ble_eq_true rfl)) dL_law_2663 ⟨Nat.le_of_ble_eq_true rfl, Nat.le_of_ble_eq_true rfl⟩) hS (fun q _ h => hFc q h) hFc (fun r7 u t H1 locs ht hvm hw hB hz1 hk1 hS => ?_)
  obtain ⟨hP1, hK1, hD1⟩ := hB
  rw [ht] at hP1
  obtain ⟨hP, hD⟩ := va_join (wr := [((a 0), .inl (cL, 10, .inr (.inr (.inr (.inr (fun _ => none)))))), ((a 3), .inl (cT, 6, .inr (.inr (.inr (.inr (fun _ => none)))))), (o, .inl (cO, 1, .inr (.inl (fun _ => 0)))), (od, .inl (cD, 1, .inr (.inr (.inr (.inl (fun _ => 0))))))]) (w1 := [(g0, .inr (15, [.int 1, .ref (bb 0), .ref (bb 1), .ref (bb 2), .ref (bb 3), .int 0, .long 0, .int 0, .int 0, .int 0, .int 0]))]) hP hD [4] [0, 1, 2, 3] rfl rfl (by decide) (by decide) hk1 hFc hP1 hD1
  generalize H1 = H at hP hS ⊢
  have hP : va_P (dC, dI) vwCl [((a 0), .inl (cL, 10, .inr (.inr (.inr (.inr (fun _ => none)))))), ((a 3), .inl (cT, 6, .inr (.inr (.inr (.inr (fun _ => none)))))), (o, .inl (cO, 1, .inr (.inl (fun _ => 0)))), (od, .inl (cD, 1, .inr (.inr (.inr (.inl (fun _ => 0)))))), (g0, .inr (15, [.int 1, .ref (bb 0), .ref (bb 1), .ref (bb 2), .ref (bb 3), .int 0, .long 0, .int 0, .int 0, .int 0, .int 0]))] H := hP
  have hD : va_D A [((a 0), .inl (cL, 10, .inr (.inr (.inr (.inr (fun _ => none)))))), ((a 3), .inl (cT, 6, .inr (.inr (.inr (.inr (fun _ => none)))))), (o, .inl (cO, 1, .inr (.inl (fun _ => 0)))), (od, .inl (cD, 1, .inr (.inr (.inr (.inl (fun _ => 0)))))), (g0, .inr (15, [.int 1, .ref (bb 0), .ref (bb 1), .ref (bb 2), .ref (bb 3), .int 0, .long 0, .int 0, .int 0, .int 0, .int 0]))] := hD
  obtain rfl : r7 = 1 := hw
  refine lv_iload hx hb dL_law_2666 (lv_at hl 1 rfl) ?_
  refine lv_icmp_eq (tgt := 2673) hx hb dL_law_2668 (by decide) (fun _ => ?_) (fun c8 => absurd (by decide) c8)
  refine lv_iload hx hb dL_law_2673 (lv_at hl 1 rfl) ?_
  refine lv_if_ne (tgt := 2690) hx hb dL_law_2675 (by decide) (fun _ => ?_) (fun c9 => absurd c9 (by decide))
  refine lv_goto (tgt := 3259) hx hb dL_law_2690 (by decide) ?_
  exact zl_end C0 hA2 (Nat.le_of_ble_eq_true rfl) (Nat.le_of_ble_eq_true rfl) hS (lv_sub hl [7, 2] rfl)
theorem dL_law_2693 : decode cL_law 2693 = .ok (.aload_n 1, 1) := by decide +kernel
theorem dL_law_2694 : decode cL_law 2694 = .ok (.aload_n 0, 1) := by decide +kernel
theorem dL_law_2695 : decode cL_law 2695 = .ok (.iload 5, 2) := by decide +kernel
theorem dL_law_2697 : decode cL_law 2697 = .ok (.iconst 1, 1) := by decide +kernel
theorem dL_law_2698 : decode cL_law 2698 = .ok (.iadd, 1) := by decide +kernel
theorem dL_law_2699 : decode cL_law 2699 = .ok (.iaload, 1) := by decide +kernel
theorem dL_law_2700 : decode cL_law 2700 = .ok (.aload_n 3, 1) := by decide +kernel
theorem dL_law_2701 : decode cL_law 2701 = .ok (.invokestatic 301, 3) := by decide +kernel
theorem dL_law_2704 : decode cL_law 2704 = .ok (.istore 6, 2) := by decide +kernel
theorem dL_law_2706 : decode cL_law 2706 = .ok (.aload_n 2, 1) := by decide +kernel
theorem dL_law_2707 : decode cL_law 2707 = .ok (.aload_n 0, 1) := by decide +kernel
theorem dL_law_2708 : decode cL_law 2708 = .ok (.iload 5, 2) := by decide +kernel
theorem dL_law_2710 : decode cL_law 2710 = .ok (.iconst 1, 1) := by decide +kernel
theorem dL_law_2711 : decode cL_law 2711 = .ok (.iadd, 1) := by decide +kernel
theorem dL_law_2712 : decode cL_law 2712 = .ok (.iaload, 1) := by decide +kernel
theorem dL_law_2713 : decode cL_law 2713 = .ok (.invokevirtual 303, 3) := by decide +kernel
theorem dL_law_2716 : decode cL_law 2716 = .ok (.istore 7, 2) := by decide +kernel
theorem dL_law_2718 : decode cL_law 2718 = .ok (.aload_n 2, 1) := by decide +kernel
theorem dL_law_2719 : decode cL_law 2719 = .ok (.invokevirtual 183, 3) := by decide +kernel
theorem dL_law_2722 : decode cL_law 2722 = .ok (.iload 6, 2) := by decide +kernel
theorem dL_law_2724 : decode cL_law 2724 = .ok (.if_icmp .eq 5, 3) := by decide +kernel
theorem dL_law_2729 : decode cL_law 2729 = .ok (.iload 6, 2) := by decide +kernel
theorem dL_law_2731 : decode cL_law 2731 = .ok (.ifCond .ne 15, 3) := by decide +kernel
theorem dL_law_2746 : decode cL_law 2746 = .ok (.goto 513, 3) := by decide +kernel
set_option maxHeartbeats 4000000 in
set_option maxRecDepth 100000 in
/-- standing, called on the two fresh objects -/
theorem zl_37 {p : Program} {l : Launch} {e : Env} {s : State} {m : MethodId} {below : List Frame} {meth : Method} {c : Code} {b : Nat} {xs : Nat → Int32} {A : Nat → Prop} (C0 : lw_At p s m meth c b 5 xs) (hA : ∀ q : Nat, s.heap.size ≤ q → A q) (hA2 : ∀ q : Nat, A q → s.heap.size ≤ q) (htr : l.stackTraces = false) (dC : Nat → ClassId) (dI : Nat → Nat → Nat) (e0 h0 g0 o od : Nat) (a bb : Nat → Nat) (cL cT cO cD : ClassId) (hE : zE e0 A s s.heap) (H : Heap) (locs : List Loc) (ls : Array Slot) (hK : va_K (dC, dI) vwCl [(cL, (.object RX1)), (cT, (.object RX5)), (cO, .long), (cD, .double)] s) (hP : va_P (dC, dI) vwCl [(h0, .inr (11, zC a)), ((a 0), .inl (cL, 10, .inr (.inr (.inr (.inr (fun _ => none)))))), ((a 3), .inl (cT, 6, .inr (.inr (.inr (.inr (fun _ => none)))))), (g0, .inr (15, zM 0 bb)), ((bb 0), .inr (4, [.int 0, .ref e0, .int 0])), ((bb 1), .inr (4, [.int 0, .ref e0, .int 0])), ((bb 2), .inr (4, [.int 0, .ref e0, .int 0])), ((bb 3), .inr (4, [.int 0, .ref e0, .int 0])), (o, .inl (cO, 1, .inr (.inl (fun _ => 0)))), (od, .inl (cD, 1, .inr (.inr (.inr (.inl (fun _ => 0))))))] H) (hD : va_D A [(h0, .inr (11, zC a)), ((a 0), .inl (cL, 10, .inr (.inr (.inr (.inr (fun _ => none)))))), ((a 3), .inl (cT, 6, .inr (.inr (.inr (.inr (fun _ => none)))))), (g0, .inr (15, zM 0 bb)), ((bb 0), .inr (4, [.int 0, .ref e0, .int 0])), ((bb 1), .inr (4, [.int 0, .ref e0, .int 0])), ((bb 2), .inr (4, [.int 0, .ref e0, .int 0])), ((bb 3), .inr (4, [.int 0, .ref e0, .int 0])), (o, .inl (cO, 1, .inr (.inl (fun _ => 0)))), (od, .inl (cD, 1, .inr (.inr (.inr (.inl (fun _ => 0))))))]) (hS : va_S A s.heap H locs) (hl : lv_has ls 9 [(0, .ref b), (1, .ref h0), (2, .ref g0), (3, .ref o), (4, .ref od), (5, .int 0)]) : W p l e room_1 s m #[Value.ref b] below meth c H locs (86) (1094) (lw_Z below #[Value.ref b] s) (F0 m 2693 ls []) := by
  obtain ⟨hx, hb, hr, hml, hown, ht0, hX, hbl, hlocks, hgv⟩ := id C0
  have hts := ht0
  have hbA : ¬ A b := fun h => absurd hbl (Nat.not_lt.mpr (hA2 b h))
  refine lv_aload_n hx hb dL_law_2693 rfl (lv_at hl 1 rfl) ?_
  refine lv_aload_n hx hb dL_law_2694 rfl (lv_at hl 0 rfl) ?_
  refine lv_iload hx hb dL_law_2695 (lv_at hl 5 rfl) ?_
  refine lv_iconst (v := 1) hx hb dL_law_2697 (by decide) ?_
  refine lv_iadd hx hb dL_law_2698 ?_
  refine lv_topi (fun y1 e2 => ?_)
  obtain rfl : y1 = 1 := e2.trans (by decide)
  refine va_sld hx hb hX hbl hbA hS (by unfold vp_in; decide) dL_law_2699 ?_
  refine lv_aload_n hx hb dL_law_2700 rfl (lv_at hl 3 rfl) ?_
  have hPc := hP.sub (ws' := [(h0, .inr (11, zC a))]) [0] rfl
  have hDc := hD.sub (ws' := [(h0, .inr (11, zC a))]) [0] (by decide) rfl
  have hKc := hK.sub (tys' := []) [] rfl
  have hFc := va_free (wc := [(h0, .inr (11, zC a))]) hD hS hA [0] rfl
  have hEc := (hE.kept hS.2.1).narrow hFc
  refine vx_calli (vx_runSX (As := [.ref h0, .int (xs (1 : Int32).toNatClampNeg), .ref o]) (rest := []) ⟨hx, hb, hml, hown, hts⟩ (c_L_standing_no l htr dC dI e0 H.size h0 a (xs (1 : Int32).toNatClampNeg) o) (vx_cwSW 3 hts gL_law_L_standing rfl rfl rfl (by decide +kernel) ⟨Nat.le_of_ble_eq_true rfl, Nat.le_of_ble_eq_true rfl⟩) ⟨fun a U g mk q => by obtain ⟨q0, q1, qP, qK, qD, qE⟩ := q; exact ⟨q0, q1, qP, va_K.moved (u := U) (U := U.calling g mk a) (Vm.Alike.refl U.vm) qK, qD, zE.same rfl qE⟩, fun U hU hW => ⟨rfl, by rw [hU], by rw [hU]; exact hPc, va_K.moved hW.alike hKc, hDc.weaken (fun _ _ _ _ => trivial), by rw [hU]; exact zE.warm hW hEc⟩⟩ rfl rfl hl.1 rfl (lv_room (Nat.le_of_ble_eq_true rfl)) dL_law_2701 ⟨Nat.le_of_ble_eq_true rfl, Nat.le_of_ble_eq_true rfl⟩) hS (fun q _ h => hFc q h) hFc (fun q _ h => hFc q h) (fun E ce q9 u t H1 locs1 ht hvm hpx hBX hz1 hk1 hS hce hcv hcl => absurd hpx id) (fun r3 u t H1 locs ht hvm hw hB hz1 hk1 hS => ?_)
  have hP1 : va_P (dC, dI) vwCl [] H1 := fun k q h => by simp at h
  have hD1 : va_D (va_A [(h0, .inr (11, zC a))] H.size) [] := ⟨fun i j p q h => by simp at h, fun k q h => by simp at h⟩
  obtain ⟨hP, hD⟩ := va_join (wr := [((a 0), .inl (cL, 10, .inr (.inr (.inr (.inr (fun _ => none)))))), ((a 3), .inl (cT, 6, .inr (.inr (.inr (.inr (fun _ => none)))))), (g0, .inr (15, zM 0 bb)), ((bb 0), .inr (4, [.int 0, .ref e0, .int 0])), ((bb 1), .inr (4, [.int 0, .ref e0, .int 0])), ((bb 2), .inr (4, [.int 0, .ref e0, .int 0])), ((bb 3), .inr (4, [.int 0, .ref e0, .int 0])), (o, .inl (cO, 1, .inr (.inl (fun _ => 0)))), (od, .inl (cD, 1, .inr (.inr (.inr (.inl (fun _ => 0))))))]) (w1 := []) hP hD [0] [1, 2, 3, 4, 5, 6, 7, 8, 9] rfl rfl (by decide) (by decide) hk1 hFc hP1 hD1
  generalize H1 = H at hP hS ⊢
  have hP : va_P (dC, dI) vwCl [((a 0), .inl (cL, 10, .inr (.inr (.inr (.inr (fun _ => none)))))), ((a 3), .inl (cT, 6, .inr (.inr (.inr (.inr (fun _ => none)))))), (g0, .inr (15, zM 0 bb)), ((bb 0), .inr (4, [.int 0, .ref e0, .int 0])), ((bb 1), .inr (4, [.int 0, .ref e0, .int 0])), ((bb 2), .inr (4, [.int 0, .ref e0, .int 0])), ((bb 3), .inr (4, [.int 0, .ref e0, .int 0])), (o, .inl (cO, 1, .inr (.inl (fun _ => 0)))), (od, .inl (cD, 1, .inr (.inr (.inr (.inl (fun _ => 0))))))] H := hP
  have hD : va_D A [((a 0), .inl (cL, 10, .inr (.inr (.inr (.inr (fun _ => none)))))), ((a 3), .inl (cT, 6, .inr (.inr (.inr (.inr (fun _ => none)))))), (g0, .inr (15, zM 0 bb)), ((bb 0), .inr (4, [.int 0, .ref e0, .int 0])), ((bb 1), .inr (4, [.int 0, .ref e0, .int 0])), ((bb 2), .inr (4, [.int 0, .ref e0, .int 0])), ((bb 3), .inr (4, [.int 0, .ref e0, .int 0])), (o, .inl (cO, 1, .inr (.inl (fun _ => 0)))), (od, .inl (cD, 1, .inr (.inr (.inr (.inl (fun _ => 0))))))] := hD
  obtain rfl : r3 = 1 := hw
  refine lv_istore (lv' := [(6, .int 1), (0, .ref b), (1, .ref h0), (2, .ref g0), (3, .ref o), (4, .ref od), (5, .int 0)]) hx hb dL_law_2704 hl (by decide) rfl (fun ls hl => ?_)
  refine lv_aload_n hx hb dL_law_2706 rfl (lv_at hl 3 rfl) ?_
  refine lv_aload_n hx hb dL_law_2707 rfl (lv_at hl 1 rfl) ?_
  refine lv_iload hx hb dL_law_2708 (lv_at hl 6 rfl) ?_
  refine lv_iconst (v := 1) hx hb dL_law_2710 (by decide) ?_
  refine lv_iadd hx hb dL_law_2711 ?_
  refine lv_topi (fun y4 e5 => ?_)
  obtain rfl : y4 = 1 := e5.trans (by decide)
  refine va_sld hx hb hX hbl hbA hS (by unfold vp_in; decide) dL_law_2712 ?_
  have hPc := hP.sub (ws' := [(g0, .inr (15, zM 0 bb)), ((bb 0), .inr (4, [.int 0, .ref e0, .int 0])), ((bb 1), .inr (4, [.int 0, .ref e0, .int 0])), ((bb 2), .inr (4, [.int 0, .ref e0, .int 0])), ((bb 3), .inr (4, [.int 0, .ref e0, .int 0]))]) [2, 3, 4, 5, 6] rfl
  have hDc := hD.sub (ws' := [(g0, .inr (15, zM 0 bb)), ((bb 0), .inr (4, [.int 0, .ref e0, .int 0])), ((bb 1), .inr (4, [.int 0, .ref e0, .int 0])), ((bb 2), .inr (4, [.int 0, .ref e0, .int 0])), ((bb 3), .inr (4, [.int 0, .ref e0, .int 0]))]) [2, 3, 4, 5, 6] (by decide) rfl
  have hKc := hK.sub (tys' := []) [] rfl
  have hFc := va_free (wc := [(g0, .inr (15, zM 0 bb)), ((bb 0), .inr (4, [.int 0, .ref e0, .int 0])), ((bb 1), .inr (4, [.int 0, .ref e0, .int 0])), ((bb 2), .inr (4, [.int 0, .ref e0, .int 0])), ((bb 3), .inr (4, [.int 0, .ref e0, .int 0]))]) hD hS hA [2, 3, 4, 5, 6] rfl
  have hEc := (hE.kept hS.2.1).narrow hFc
  refine va_calli (va_runV (As := [.int (xs (1 : Int32).toNatClampNeg)]) (rest := []) ⟨hx, hb, hml, hown, hts⟩ (c_X10_standing l htr dC dI e0 H.size g0 0 bb (xs (1 : Int32).toNatClampNeg)) (cwV 1 hts gL_law_X10_standing rfl rfl rfl (by decide +kernel) ⟨Nat.le_of_ble_eq_true rfl, Nat.le_of_ble_eq_true rfl⟩) ⟨fun a U g mk q => by obtain ⟨q0, q1, qP, qK, qD, qE⟩ := q; exact ⟨q0, q1, qP, va_K.moved (u := U) (U := U.calling g mk a) (Vm.Alike.refl U.vm) qK, qD, zE.same rfl qE⟩, va_recv hKc hPc (ci := 15) (q0 := 0) rfl rfl, fun U hU hW => ⟨rfl, by rw [hU], by rw [hU]; exact hPc, va_K.moved hW.alike hKc, hDc.weaken (fun _ _ _ _ => trivial), by rw [hU]; exact zE.warm hW hEc⟩⟩ rfl rfl hl.1 rfl (lv_room (Nat.le_of_ble_eq_true rfl)) dL_law_2713 ⟨Nat.le_of_ble_eq_true rfl, Nat.le_of_ble_eq_true rfl⟩) hS (fun q _ h => hFc q h) hFc (fun r6 u t H1 locs ht hvm hw hB hz1 hk1 hS => ?_)
  obtain ⟨hP1, hK1, hD1⟩ := hB
  rw [ht] at hP1
  obtain ⟨hP, hD⟩ := va_join (wr := [((a 0), .inl (cL, 10, .inr (.inr (.inr (.inr (fun _ => none)))))), ((a 3), .inl (cT, 6, .inr (.inr (.inr (.inr (fun _ => none)))))), (o, .inl (cO, 1, .inr (.inl (fun _ => 0)))), (od, .inl (cD, 1, .inr (.inr (.inr (.inl (fun _ => 0))))))]) (w1 := [(g0, .inr (15, zM 1 bb))]) hP hD [2, 3, 4, 5, 6] [0, 1, 7, 8] rfl rfl (by decide) (by decide) hk1 hFc hP1 hD1
  generalize H1 = H at hP hS ⊢
  have hP : va_P (dC, dI) vwCl [((a 0), .inl (cL, 10, .inr (.inr (.inr (.inr (fun _ => none)))))), ((a 3), .inl (cT, 6, .inr (.inr (.inr (.inr (fun _ => none)))))), (o, .inl (cO, 1, .inr (.inl (fun _ => 0)))), (od, .inl (cD, 1, .inr (.inr (.inr (.inl (fun _ => 0)))))), (g0, .inr (15, zM 1 bb))] H := hP
  have hD : va_D A [((a 0), .inl (cL, 10, .inr (.inr (.inr (.inr (fun _ => none)))))), ((a 3), .inl (cT, 6, .inr (.inr (.inr (.inr (fun _ => none)))))), (o, .inl (cO, 1, .inr (.inl (fun _ => 0)))), (od, .inl (cD, 1, .inr (.inr (.inr (.inl (fun _ => 0)))))), (g0, .inr (15, zM 1 bb))] := hD
  obtain rfl : r6 = 0 := hw
  refine lv_istore (lv' := [(7, .int 0), (6, .int 1), (0, .ref b), (1, .ref h0), (2, .ref g0), (3, .ref o), (4, .ref od), (5, .int 0)]) hx hb dL_law_2716 hl (by decide) rfl (fun ls hl => ?_)
  refine lv_aload_n hx hb dL_law_2718 rfl (lv_at hl 4 rfl) ?_
  have hPc := hP.sub (ws' := [(g0, .inr (15, [.int 1, .ref (bb 0), .ref (bb 1), .ref (bb 2), .ref (bb 3), .int 0, .long 0, .int 0, .int 0, .int 0, .int 0]))]) [4] rfl
  have hDc := hD.sub (ws' := [(g0, .inr (15, [.int 1, .ref (bb 0), .ref (bb 1), .ref (bb 2), .ref (bb 3), .int 0, .long 0, .int 0, .int 0, .int 0, .int 0]))]) [4] (by decide) rfl
  have hKc := hK.sub (tys' := []) [] rfl
  have hFc := va_free (wc := [(g0, .inr (15, [.int 1, .ref (bb 0), .ref (bb 1), .ref (bb 2), .ref (bb 3), .int 0, .long 0, .int 0, .int 0, .int 0, .int 0]))]) hD hS hA [4] rfl
  refine va_calli (va_runV (As := []) (rest := []) ⟨hx, hb, hml, hown, hts⟩ (c_X10_thrown l htr dC dI e0 H.size g0 1 (bb 0) (bb 1) (bb 2) (bb 3) 0 0 0 0 0 0) (cwV 0 hts gL_law_X10_thrown rfl rfl rfl (by decide +kernel) ⟨Nat.le_of_ble_eq_true rfl, Nat.le_of_ble_eq_true rfl⟩) ⟨fun a U g mk q => by obtain ⟨q0, q1, qP, qK, qD⟩ := q; exact ⟨q0, q1, qP, va_K.moved (u := U) (U := U.calling g mk a) (Vm.Alike.refl U.vm) qK, qD⟩, va_recv hKc hPc (ci := 15) (q0 := 0) rfl rfl, fun U hU hW => ⟨rfl, by rw [hU], by rw [hU]; exact hPc, va_K.moved hW.alike hKc, hDc.weaken (fun _ _ _ _ => trivial)⟩⟩ rfl rfl hl.1 rfl (lv_room (Nat.le_of_ble_eq_true rfl)) dL_law_2719 ⟨Nat.le_of_ble_eq_true rfl, Nat.le_of_ble_eq_true rfl⟩) hS (fun q _ h => hFc q h) hFc (fun r7 u t H1 locs ht hvm hw hB hz1 hk1 hS => ?_)
  obtain ⟨hP1, hK1, hD1⟩ := hB
  rw [ht] at hP1
  obtain ⟨hP, hD⟩ := va_join (wr := [((a 0), .inl (cL, 10, .inr (.inr (.inr (.inr (fun _ => none)))))), ((a 3), .inl (cT, 6, .inr (.inr (.inr (.inr (fun _ => none)))))), (o, .inl (cO, 1, .inr (.inl (fun _ => 0)))), (od, .inl (cD, 1, .inr (.inr (.inr (.inl (fun _ => 0))))))]) (w1 := [(g0, .inr (15, [.int 1, .ref (bb 0), .ref (bb 1), .ref (bb 2), .ref (bb 3), .int 0, .long 0, .int 0, .int 0, .int 0, .int 0]))]) hP hD [4] [0, 1, 2, 3] rfl rfl (by decide) (by decide) hk1 hFc hP1 hD1
  generalize H1 = H at hP hS ⊢
  have hP : va_P (dC, dI) vwCl [((a 0), .inl (cL, 10, .inr (.inr (.inr (.inr (fun _ => none)))))), ((a 3), .inl (cT, 6, .inr (.inr (.inr (.inr (fun _ => none)))))), (o, .inl (cO, 1, .inr (.inl (fun _ => 0)))), (od, .inl (cD, 1, .inr (.inr (.inr (.inl (fun _ => 0)))))), (g0, .inr (15, [.int 1, .ref (bb 0), .ref (bb 1), .ref (bb 2), .ref (bb 3), .int 0, .long 0, .int 0, .int 0, .int 0, .int 0]))] H := hP
  have hD : va_D A [((a 0), .inl (cL, 10, .inr (.inr (.inr (.inr (fun _ => none)))))), ((a 3), .inl (cT, 6, .inr (.inr (.inr (.inr (fun _ => none)))))), (o, .inl (cO, 1, .inr (.inl (fun _ => 0)))), (od, .inl (cD, 1, .inr (.inr (.inr (.inl (fun _ => 0)))))), (g0, .inr (15, [.int 1, .ref (bb 0), .ref (bb 1), .ref (bb 2), .ref (bb 3), .int 0, .long 0, .int 0, .int 0, .int 0, .int 0]))] := hD
  obtain rfl : r7 = 1 := hw
  refine lv_iload hx hb dL_law_2722 (lv_at hl 1 rfl) ?_
  refine lv_icmp_eq (tgt := 2729) hx hb dL_law_2724 (by decide) (fun _ => ?_) (fun c8 => absurd (by decide) c8)
  refine lv_iload hx hb dL_law_2729 (lv_at hl 1 rfl) ?_
  refine lv_if_ne (tgt := 2746) hx hb dL_law_2731 (by decide) (fun _ => ?_) (fun c9 => absurd c9 (by decide))
  refine lv_goto (tgt := 3259) hx hb dL_law_2746 (by decide) ?_
  exact zl_end C0 hA2 (Nat.le_of_ble_eq_true rfl) (Nat.le_of_ble_eq_true rfl) hS (lv_sub hl [7, 2] rfl)
theorem dL_law_2749 : decode cL_law 2749 = .ok (.aload_n 1, 1) := by decide +kernel
theorem dL_law_2750 : decode cL_law 2750 = .ok (.aload_n 0, 1) := by decide +kernel
theorem dL_law_2751 : decode cL_law 2751 = .ok (.iload 5, 2) := by decide +kernel
theorem dL_law_2753 : decode cL_law 2753 = .ok (.iconst 1, 1) := by decide +kernel
theorem dL_law_2754 : decode cL_law 2754 = .ok (.iadd, 1) := by decide +kernel
theorem dL_law_2755 : decode cL_law 2755 = .ok (.iaload, 1) := by decide +kernel
theorem dL_law_2756 : decode cL_law 2756 = .ok (.aload_n 3, 1) := by decide +kernel
theorem dL_law_2757 : decode cL_law 2757 = .ok (.invokestatic 304, 3) := by decide +kernel
theorem dL_law_2760 : decode cL_law 2760 = .ok (.istore 6, 2) := by decide +kernel
theorem dL_law_2762 : decode cL_law 2762 = .ok (.aload_n 2, 1) := by decide +kernel
theorem dL_law_2763 : decode cL_law 2763 = .ok (.aload_n 0, 1) := by decide +kernel
theorem dL_law_2764 : decode cL_law 2764 = .ok (.iload 5, 2) := by decide +kernel
theorem dL_law_2766 : decode cL_law 2766 = .ok (.iconst 1, 1) := by decide +kernel
theorem dL_law_2767 : decode cL_law 2767 = .ok (.iadd, 1) := by decide +kernel
theorem dL_law_2768 : decode cL_law 2768 = .ok (.iaload, 1) := by decide +kernel
theorem dL_law_2769 : decode cL_law 2769 = .ok (.invokevirtual 306, 3) := by decide +kernel
theorem dL_law_2772 : decode cL_law 2772 = .ok (.istore 7, 2) := by decide +kernel
theorem dL_law_2774 : decode cL_law 2774 = .ok (.aload_n 2, 1) := by decide +kernel
theorem dL_law_2775 : decode cL_law 2775 = .ok (.invokevirtual 183, 3) := by decide +kernel
theorem dL_law_2778 : decode cL_law 2778 = .ok (.iload 6, 2) := by decide +kernel
theorem dL_law_2780 : decode cL_law 2780 = .ok (.if_icmp .eq 5, 3) := by decide +kernel
theorem dL_law_2785 : decode cL_law 2785 = .ok (.iload 6, 2) := by decide +kernel
theorem dL_law_2787 : decode cL_law 2787 = .ok (.ifCond .ne 15, 3) := by decide +kernel
theorem dL_law_2802 : decode cL_law 2802 = .ok (.goto 457, 3) := by decide +kernel
set_option maxHeartbeats 4000000 in
set_option maxRecDepth 100000 in
/-- estimate, called on the two fresh objects -/
theorem zl_38 {p : Program} {l : Launch} {e : Env} {s : State} {m : MethodId} {below : List Frame} {meth : Method} {c : Code} {b : Nat} {xs : Nat → Int32} {A : Nat → Prop} (C0 : lw_At p s m meth c b 5 xs) (hA : ∀ q : Nat, s.heap.size ≤ q → A q) (hA2 : ∀ q : Nat, A q → s.heap.size ≤ q) (htr : l.stackTraces = false) (dC : Nat → ClassId) (dI : Nat → Nat → Nat) (e0 h0 g0 o od : Nat) (a bb : Nat → Nat) (cL cT cO cD : ClassId) (hE : zE e0 A s s.heap) (H : Heap) (locs : List Loc) (ls : Array Slot) (hK : va_K (dC, dI) vwCl [(cL, (.object RX1)), (cT, (.object RX5)), (cO, .long), (cD, .double)] s) (hP : va_P (dC, dI) vwCl [(h0, .inr (11, zC a)), ((a 0), .inl (cL, 10, .inr (.inr (.inr (.inr (fun _ => none)))))), ((a 3), .inl (cT, 6, .inr (.inr (.inr (.inr (fun _ => none)))))), (g0, .inr (15, zM 0 bb)), ((bb 0), .inr (4, [.int 0, .ref e0, .int 0])), ((bb 1), .inr (4, [.int 0, .ref e0, .int 0])), ((bb 2), .inr (4, [.int 0, .ref e0, .int 0])), ((bb 3), .inr (4, [.int 0, .ref e0, .int 0])), (o, .inl (cO, 1, .inr (.inl (fun _ => 0)))), (od, .inl (cD, 1, .inr (.inr (.inr (.inl (fun _ => 0))))))] H) (hD : va_D A [(h0, .inr (11, zC a)), ((a 0), .inl (cL, 10, .inr (.inr (.inr (.inr (fun _ => none)))))), ((a 3), .inl (cT, 6, .inr (.inr (.inr (.inr (fun _ => none)))))), (g0, .inr (15, zM 0 bb)), ((bb 0), .inr (4, [.int 0, .ref e0, .int 0])), ((bb 1), .inr (4, [.int 0, .ref e0, .int 0])), ((bb 2), .inr (4, [.int 0, .ref e0, .int 0])), ((bb 3), .inr (4, [.int 0, .ref e0, .int 0])), (o, .inl (cO, 1, .inr (.inl (fun _ => 0)))), (od, .inl (cD, 1, .inr (.inr (.inr (.inl (fun _ => 0))))))]) (hS : va_S A s.heap H locs) (hl : lv_has ls 9 [(0, .ref b), (1, .ref h0), (2, .ref g0), (3, .ref o), (4, .ref od), (5, .int 0)]) : W p l e room_1 s m #[Value.ref b] below meth c H locs (86) (1094) (lw_Z below #[Value.ref b] s) (F0 m 2749 ls []) := by
  obtain ⟨hx, hb, hr, hml, hown, ht0, hX, hbl, hlocks, hgv⟩ := id C0
  have hts := ht0
  have hbA : ¬ A b := fun h => absurd hbl (Nat.not_lt.mpr (hA2 b h))
  refine lv_aload_n hx hb dL_law_2749 rfl (lv_at hl 1 rfl) ?_
  refine lv_aload_n hx hb dL_law_2750 rfl (lv_at hl 0 rfl) ?_
  refine lv_iload hx hb dL_law_2751 (lv_at hl 5 rfl) ?_
  refine lv_iconst (v := 1) hx hb dL_law_2753 (by decide) ?_
  refine lv_iadd hx hb dL_law_2754 ?_
  refine lv_topi (fun y1 e2 => ?_)
  obtain rfl : y1 = 1 := e2.trans (by decide)
  refine va_sld hx hb hX hbl hbA hS (by unfold vp_in; decide) dL_law_2755 ?_
  refine lv_aload_n hx hb dL_law_2756 rfl (lv_at hl 3 rfl) ?_
  have hPc := hP.sub (ws' := [(h0, .inr (11, zC a))]) [0] rfl
  have hDc := hD.sub (ws' := [(h0, .inr (11, zC a))]) [0] (by decide) rfl
  have hKc := hK.sub (tys' := []) [] rfl
  have hFc := va_free (wc := [(h0, .inr (11, zC a))]) hD hS hA [0] rfl
  have hEc := (hE.kept hS.2.1).narrow hFc
  refine vx_calli (vx_runSX (As := [.ref h0, .int (xs (1 : Int32).toNatClampNeg), .ref o]) (rest := []) ⟨hx, hb, hml, hown, hts⟩ (c_L_estimate l htr dC dI e0 H.size h0 a (xs (1 : Int32).toNatClampNeg) o) (vx_cwSW 3 hts gL_law_L_estimate rfl rfl rfl (by decide +kernel) ⟨Nat.le_of_ble_eq_true rfl, Nat.le_of_ble_eq_true rfl⟩) ⟨fun a U g mk q => by obtain ⟨q0, q1, qP, qK, qD, qE⟩ := q; exact ⟨q0, q1, qP, va_K.moved (u := U) (U := U.calling g mk a) (Vm.Alike.refl U.vm) qK, qD, zE.same rfl qE⟩, fun U hU hW => ⟨rfl, by rw [hU], by rw [hU]; exact hPc, va_K.moved hW.alike hKc, hDc.weaken (fun _ _ _ _ => trivial), by rw [hU]; exact zE.warm hW hEc⟩⟩ rfl rfl hl.1 rfl (lv_room (Nat.le_of_ble_eq_true rfl)) dL_law_2757 ⟨Nat.le_of_ble_eq_true rfl, Nat.le_of_ble_eq_true rfl⟩) hS (fun q _ h => hFc q h) hFc (fun q _ h => hFc q h) (fun E ce q9 u t H1 locs1 ht hvm hpx hBX hz1 hk1 hS hce hcv hcl => absurd hpx id) (fun r3 u t H1 locs ht hvm hw hB hz1 hk1 hS => ?_)
  have hP1 : va_P (dC, dI) vwCl [] H1 := fun k q h => by simp at h
  have hD1 : va_D (va_A [(h0, .inr (11, zC a))] H.size) [] := ⟨fun i j p q h => by simp at h, fun k q h => by simp at h⟩
  obtain ⟨hP, hD⟩ := va_join (wr := [((a 0), .inl (cL, 10, .inr (.inr (.inr (.inr (fun _ => none)))))), ((a 3), .inl (cT, 6, .inr (.inr (.inr (.inr (fun _ => none)))))), (g0, .inr (15, zM 0 bb)), ((bb 0), .inr (4, [.int 0, .ref e0, .int 0])), ((bb 1), .inr (4, [.int 0, .ref e0, .int 0])), ((bb 2), .inr (4, [.int 0, .ref e0, .int 0])), ((bb 3), .inr (4, [.int 0, .ref e0, .int 0])), (o, .inl (cO, 1, .inr (.inl (fun _ => 0)))), (od, .inl (cD, 1, .inr (.inr (.inr (.inl (fun _ => 0))))))]) (w1 := []) hP hD [0] [1, 2, 3, 4, 5, 6, 7, 8, 9] rfl rfl (by decide) (by decide) hk1 hFc hP1 hD1
  generalize H1 = H at hP hS ⊢
  have hP : va_P (dC, dI) vwCl [((a 0), .inl (cL, 10, .inr (.inr (.inr (.inr (fun _ => none)))))), ((a 3), .inl (cT, 6, .inr (.inr (.inr (.inr (fun _ => none)))))), (g0, .inr (15, zM 0 bb)), ((bb 0), .inr (4, [.int 0, .ref e0, .int 0])), ((bb 1), .inr (4, [.int 0, .ref e0, .int 0])), ((bb 2), .inr (4, [.int 0, .ref e0, .int 0])), ((bb 3), .inr (4, [.int 0, .ref e0, .int 0])), (o, .inl (cO, 1, .inr (.inl (fun _ => 0)))), (od, .inl (cD, 1, .inr (.inr (.inr (.inl (fun _ => 0))))))] H := hP
  have hD : va_D A [((a 0), .inl (cL, 10, .inr (.inr (.inr (.inr (fun _ => none)))))), ((a 3), .inl (cT, 6, .inr (.inr (.inr (.inr (fun _ => none)))))), (g0, .inr (15, zM 0 bb)), ((bb 0), .inr (4, [.int 0, .ref e0, .int 0])), ((bb 1), .inr (4, [.int 0, .ref e0, .int 0])), ((bb 2), .inr (4, [.int 0, .ref e0, .int 0])), ((bb 3), .inr (4, [.int 0, .ref e0, .int 0])), (o, .inl (cO, 1, .inr (.inl (fun _ => 0)))), (od, .inl (cD, 1, .inr (.inr (.inr (.inl (fun _ => 0))))))] := hD
  obtain rfl : r3 = 1 := hw
  refine lv_istore (lv' := [(6, .int 1), (0, .ref b), (1, .ref h0), (2, .ref g0), (3, .ref o), (4, .ref od), (5, .int 0)]) hx hb dL_law_2760 hl (by decide) rfl (fun ls hl => ?_)
  refine lv_aload_n hx hb dL_law_2762 rfl (lv_at hl 3 rfl) ?_
  refine lv_aload_n hx hb dL_law_2763 rfl (lv_at hl 1 rfl) ?_
  refine lv_iload hx hb dL_law_2764 (lv_at hl 6 rfl) ?_
  refine lv_iconst (v := 1) hx hb dL_law_2766 (by decide) ?_
  refine lv_iadd hx hb dL_law_2767 ?_
  refine lv_topi (fun y4 e5 => ?_)
  obtain rfl : y4 = 1 := e5.trans (by decide)
  refine va_sld hx hb hX hbl hbA hS (by unfold vp_in; decide) dL_law_2768 ?_
  have hPc := hP.sub (ws' := [(g0, .inr (15, zM 0 bb)), ((bb 0), .inr (4, [.int 0, .ref e0, .int 0])), ((bb 1), .inr (4, [.int 0, .ref e0, .int 0])), ((bb 2), .inr (4, [.int 0, .ref e0, .int 0])), ((bb 3), .inr (4, [.int 0, .ref e0, .int 0]))]) [2, 3, 4, 5, 6] rfl
  have hDc := hD.sub (ws' := [(g0, .inr (15, zM 0 bb)), ((bb 0), .inr (4, [.int 0, .ref e0, .int 0])), ((bb 1), .inr (4, [.int 0, .ref e0, .int 0])), ((bb 2), .inr (4, [.int 0, .ref e0, .int 0])), ((bb 3), .inr (4, [.int 0, .ref e0, .int 0]))]) [2, 3, 4, 5, 6] (by decide) rfl
  have hKc := hK.sub (tys' := []) [] rfl
  have hFc := va_free (wc := [(g0, .inr (15, zM 0 bb)), ((bb 0), .inr (4, [.int 0, .ref e0, .int 0])), ((bb 1), .inr (4, [.int 0, .ref e0, .int 0])), ((bb 2), .inr (4, [.int 0, .ref e0, .int 0])), ((bb 3), .inr (4, [.int 0, .ref e0, .int 0]))]) hD hS hA [2, 3, 4, 5, 6] rfl
  have hEc := (hE.kept hS.2.1).narrow hFc
  refine va_calli (va_runV (As := [.int (xs (1 : Int32).toNatClampNeg)]) (rest := []) ⟨hx, hb, hml, hown, hts⟩ (c_X10_estimate l htr dC dI e0 H.size g0 0 bb (xs (1 : Int32).toNatClampNeg)) (cwV 1 hts gL_law_X10_estimate rfl rfl rfl (by decide +kernel) ⟨Nat.le_of_ble_eq_true rfl, Nat.le_of_ble_eq_true rfl⟩) ⟨fun a U g mk q => by obtain ⟨q0, q1, qP, qK, qD, qE⟩ := q; exact ⟨q0, q1, qP, va_K.moved (u := U) (U := U.calling g mk a) (Vm.Alike.refl U.vm) qK, qD, zE.same rfl qE⟩, va_recv hKc hPc (ci := 15) (q0 := 0) rfl rfl, fun U hU hW => ⟨rfl, by rw [hU], by rw [hU]; exact hPc, va_K.moved hW.alike hKc, hDc.weaken (fun _ _ _ _ => trivial), by rw [hU]; exact zE.warm hW hEc⟩⟩ rfl rfl hl.1 rfl (lv_room (Nat.le_of_ble_eq_true rfl)) dL_law_2769 ⟨Nat.le_of_ble_eq_true rfl, Nat.le_of_ble_eq_true rfl⟩) hS (fun q _ h => hFc q h) hFc (fun r6 u t H1 locs ht hvm hw hB hz1 hk1 hS => ?_)
  obtain ⟨hP1, hK1, hD1⟩ := hB
  rw [ht] at hP1
  obtain ⟨hP, hD⟩ := va_join (wr := [((a 0), .inl (cL, 10, .inr (.inr (.inr (.inr (fun _ => none)))))), ((a 3), .inl (cT, 6, .inr (.inr (.inr (.inr (fun _ => none)))))), (o, .inl (cO, 1, .inr (.inl (fun _ => 0)))), (od, .inl (cD, 1, .inr (.inr (.inr (.inl (fun _ => 0))))))]) (w1 := [(g0, .inr (15, zM 1 bb))]) hP hD [2, 3, 4, 5, 6] [0, 1, 7, 8] rfl rfl (by decide) (by decide) hk1 hFc hP1 hD1
  generalize H1 = H at hP hS ⊢
  have hP : va_P (dC, dI) vwCl [((a 0), .inl (cL, 10, .inr (.inr (.inr (.inr (fun _ => none)))))), ((a 3), .inl (cT, 6, .inr (.inr (.inr (.inr (fun _ => none)))))), (o, .inl (cO, 1, .inr (.inl (fun _ => 0)))), (od, .inl (cD, 1, .inr (.inr (.inr (.inl (fun _ => 0)))))), (g0, .inr (15, zM 1 bb))] H := hP
  have hD : va_D A [((a 0), .inl (cL, 10, .inr (.inr (.inr (.inr (fun _ => none)))))), ((a 3), .inl (cT, 6, .inr (.inr (.inr (.inr (fun _ => none)))))), (o, .inl (cO, 1, .inr (.inl (fun _ => 0)))), (od, .inl (cD, 1, .inr (.inr (.inr (.inl (fun _ => 0)))))), (g0, .inr (15, zM 1 bb))] := hD
  obtain rfl : r6 = 0 := hw
  refine lv_istore (lv' := [(7, .int 0), (6, .int 1), (0, .ref b), (1, .ref h0), (2, .ref g0), (3, .ref o), (4, .ref od), (5, .int 0)]) hx hb dL_law_2772 hl (by decide) rfl (fun ls hl => ?_)
  refine lv_aload_n hx hb dL_law_2774 rfl (lv_at hl 4 rfl) ?_
  have hPc := hP.sub (ws' := [(g0, .inr (15, [.int 1, .ref (bb 0), .ref (bb 1), .ref (bb 2), .ref (bb 3), .int 0, .long 0, .int 0, .int 0, .int 0, .int 0]))]) [4] rfl
  have hDc := hD.sub (ws' := [(g0, .inr (15, [.int 1, .ref (bb 0), .ref (bb 1), .ref (bb 2), .ref (bb 3), .int 0, .long 0, .int 0, .int 0, .int 0, .int 0]))]) [4] (by decide) rfl
  have hKc := hK.sub (tys' := []) [] rfl
  have hFc := va_free (wc := [(g0, .inr (15, [.int 1, .ref (bb 0), .ref (bb 1), .ref (bb 2), .ref (bb 3), .int 0, .long 0, .int 0, .int 0, .int 0, .int 0]))]) hD hS hA [4] rfl
  refine va_calli (va_runV (As := []) (rest := []) ⟨hx, hb, hml, hown, hts⟩ (c_X10_thrown l htr dC dI e0 H.size g0 1 (bb 0) (bb 1) (bb 2) (bb 3) 0 0 0 0 0 0) (cwV 0 hts gL_law_X10_thrown rfl rfl rfl (by decide +kernel) ⟨Nat.le_of_ble_eq_true rfl, Nat.le_of_ble_eq_true rfl⟩) ⟨fun a U g mk q => by obtain ⟨q0, q1, qP, qK, qD⟩ := q; exact ⟨q0, q1, qP, va_K.moved (u := U) (U := U.calling g mk a) (Vm.Alike.refl U.vm) qK, qD⟩, va_recv hKc hPc (ci := 15) (q0 := 0) rfl rfl, fun U hU hW => ⟨rfl, by rw [hU], by rw [hU]; exact hPc, va_K.moved hW.alike hKc, hDc.weaken (fun _ _ _ _ => trivial)⟩⟩ rfl rfl hl.1 rfl (lv_room (Nat.le_of_ble_eq_true rfl)) dL_law_2775 ⟨Nat.le_of_ble_eq_true rfl, Nat.le_of_ble_eq_true rfl⟩) hS (fun q _ h => hFc q h) hFc (fun r7 u t H1 locs ht hvm hw hB hz1 hk1 hS => ?_)
  obtain ⟨hP1, hK1, hD1⟩ := hB
  rw [ht] at hP1
  obtain ⟨hP, hD⟩ := va_join (wr := [((a 0), .inl (cL, 10, .inr (.inr (.inr (.inr (fun _ => none)))))), ((a 3), .inl (cT, 6, .inr (.inr (.inr (.inr (fun _ => none)))))), (o, .inl (cO, 1, .inr (.inl (fun _ => 0)))), (od, .inl (cD, 1, .inr (.inr (.inr (.inl (fun _ => 0))))))]) (w1 := [(g0, .inr (15, [.int 1, .ref (bb 0), .ref (bb 1), .ref (bb 2), .ref (bb 3), .int 0, .long 0, .int 0, .int 0, .int 0, .int 0]))]) hP hD [4] [0, 1, 2, 3] rfl rfl (by decide) (by decide) hk1 hFc hP1 hD1
  generalize H1 = H at hP hS ⊢
  have hP : va_P (dC, dI) vwCl [((a 0), .inl (cL, 10, .inr (.inr (.inr (.inr (fun _ => none)))))), ((a 3), .inl (cT, 6, .inr (.inr (.inr (.inr (fun _ => none)))))), (o, .inl (cO, 1, .inr (.inl (fun _ => 0)))), (od, .inl (cD, 1, .inr (.inr (.inr (.inl (fun _ => 0)))))), (g0, .inr (15, [.int 1, .ref (bb 0), .ref (bb 1), .ref (bb 2), .ref (bb 3), .int 0, .long 0, .int 0, .int 0, .int 0, .int 0]))] H := hP
  have hD : va_D A [((a 0), .inl (cL, 10, .inr (.inr (.inr (.inr (fun _ => none)))))), ((a 3), .inl (cT, 6, .inr (.inr (.inr (.inr (fun _ => none)))))), (o, .inl (cO, 1, .inr (.inl (fun _ => 0)))), (od, .inl (cD, 1, .inr (.inr (.inr (.inl (fun _ => 0)))))), (g0, .inr (15, [.int 1, .ref (bb 0), .ref (bb 1), .ref (bb 2), .ref (bb 3), .int 0, .long 0, .int 0, .int 0, .int 0, .int 0]))] := hD
  obtain rfl : r7 = 1 := hw
  refine lv_iload hx hb dL_law_2778 (lv_at hl 1 rfl) ?_
  refine lv_icmp_eq (tgt := 2785) hx hb dL_law_2780 (by decide) (fun _ => ?_) (fun c8 => absurd (by decide) c8)
  refine lv_iload hx hb dL_law_2785 (lv_at hl 1 rfl) ?_
  refine lv_if_ne (tgt := 2802) hx hb dL_law_2787 (by decide) (fun _ => ?_) (fun c9 => absurd c9 (by decide))
  refine lv_goto (tgt := 3259) hx hb dL_law_2802 (by decide) ?_
  exact zl_end C0 hA2 (Nat.le_of_ble_eq_true rfl) (Nat.le_of_ble_eq_true rfl) hS (lv_sub hl [7, 2] rfl)
theorem dL_law_2805 : decode cL_law 2805 = .ok (.aload_n 1, 1) := by decide +kernel
theorem dL_law_2806 : decode cL_law 2806 = .ok (.aload_n 0, 1) := by decide +kernel
theorem dL_law_2807 : decode cL_law 2807 = .ok (.iload 5, 2) := by decide +kernel
theorem dL_law_2809 : decode cL_law 2809 = .ok (.iconst 1, 1) := by decide +kernel
theorem dL_law_2810 : decode cL_law 2810 = .ok (.iadd, 1) := by decide +kernel
theorem dL_law_2811 : decode cL_law 2811 = .ok (.iaload, 1) := by decide +kernel
theorem dL_law_2812 : decode cL_law 2812 = .ok (.aload_n 3, 1) := by decide +kernel
theorem dL_law_2813 : decode cL_law 2813 = .ok (.invokestatic 307, 3) := by decide +kernel
theorem dL_law_2816 : decode cL_law 2816 = .ok (.istore 6, 2) := by decide +kernel
theorem dL_law_2818 : decode cL_law 2818 = .ok (.aload_n 2, 1) := by decide +kernel
theorem dL_law_2819 : decode cL_law 2819 = .ok (.aload_n 0, 1) := by decide +kernel
theorem dL_law_2820 : decode cL_law 2820 = .ok (.iload 5, 2) := by decide +kernel
theorem dL_law_2822 : decode cL_law 2822 = .ok (.iconst 1, 1) := by decide +kernel
theorem dL_law_2823 : decode cL_law 2823 = .ok (.iadd, 1) := by decide +kernel
theorem dL_law_2824 : decode cL_law 2824 = .ok (.iaload, 1) := by decide +kernel
theorem dL_law_2825 : decode cL_law 2825 = .ok (.invokevirtual 309, 3) := by decide +kernel
theorem dL_law_2828 : decode cL_law 2828 = .ok (.lstore 7, 2) := by decide +kernel
theorem dL_law_2830 : decode cL_law 2830 = .ok (.aload_n 2, 1) := by decide +kernel
theorem dL_law_2831 : decode cL_law 2831 = .ok (.invokevirtual 183, 3) := by decide +kernel
theorem dL_law_2834 : decode cL_law 2834 = .ok (.iload 6, 2) := by decide +kernel
theorem dL_law_2836 : decode cL_law 2836 = .ok (.if_icmp .eq 5, 3) := by decide +kernel
theorem dL_law_2841 : decode cL_law 2841 = .ok (.iload 6, 2) := by decide +kernel
theorem dL_law_2843 : decode cL_law 2843 = .ok (.ifCond .ne 14, 3) := by decide +kernel
theorem dL_law_2846 : decode cL_law 2846 = .ok (.aload_n 3, 1) := by decide +kernel
theorem dL_law_2847 : decode cL_law 2847 = .ok (.iconst 0, 1) := by decide +kernel
theorem dL_law_2848 : decode cL_law 2848 = .ok (.laload, 1) := by decide +kernel
theorem dL_law_2849 : decode cL_law 2849 = .ok (.lload 7, 2) := by decide +kernel
theorem dL_law_2851 : decode cL_law 2851 = .ok (.lcmp, 1) := by decide +kernel
theorem dL_law_2852 : decode cL_law 2852 = .ok (.ifCond .eq 5, 3) := by decide +kernel
theorem dL_law_2857 : decode cL_law 2857 = .ok (.goto 402, 3) := by decide +kernel
set_option maxHeartbeats 4000000 in
set_option maxRecDepth 100000 in
/-- purse, called on the two fresh objects -/
theorem zl_39_in {p : Program} {l : Launch} {e : Env} {s : State} {m : MethodId} {below : List Frame} {meth : Method} {c : Code} {b : Nat} {xs : Nat → Int32} {A : Nat → Prop} (C0 : lw_At p s m meth c b 5 xs) (hA : ∀ q : Nat, s.heap.size ≤ q → A q) (hA2 : ∀ q : Nat, A q → s.heap.size ≤ q) (htr : l.stackTraces = false) (dC : Nat → ClassId) (dI : Nat → Nat → Nat) (e0 h0 g0 o od : Nat) (a bb : Nat → Nat) (cL cT cO cD : ClassId) (hE : zE e0 A s s.heap) (H : Heap) (locs : List Loc) (ls : Array Slot) (hK : va_K (dC, dI) vwCl [(cL, (.object RX1)), (cT, (.object RX5)), (cO, .long), (cD, .double)] s) (hP : va_P (dC, dI) vwCl [(h0, .inr (11, zC a)), ((a 0), .inl (cL, 10, .inr (.inr (.inr (.inr (fun _ => none)))))), ((a 3), .inl (cT, 6, .inr (.inr (.inr (.inr (fun _ => none)))))), (g0, .inr (15, zM 0 bb)), ((bb 0), .inr (4, [.int 0, .ref e0, .int 0])), ((bb 1), .inr (4, [.int 0, .ref e0, .int 0])), ((bb 2), .inr (4, [.int 0, .ref e0, .int 0])), ((bb 3), .inr (4, [.int 0, .ref e0, .int 0])), (o, .inl (cO, 1, .inr (.inl (fun _ => 0)))), (od, .inl (cD, 1, .inr (.inr (.inr (.inl (fun _ => 0))))))] H) (hD : va_D A [(h0, .inr (11, zC a)), ((a 0), .inl (cL, 10, .inr (.inr (.inr (.inr (fun _ => none)))))), ((a 3), .inl (cT, 6, .inr (.inr (.inr (.inr (fun _ => none)))))), (g0, .inr (15, zM 0 bb)), ((bb 0), .inr (4, [.int 0, .ref e0, .int 0])), ((bb 1), .inr (4, [.int 0, .ref e0, .int 0])), ((bb 2), .inr (4, [.int 0, .ref e0, .int 0])), ((bb 3), .inr (4, [.int 0, .ref e0, .int 0])), (o, .inl (cO, 1, .inr (.inl (fun _ => 0)))), (od, .inl (cD, 1, .inr (.inr (.inr (.inl (fun _ => 0))))))]) (hS : va_S A s.heap H locs) (hl : lv_has ls 9 [(0, .ref b), (1, .ref h0), (2, .ref g0), (3, .ref o), (4, .ref od), (5, .int 0)]) (hin : (0 ≤ (xs (1 : Int32).toNatClampNeg) ∧ (xs (1 : Int32).toNatClampNeg) ≤ 99999)) : W p l e room_1 s m #[Value.ref b] below meth c H locs (86) (1094) (lw_Z below #[Value.ref b] s) (F0 m 2805 ls []) := by
  obtain ⟨hx, hb, hr, hml, hown, ht0, hX, hbl, hlocks, hgv⟩ := id C0
  have hts := ht0
  have hbA : ¬ A b := fun h => absurd hbl (Nat.not_lt.mpr (hA2 b h))
  have h64 : (0 ≤ ((xs (1 : Int32).toNatClampNeg)).toInt64 ∧ ((xs (1 : Int32).toNatClampNeg)).toInt64 ≤ 99999) := zb_purse.mpr hin
  refine lv_aload_n hx hb dL_law_2805 rfl (lv_at hl 1 rfl) ?_
  refine lv_aload_n hx hb dL_law_2806 rfl (lv_at hl 0 rfl) ?_
  refine lv_iload hx hb dL_law_2807 (lv_at hl 5 rfl) ?_
  refine lv_iconst (v := 1) hx hb dL_law_2809 (by decide) ?_
  refine lv_iadd hx hb dL_law_2810 ?_
  refine lv_topi (fun y1 e2 => ?_)
  obtain rfl : y1 = 1 := e2.trans (by decide)
  refine va_sld hx hb hX hbl hbA hS (by unfold vp_in; decide) dL_law_2811 ?_
  refine lv_aload_n hx hb dL_law_2812 rfl (lv_at hl 3 rfl) ?_
  have hPc := hP.sub (ws' := [(h0, .inr (11, zC a)), (o, .inl (cO, 1, .inr (.inl (fun _ => 0))))]) [0, 8] rfl
  have hDc := hD.sub (ws' := [(h0, .inr (11, zC a)), (o, .inl (cO, 1, .inr (.inl (fun _ => 0))))]) [0, 8] (by decide) rfl
  have hKc := hK.sub (tys' := [(cO, .long)]) [2] rfl
  have hFc := va_free (wc := [(h0, .inr (11, zC a)), (o, .inl (cO, 1, .inr (.inl (fun _ => 0))))]) hD hS hA [0, 8] rfl
  have hEc := (hE.kept hS.2.1).narrow hFc
  refine vx_calli (vx_runSX (As := [.ref h0, .int (xs (1 : Int32).toNatClampNeg), .ref o]) (rest := []) ⟨hx, hb, hml, hown, hts⟩ (c_L_purse_in l htr dC dI e0 H.size h0 a (xs (1 : Int32).toNatClampNeg) o cO (fun _ => 0) hin) (vx_cwSW 3 hts gL_law_L_purse rfl rfl rfl (by decide +kernel) ⟨Nat.le_of_ble_eq_true rfl, Nat.le_of_ble_eq_true rfl⟩) ⟨fun a U g mk q => by obtain ⟨q0, q1, qP, qK, qD, qE⟩ := q; exact ⟨q0, q1, qP, va_K.moved (u := U) (U := U.calling g mk a) (Vm.Alike.refl U.vm) qK, qD, zE.same rfl qE⟩, fun U hU hW => ⟨rfl, by rw [hU], by rw [hU]; exact hPc, va_K.moved hW.alike hKc, hDc.weaken (fun _ _ _ _ => trivial), by rw [hU]; exact zE.warm hW hEc⟩⟩ rfl rfl hl.1 rfl (lv_room (Nat.le_of_ble_eq_true rfl)) dL_law_2813 ⟨Nat.le_of_ble_eq_true rfl, Nat.le_of_ble_eq_true rfl⟩) hS (fun q _ h => hFc q h) hFc (fun q _ h => hFc q h) (fun E ce q9 u t H1 locs1 ht hvm hpx hBX hz1 hk1 hS hce hcv hcl => absurd hpx id) (fun r3 u t H1 locs ht hvm hw hB hz1 hk1 hS => ?_)
  obtain ⟨hP1, hK1, hD1⟩ := hB
  rw [ht] at hP1
  obtain ⟨hP, hD⟩ := va_join (wr := [((a 0), .inl (cL, 10, .inr (.inr (.inr (.inr (fun _ => none)))))), ((a 3), .inl (cT, 6, .inr (.inr (.inr (.inr (fun _ => none)))))), (g0, .inr (15, zM 0 bb)), ((bb 0), .inr (4, [.int 0, .ref e0, .int 0])), ((bb 1), .inr (4, [.int 0, .ref e0, .int 0])), ((bb 2), .inr (4, [.int 0, .ref e0, .int 0])), ((bb 3), .inr (4, [.int 0, .ref e0, .int 0])), (od, .inl (cD, 1, .inr (.inr (.inr (.inl (fun _ => 0))))))]) (w1 := [(o, .inl (cO, 1, .inr (.inl (vp_updL (fun _ => 0) (0 : Int32).toNatClampNeg ((xs (1 : Int32).toNatClampNeg)).toInt64))))]) hP hD [0, 8] [1, 2, 3, 4, 5, 6, 7, 9] rfl rfl (by decide) (by decide) hk1 hFc hP1 hD1
  generalize H1 = H at hP hS ⊢
  have hP : va_P (dC, dI) vwCl [((a 0), .inl (cL, 10, .inr (.inr (.inr (.inr (fun _ => none)))))), ((a 3), .inl (cT, 6, .inr (.inr (.inr (.inr (fun _ => none)))))), (g0, .inr (15, zM 0 bb)), ((bb 0), .inr (4, [.int 0, .ref e0, .int 0])), ((bb 1), .inr (4, [.int 0, .ref e0, .int 0])), ((bb 2), .inr (4, [.int 0, .ref e0, .int 0])), ((bb 3), .inr (4, [.int 0, .ref e0, .int 0])), (od, .inl (cD, 1, .inr (.inr (.inr (.inl (fun _ => 0)))))), (o, .inl (cO, 1, .inr (.inl (vp_updL (fun _ => 0) (0 : Int32).toNatClampNeg ((xs (1 : Int32).toNatClampNeg)).toInt64))))] H := hP
  have hD : va_D A [((a 0), .inl (cL, 10, .inr (.inr (.inr (.inr (fun _ => none)))))), ((a 3), .inl (cT, 6, .inr (.inr (.inr (.inr (fun _ => none)))))), (g0, .inr (15, zM 0 bb)), ((bb 0), .inr (4, [.int 0, .ref e0, .int 0])), ((bb 1), .inr (4, [.int 0, .ref e0, .int 0])), ((bb 2), .inr (4, [.int 0, .ref e0, .int 0])), ((bb 3), .inr (4, [.int 0, .ref e0, .int 0])), (od, .inl (cD, 1, .inr (.inr (.inr (.inl (fun _ => 0)))))), (o, .inl (cO, 1, .inr (.inl (vp_updL (fun _ => 0) (0 : Int32).toNatClampNeg ((xs (1 : Int32).toNatClampNeg)).toInt64))))] := hD
  obtain rfl : r3 = 0 := hw
  refine lv_istore (lv' := [(6, .int 0), (0, .ref b), (1, .ref h0), (2, .ref g0), (3, .ref o), (4, .ref od), (5, .int 0)]) hx hb dL_law_2816 hl (by decide) rfl (fun ls hl => ?_)
  refine lv_aload_n hx hb dL_law_2818 rfl (lv_at hl 3 rfl) ?_
  refine lv_aload_n hx hb dL_law_2819 rfl (lv_at hl 1 rfl) ?_
  refine lv_iload hx hb dL_law_2820 (lv_at hl 6 rfl) ?_
  refine lv_iconst (v := 1) hx hb dL_law_2822 (by decide) ?_
  refine lv_iadd hx hb dL_law_2823 ?_
  refine lv_topi (fun y4 e5 => ?_)
  obtain rfl : y4 = 1 := e5.trans (by decide)
  refine va_sld hx hb hX hbl hbA hS (by unfold vp_in; decide) dL_law_2824 ?_
  have hPc := hP.sub (ws' := [(g0, .inr (15, zM 0 bb)), ((bb 0), .inr (4, [.int 0, .ref e0, .int 0])), ((bb 1), .inr (4, [.int 0, .ref e0, .int 0])), ((bb 2), .inr (4, [.int 0, .ref e0, .int 0])), ((bb 3), .inr (4, [.int 0, .ref e0, .int 0]))]) [2, 3, 4, 5, 6] rfl
  have hDc := hD.sub (ws' := [(g0, .inr (15, zM 0 bb)), ((bb 0), .inr (4, [.int 0, .ref e0, .int 0])), ((bb 1), .inr (4, [.int 0, .ref e0, .int 0])), ((bb 2), .inr (4, [.int 0, .ref e0, .int 0])), ((bb 3), .inr (4, [.int 0, .ref e0, .int 0]))]) [2, 3, 4, 5, 6] (by decide) rfl
  have hKc := hK.sub (tys' := []) [] rfl
  have hFc := va_free (wc := [(g0, .inr (15, zM 0 bb)), ((bb 0), .inr (4, [.int 0, .ref e0, .int 0])), ((bb 1), .inr (4, [.int 0, .ref e0, .int 0])), ((bb 2), .inr (4, [.int 0, .ref e0, .int 0])), ((bb 3), .inr (4, [.int 0, .ref e0, .int 0]))]) hD hS hA [2, 3, 4, 5, 6] rfl
  have hEc := (hE.kept hS.2.1).narrow hFc
  refine va_calll (va_runV (As := [.int (xs (1 : Int32).toNatClampNeg)]) (rest := []) ⟨hx, hb, hml, hown, hts⟩ (c_X10_purse_in l htr dC dI e0 H.size g0 0 bb (xs (1 : Int32).toNatClampNeg) h64) (cwV 1 hts gL_law_X10_purse rfl rfl rfl (by decide +kernel) ⟨Nat.le_of_ble_eq_true rfl, Nat.le_of_ble_eq_true rfl⟩) ⟨fun a U g mk q => by obtain ⟨q0, q1, qP, qK, qD, qE⟩ := q; exact ⟨q0, q1, qP, va_K.moved (u := U) (U := U.calling g mk a) (Vm.Alike.refl U.vm) qK, qD, zE.same rfl qE⟩, va_recv hKc hPc (ci := 15) (q0 := 0) rfl rfl, fun U hU hW => ⟨rfl, by rw [hU], by rw [hU]; exact hPc, va_K.moved hW.alike hKc, hDc.weaken (fun _ _ _ _ => trivial), by rw [hU]; exact zE.warm hW hEc⟩⟩ rfl rfl hl.1 rfl (lv_room (Nat.le_of_ble_eq_true rfl)) dL_law_2825 ⟨Nat.le_of_ble_eq_true rfl, Nat.le_of_ble_eq_true rfl⟩) hS (fun q _ h => hFc q h) hFc (fun r6 u t H1 locs ht hvm hw hB hz1 hk1 hS => ?_)
  obtain ⟨hP1, hK1, hD1⟩ := hB
  rw [ht] at hP1
  obtain ⟨hP, hD⟩ := va_join (wr := [((a 0), .inl (cL, 10, .inr (.inr (.inr (.inr (fun _ => none)))))), ((a 3), .inl (cT, 6, .inr (.inr (.inr (.inr (fun _ => none)))))), (od, .inl (cD, 1, .inr (.inr (.inr (.inl (fun _ => 0)))))), (o, .inl (cO, 1, .inr (.inl (vp_updL (fun _ => 0) (0 : Int32).toNatClampNeg ((xs (1 : Int32).toNatClampNeg)).toInt64))))]) (w1 := [(g0, .inr (15, [.int 0, .ref (bb 0), .ref (bb 1), .ref (bb 2), .ref (bb 3), .int 0, .long ((xs (1 : Int32).toNatClampNeg)).toInt64, .int 0, .int 0, .int 0, .int 0]))]) hP hD [2, 3, 4, 5, 6] [0, 1, 7, 8] rfl rfl (by decide) (by decide) hk1 hFc hP1 hD1
  generalize H1 = H at hP hS ⊢
  have hP : va_P (dC, dI) vwCl [((a 0), .inl (cL, 10, .inr (.inr (.inr (.inr (fun _ => none)))))), ((a 3), .inl (cT, 6, .inr (.inr (.inr (.inr (fun _ => none)))))), (od, .inl (cD, 1, .inr (.inr (.inr (.inl (fun _ => 0)))))), (o, .inl (cO, 1, .inr (.inl (vp_updL (fun _ => 0) (0 : Int32).toNatClampNeg ((xs (1 : Int32).toNatClampNeg)).toInt64)))), (g0, .inr (15, [.int 0, .ref (bb 0), .ref (bb 1), .ref (bb 2), .ref (bb 3), .int 0, .long ((xs (1 : Int32).toNatClampNeg)).toInt64, .int 0, .int 0, .int 0, .int 0]))] H := hP
  have hD : va_D A [((a 0), .inl (cL, 10, .inr (.inr (.inr (.inr (fun _ => none)))))), ((a 3), .inl (cT, 6, .inr (.inr (.inr (.inr (fun _ => none)))))), (od, .inl (cD, 1, .inr (.inr (.inr (.inl (fun _ => 0)))))), (o, .inl (cO, 1, .inr (.inl (vp_updL (fun _ => 0) (0 : Int32).toNatClampNeg ((xs (1 : Int32).toNatClampNeg)).toInt64)))), (g0, .inr (15, [.int 0, .ref (bb 0), .ref (bb 1), .ref (bb 2), .ref (bb 3), .int 0, .long ((xs (1 : Int32).toNatClampNeg)).toInt64, .int 0, .int 0, .int 0, .int 0]))] := hD
  obtain rfl : r6 = ((xs (1 : Int32).toNatClampNeg)).toInt64 := hw
  refine lv_lstore (lv' := [(7, .long (((xs (1 : Int32).toNatClampNeg)).toInt64)), (6, .int 0), (0, .ref b), (1, .ref h0), (2, .ref g0), (3, .ref o), (4, .ref od), (5, .int 0)]) hx hb dL_law_2828 hl (by decide) rfl (fun ls hl => ?_)
  refine lv_aload_n hx hb dL_law_2830 rfl (lv_at hl 4 rfl) ?_
  have hPc := hP.sub (ws' := [(g0, .inr (15, [.int 0, .ref (bb 0), .ref (bb 1), .ref (bb 2), .ref (bb 3), .int 0, .long (((xs (1 : Int32).toNatClampNeg)).toInt64), .int 0, .int 0, .int 0, .int 0]))]) [4] rfl
  have hDc := hD.sub (ws' := [(g0, .inr (15, [.int 0, .ref (bb 0), .ref (bb 1), .ref (bb 2), .ref (bb 3), .int 0, .long (((xs (1 : Int32).toNatClampNeg)).toInt64), .int 0, .int 0, .int 0, .int 0]))]) [4] (by decide) rfl
  have hKc := hK.sub (tys' := []) [] rfl
  have hFc := va_free (wc := [(g0, .inr (15, [.int 0, .ref (bb 0), .ref (bb 1), .ref (bb 2), .ref (bb 3), .int 0, .long (((xs (1 : Int32).toNatClampNeg)).toInt64), .int 0, .int 0, .int 0, .int 0]))]) hD hS hA [4] rfl
  refine va_calli (va_runV (As := []) (rest := []) ⟨hx, hb, hml, hown, hts⟩ (c_X10_thrown l htr dC dI e0 H.size g0 0 (bb 0) (bb 1) (bb 2) (bb 3) 0 (((xs (1 : Int32).toNatClampNeg)).toInt64) 0 0 0 0) (cwV 0 hts gL_law_X10_thrown rfl rfl rfl (by decide +kernel) ⟨Nat.le_of_ble_eq_true rfl, Nat.le_of_ble_eq_true rfl⟩) ⟨fun a U g mk q => by obtain ⟨q0, q1, qP, qK, qD⟩ := q; exact ⟨q0, q1, qP, va_K.moved (u := U) (U := U.calling g mk a) (Vm.Alike.refl U.vm) qK, qD⟩, va_recv hKc hPc (ci := 15) (q0 := 0) rfl rfl, fun U hU hW => ⟨rfl, by rw [hU], by rw [hU]; exact hPc, va_K.moved hW.alike hKc, hDc.weaken (fun _ _ _ _ => trivial)⟩⟩ rfl rfl hl.1 rfl (lv_room (Nat.le_of_ble_eq_true rfl)) dL_law_2831 ⟨Nat.le_of_ble_eq_true rfl, Nat.le_of_ble_eq_true rfl⟩) hS (fun q _ h => hFc q h) hFc (fun r7 u t H1 locs ht hvm hw hB hz1 hk1 hS => ?_)
  obtain ⟨hP1, hK1, hD1⟩ := hB
  rw [ht] at hP1
  obtain ⟨hP, hD⟩ := va_join (wr := [((a 0), .inl (cL, 10, .inr (.inr (.inr (.inr (fun _ => none)))))), ((a 3), .inl (cT, 6, .inr (.inr (.inr (.inr (fun _ => none)))))), (od, .inl (cD, 1, .inr (.inr (.inr (.inl (fun _ => 0)))))), (o, .inl (cO, 1, .inr (.inl (vp_updL (fun _ => 0) (0 : Int32).toNatClampNeg ((xs (1 : Int32).toNatClampNeg)).toInt64))))]) (w1 := [(g0, .inr (15, [.int 0, .ref (bb 0), .ref (bb 1), .ref (bb 2), .ref (bb 3), .int 0, .long (((xs (1 : Int32).toNatClampNeg)).toInt64), .int 0, .int 0, .int 0, .int 0]))]) hP hD [4] [0, 1, 2, 3] rfl rfl (by decide) (by decide) hk1 hFc hP1 hD1
  generalize H1 = H at hP hS ⊢
  have hP : va_P (dC, dI) vwCl [((a 0), .inl (cL, 10, .inr (.inr (.inr (.inr (fun _ => none)))))), ((a 3), .inl (cT, 6, .inr (.inr (.inr (.inr (fun _ => none)))))), (od, .inl (cD, 1, .inr (.inr (.inr (.inl (fun _ => 0)))))), (o, .inl (cO, 1, .inr (.inl (vp_updL (fun _ => 0) (0 : Int32).toNatClampNeg ((xs (1 : Int32).toNatClampNeg)).toInt64)))), (g0, .inr (15, [.int 0, .ref (bb 0), .ref (bb 1), .ref (bb 2), .ref (bb 3), .int 0, .long (((xs (1 : Int32).toNatClampNeg)).toInt64), .int 0, .int 0, .int 0, .int 0]))] H := hP
  have hD : va_D A [((a 0), .inl (cL, 10, .inr (.inr (.inr (.inr (fun _ => none)))))), ((a 3), .inl (cT, 6, .inr (.inr (.inr (.inr (fun _ => none)))))), (od, .inl (cD, 1, .inr (.inr (.inr (.inl (fun _ => 0)))))), (o, .inl (cO, 1, .inr (.inl (vp_updL (fun _ => 0) (0 : Int32).toNatClampNeg ((xs (1 : Int32).toNatClampNeg)).toInt64)))), (g0, .inr (15, [.int 0, .ref (bb 0), .ref (bb 1), .ref (bb 2), .ref (bb 3), .int 0, .long (((xs (1 : Int32).toNatClampNeg)).toInt64), .int 0, .int 0, .int 0, .int 0]))] := hD
  obtain rfl : r7 = 0 := hw
  refine lv_iload hx hb dL_law_2834 (lv_at hl 1 rfl) ?_
  refine lv_icmp_eq (tgt := 2841) hx hb dL_law_2836 (by decide) (fun _ => ?_) (fun c8 => absurd (by decide) c8)
  refine lv_iload hx hb dL_law_2841 (lv_at hl 1 rfl) ?_
  refine lv_if_ne (tgt := 2857) hx hb dL_law_2843 (by decide) (fun c9 => absurd (by decide) c9) (fun _ => ?_)
  refine lv_aload_n hx hb dL_law_2846 rfl (lv_at hl 5 rfl) ?_
  refine lv_iconst (v := 0) hx hb dL_law_2847 (by decide) ?_
  refine va_lald hx hb hK hP 3 2 rfl rfl (by unfold vp_in; decide) dL_law_2848 ?_
  rw [show (vp_updL (fun _ => 0) (0 : Int32).toNatClampNeg ((xs (1 : Int32).toNatClampNeg)).toInt64) (0 : Int32).toNatClampNeg = ((xs (1 : Int32).toNatClampNeg)).toInt64 from by simp [vp_updL]]
  refine lv_lload hx hb dL_law_2849 (lv_at hl 0 rfl) ?_
  refine W.lcmp hx hb dL_law_2851 ?_
  rw [zl_cmp (((xs (1 : Int32).toNatClampNeg)).toInt64)]
  refine lv_if_eq (tgt := 2857) hx hb dL_law_2852 (by decide) (fun _ => ?_) (fun c10 => absurd (by decide) c10)
  refine lv_goto (tgt := 3259) hx hb dL_law_2857 (by decide) ?_
  exact zl_end C0 hA2 (Nat.le_of_ble_eq_true rfl) (Nat.le_of_ble_eq_true rfl) hS (lv_sub hl [7, 2] rfl)
set_option maxHeartbeats 4000000 in
set_option maxRecDepth 100000 in
/-- purse, called on the two fresh objects -/
theorem zl_39_no {p : Program} {l : Launch} {e : Env} {s : State} {m : MethodId} {below : List Frame} {meth : Method} {c : Code} {b : Nat} {xs : Nat → Int32} {A : Nat → Prop} (C0 : lw_At p s m meth c b 5 xs) (hA : ∀ q : Nat, s.heap.size ≤ q → A q) (hA2 : ∀ q : Nat, A q → s.heap.size ≤ q) (htr : l.stackTraces = false) (dC : Nat → ClassId) (dI : Nat → Nat → Nat) (e0 h0 g0 o od : Nat) (a bb : Nat → Nat) (cL cT cO cD : ClassId) (hE : zE e0 A s s.heap) (H : Heap) (locs : List Loc) (ls : Array Slot) (hK : va_K (dC, dI) vwCl [(cL, (.object RX1)), (cT, (.object RX5)), (cO, .long), (cD, .double)] s) (hP : va_P (dC, dI) vwCl [(h0, .inr (11, zC a)), ((a 0), .inl (cL, 10, .inr (.inr (.inr (.inr (fun _ => none)))))), ((a 3), .inl (cT, 6, .inr (.inr (.inr (.inr (fun _ => none)))))), (g0, .inr (15, zM 0 bb)), ((bb 0), .inr (4, [.int 0, .ref e0, .int 0])), ((bb 1), .inr (4, [.int 0, .ref e0, .int 0])), ((bb 2), .inr (4, [.int 0, .ref e0, .int 0])), ((bb 3), .inr (4, [.int 0, .ref e0, .int 0])), (o, .inl (cO, 1, .inr (.inl (fun _ => 0)))), (od, .inl (cD, 1, .inr (.inr (.inr (.inl (fun _ => 0))))))] H) (hD : va_D A [(h0, .inr (11, zC a)), ((a 0), .inl (cL, 10, .inr (.inr (.inr (.inr (fun _ => none)))))), ((a 3), .inl (cT, 6, .inr (.inr (.inr (.inr (fun _ => none)))))), (g0, .inr (15, zM 0 bb)), ((bb 0), .inr (4, [.int 0, .ref e0, .int 0])), ((bb 1), .inr (4, [.int 0, .ref e0, .int 0])), ((bb 2), .inr (4, [.int 0, .ref e0, .int 0])), ((bb 3), .inr (4, [.int 0, .ref e0, .int 0])), (o, .inl (cO, 1, .inr (.inl (fun _ => 0)))), (od, .inl (cD, 1, .inr (.inr (.inr (.inl (fun _ => 0))))))]) (hS : va_S A s.heap H locs) (hl : lv_has ls 9 [(0, .ref b), (1, .ref h0), (2, .ref g0), (3, .ref o), (4, .ref od), (5, .int 0)]) (hnot : ¬ (0 ≤ (xs (1 : Int32).toNatClampNeg) ∧ (xs (1 : Int32).toNatClampNeg) ≤ 99999)) : W p l e room_1 s m #[Value.ref b] below meth c H locs (86) (1094) (lw_Z below #[Value.ref b] s) (F0 m 2805 ls []) := by
  obtain ⟨hx, hb, hr, hml, hown, ht0, hX, hbl, hlocks, hgv⟩ := id C0
  have hts := ht0
  have hbA : ¬ A b := fun h => absurd hbl (Nat.not_lt.mpr (hA2 b h))
  have h64 : ¬ (0 ≤ ((xs (1 : Int32).toNatClampNeg)).toInt64 ∧ ((xs (1 : Int32).toNatClampNeg)).toInt64 ≤ 99999) := fun h => hnot (zb_purse.mp h)
  refine lv_aload_n hx hb dL_law_2805 rfl (lv_at hl 1 rfl) ?_
  refine lv_aload_n hx hb dL_law_2806 rfl (lv_at hl 0 rfl) ?_
  refine lv_iload hx hb dL_law_2807 (lv_at hl 5 rfl) ?_
  refine lv_iconst (v := 1) hx hb dL_law_2809 (by decide) ?_
  refine lv_iadd hx hb dL_law_2810 ?_
  refine lv_topi (fun y1 e2 => ?_)
  obtain rfl : y1 = 1 := e2.trans (by decide)
  refine va_sld hx hb hX hbl hbA hS (by unfold vp_in; decide) dL_law_2811 ?_
  refine lv_aload_n hx hb dL_law_2812 rfl (lv_at hl 3 rfl) ?_
  have hPc := hP.sub (ws' := [(h0, .inr (11, zC a))]) [0] rfl
  have hDc := hD.sub (ws' := [(h0, .inr (11, zC a))]) [0] (by decide) rfl
  have hKc := hK.sub (tys' := []) [] rfl
  have hFc := va_free (wc := [(h0, .inr (11, zC a))]) hD hS hA [0] rfl
  have hEc := (hE.kept hS.2.1).narrow hFc
  refine vx_calli (vx_runSX (As := [.ref h0, .int (xs (1 : Int32).toNatClampNeg), .ref o]) (rest := []) ⟨hx, hb, hml, hown, hts⟩ (c_L_purse_no l htr dC dI e0 H.size h0 a (xs (1 : Int32).toNatClampNeg) o hnot) (vx_cwSW 3 hts gL_law_L_purse rfl rfl rfl (by decide +kernel) ⟨Nat.le_of_ble_eq_true rfl, Nat.le_of_ble_eq_true rfl⟩) ⟨fun a U g mk q => by obtain ⟨q0, q1, qP, qK, qD, qE⟩ := q; exact ⟨q0, q1, qP, va_K.moved (u := U) (U := U.calling g mk a) (Vm.Alike.refl U.vm) qK, qD, zE.same rfl qE⟩, fun U hU hW => ⟨rfl, by rw [hU], by rw [hU]; exact hPc, va_K.moved hW.alike hKc, hDc.weaken (fun _ _ _ _ => trivial), by rw [hU]; exact zE.warm hW hEc⟩⟩ rfl rfl hl.1 rfl (lv_room (Nat.le_of_ble_eq_true rfl)) dL_law_2813 ⟨Nat.le_of_ble_eq_true rfl, Nat.le_of_ble_eq_true rfl⟩) hS (fun q _ h => hFc q h) hFc (fun q _ h => hFc q h) (fun E ce q9 u t H1 locs1 ht hvm hpx hBX hz1 hk1 hS hce hcv hcl => absurd hpx id) (fun r3 u t H1 locs ht hvm hw hB hz1 hk1 hS => ?_)
  have hP1 : va_P (dC, dI) vwCl [] H1 := fun k q h => by simp at h
  have hD1 : va_D (va_A [(h0, .inr (11, zC a))] H.size) [] := ⟨fun i j p q h => by simp at h, fun k q h => by simp at h⟩
  obtain ⟨hP, hD⟩ := va_join (wr := [((a 0), .inl (cL, 10, .inr (.inr (.inr (.inr (fun _ => none)))))), ((a 3), .inl (cT, 6, .inr (.inr (.inr (.inr (fun _ => none)))))), (g0, .inr (15, zM 0 bb)), ((bb 0), .inr (4, [.int 0, .ref e0, .int 0])), ((bb 1), .inr (4, [.int 0, .ref e0, .int 0])), ((bb 2), .inr (4, [.int 0, .ref e0, .int 0])), ((bb 3), .inr (4, [.int 0, .ref e0, .int 0])), (o, .inl (cO, 1, .inr (.inl (fun _ => 0)))), (od, .inl (cD, 1, .inr (.inr (.inr (.inl (fun _ => 0))))))]) (w1 := []) hP hD [0] [1, 2, 3, 4, 5, 6, 7, 8, 9] rfl rfl (by decide) (by decide) hk1 hFc hP1 hD1
  generalize H1 = H at hP hS ⊢
  have hP : va_P (dC, dI) vwCl [((a 0), .inl (cL, 10, .inr (.inr (.inr (.inr (fun _ => none)))))), ((a 3), .inl (cT, 6, .inr (.inr (.inr (.inr (fun _ => none)))))), (g0, .inr (15, zM 0 bb)), ((bb 0), .inr (4, [.int 0, .ref e0, .int 0])), ((bb 1), .inr (4, [.int 0, .ref e0, .int 0])), ((bb 2), .inr (4, [.int 0, .ref e0, .int 0])), ((bb 3), .inr (4, [.int 0, .ref e0, .int 0])), (o, .inl (cO, 1, .inr (.inl (fun _ => 0)))), (od, .inl (cD, 1, .inr (.inr (.inr (.inl (fun _ => 0))))))] H := hP
  have hD : va_D A [((a 0), .inl (cL, 10, .inr (.inr (.inr (.inr (fun _ => none)))))), ((a 3), .inl (cT, 6, .inr (.inr (.inr (.inr (fun _ => none)))))), (g0, .inr (15, zM 0 bb)), ((bb 0), .inr (4, [.int 0, .ref e0, .int 0])), ((bb 1), .inr (4, [.int 0, .ref e0, .int 0])), ((bb 2), .inr (4, [.int 0, .ref e0, .int 0])), ((bb 3), .inr (4, [.int 0, .ref e0, .int 0])), (o, .inl (cO, 1, .inr (.inl (fun _ => 0)))), (od, .inl (cD, 1, .inr (.inr (.inr (.inl (fun _ => 0))))))] := hD
  obtain rfl : r3 = 1 := hw
  refine lv_istore (lv' := [(6, .int 1), (0, .ref b), (1, .ref h0), (2, .ref g0), (3, .ref o), (4, .ref od), (5, .int 0)]) hx hb dL_law_2816 hl (by decide) rfl (fun ls hl => ?_)
  refine lv_aload_n hx hb dL_law_2818 rfl (lv_at hl 3 rfl) ?_
  refine lv_aload_n hx hb dL_law_2819 rfl (lv_at hl 1 rfl) ?_
  refine lv_iload hx hb dL_law_2820 (lv_at hl 6 rfl) ?_
  refine lv_iconst (v := 1) hx hb dL_law_2822 (by decide) ?_
  refine lv_iadd hx hb dL_law_2823 ?_
  refine lv_topi (fun y4 e5 => ?_)
  obtain rfl : y4 = 1 := e5.trans (by decide)
  refine va_sld hx hb hX hbl hbA hS (by unfold vp_in; decide) dL_law_2824 ?_
  have hPc := hP.sub (ws' := [(g0, .inr (15, zM 0 bb)), ((bb 0), .inr (4, [.int 0, .ref e0, .int 0])), ((bb 1), .inr (4, [.int 0, .ref e0, .int 0])), ((bb 2), .inr (4, [.int 0, .ref e0, .int 0])), ((bb 3), .inr (4, [.int 0, .ref e0, .int 0]))]) [2, 3, 4, 5, 6] rfl
  have hDc := hD.sub (ws' := [(g0, .inr (15, zM 0 bb)), ((bb 0), .inr (4, [.int 0, .ref e0, .int 0])), ((bb 1), .inr (4, [.int 0, .ref e0, .int 0])), ((bb 2), .inr (4, [.int 0, .ref e0, .int 0])), ((bb 3), .inr (4, [.int 0, .ref e0, .int 0]))]) [2, 3, 4, 5, 6] (by decide) rfl
  have hKc := hK.sub (tys' := []) [] rfl
  have hFc := va_free (wc := [(g0, .inr (15, zM 0 bb)), ((bb 0), .inr (4, [.int 0, .ref e0, .int 0])), ((bb 1), .inr (4, [.int 0, .ref e0, .int 0])), ((bb 2), .inr (4, [.int 0, .ref e0, .int 0])), ((bb 3), .inr (4, [.int 0, .ref e0, .int 0]))]) hD hS hA [2, 3, 4, 5, 6] rfl
  have hEc := (hE.kept hS.2.1).narrow hFc
  refine va_calll (va_runV (As := [.int (xs (1 : Int32).toNatClampNeg)]) (rest := []) ⟨hx, hb, hml, hown, hts⟩ (c_X10_purse_no l htr dC dI e0 H.size g0 0 bb (xs (1 : Int32).toNatClampNeg) h64) (cwV 1 hts gL_law_X10_purse rfl rfl rfl (by decide +kernel) ⟨Nat.le_of_ble_eq_true rfl, Nat.le_of_ble_eq_true rfl⟩) ⟨fun a U g mk q => by obtain ⟨q0, q1, qP, qK, qD, qE⟩ := q; exact ⟨q0, q1, qP, va_K.moved (u := U) (U := U.calling g mk a) (Vm.Alike.refl U.vm) qK, qD, zE.same rfl qE⟩, va_recv hKc hPc (ci := 15) (q0 := 0) rfl rfl, fun U hU hW => ⟨rfl, by rw [hU], by rw [hU]; exact hPc, va_K.moved hW.alike hKc, hDc.weaken (fun _ _ _ _ => trivial), by rw [hU]; exact zE.warm hW hEc⟩⟩ rfl rfl hl.1 rfl (lv_room (Nat.le_of_ble_eq_true rfl)) dL_law_2825 ⟨Nat.le_of_ble_eq_true rfl, Nat.le_of_ble_eq_true rfl⟩) hS (fun q _ h => hFc q h) hFc (fun r6 u t H1 locs ht hvm hw hB hz1 hk1 hS => ?_)
  obtain ⟨hP1, hK1, hD1⟩ := hB
  rw [ht] at hP1
  obtain ⟨hP, hD⟩ := va_join (wr := [((a 0), .inl (cL, 10, .inr (.inr (.inr (.inr (fun _ => none)))))), ((a 3), .inl (cT, 6, .inr (.inr (.inr (.inr (fun _ => none)))))), (o, .inl (cO, 1, .inr (.inl (fun _ => 0)))), (od, .inl (cD, 1, .inr (.inr (.inr (.inl (fun _ => 0))))))]) (w1 := [(g0, .inr (15, zM 1 bb))]) hP hD [2, 3, 4, 5, 6] [0, 1, 7, 8] rfl rfl (by decide) (by decide) hk1 hFc hP1 hD1
  generalize H1 = H at hP hS ⊢
  have hP : va_P (dC, dI) vwCl [((a 0), .inl (cL, 10, .inr (.inr (.inr (.inr (fun _ => none)))))), ((a 3), .inl (cT, 6, .inr (.inr (.inr (.inr (fun _ => none)))))), (o, .inl (cO, 1, .inr (.inl (fun _ => 0)))), (od, .inl (cD, 1, .inr (.inr (.inr (.inl (fun _ => 0)))))), (g0, .inr (15, zM 1 bb))] H := hP
  have hD : va_D A [((a 0), .inl (cL, 10, .inr (.inr (.inr (.inr (fun _ => none)))))), ((a 3), .inl (cT, 6, .inr (.inr (.inr (.inr (fun _ => none)))))), (o, .inl (cO, 1, .inr (.inl (fun _ => 0)))), (od, .inl (cD, 1, .inr (.inr (.inr (.inl (fun _ => 0)))))), (g0, .inr (15, zM 1 bb))] := hD
  obtain rfl : r6 = 0 := hw
  refine lv_lstore (lv' := [(7, .long 0), (6, .int 1), (0, .ref b), (1, .ref h0), (2, .ref g0), (3, .ref o), (4, .ref od), (5, .int 0)]) hx hb dL_law_2828 hl (by decide) rfl (fun ls hl => ?_)
  refine lv_aload_n hx hb dL_law_2830 rfl (lv_at hl 4 rfl) ?_
  have hPc := hP.sub (ws' := [(g0, .inr (15, [.int 1, .ref (bb 0), .ref (bb 1), .ref (bb 2), .ref (bb 3), .int 0, .long 0, .int 0, .int 0, .int 0, .int 0]))]) [4] rfl
  have hDc := hD.sub (ws' := [(g0, .inr (15, [.int 1, .ref (bb 0), .ref (bb 1), .ref (bb 2), .ref (bb 3), .int 0, .long 0, .int 0, .int 0, .int 0, .int 0]))]) [4] (by decide) rfl
  have hKc := hK.sub (tys' := []) [] rfl
  have hFc := va_free (wc := [(g0, .inr (15, [.int 1, .ref (bb 0), .ref (bb 1), .ref (bb 2), .ref (bb 3), .int 0, .long 0, .int 0, .int 0, .int 0, .int 0]))]) hD hS hA [4] rfl
  refine va_calli (va_runV (As := []) (rest := []) ⟨hx, hb, hml, hown, hts⟩ (c_X10_thrown l htr dC dI e0 H.size g0 1 (bb 0) (bb 1) (bb 2) (bb 3) 0 0 0 0 0 0) (cwV 0 hts gL_law_X10_thrown rfl rfl rfl (by decide +kernel) ⟨Nat.le_of_ble_eq_true rfl, Nat.le_of_ble_eq_true rfl⟩) ⟨fun a U g mk q => by obtain ⟨q0, q1, qP, qK, qD⟩ := q; exact ⟨q0, q1, qP, va_K.moved (u := U) (U := U.calling g mk a) (Vm.Alike.refl U.vm) qK, qD⟩, va_recv hKc hPc (ci := 15) (q0 := 0) rfl rfl, fun U hU hW => ⟨rfl, by rw [hU], by rw [hU]; exact hPc, va_K.moved hW.alike hKc, hDc.weaken (fun _ _ _ _ => trivial)⟩⟩ rfl rfl hl.1 rfl (lv_room (Nat.le_of_ble_eq_true rfl)) dL_law_2831 ⟨Nat.le_of_ble_eq_true rfl, Nat.le_of_ble_eq_true rfl⟩) hS (fun q _ h => hFc q h) hFc (fun r7 u t H1 locs ht hvm hw hB hz1 hk1 hS => ?_)
  obtain ⟨hP1, hK1, hD1⟩ := hB
  rw [ht] at hP1
  obtain ⟨hP, hD⟩ := va_join (wr := [((a 0), .inl (cL, 10, .inr (.inr (.inr (.inr (fun _ => none)))))), ((a 3), .inl (cT, 6, .inr (.inr (.inr (.inr (fun _ => none)))))), (o, .inl (cO, 1, .inr (.inl (fun _ => 0)))), (od, .inl (cD, 1, .inr (.inr (.inr (.inl (fun _ => 0))))))]) (w1 := [(g0, .inr (15, [.int 1, .ref (bb 0), .ref (bb 1), .ref (bb 2), .ref (bb 3), .int 0, .long 0, .int 0, .int 0, .int 0, .int 0]))]) hP hD [4] [0, 1, 2, 3] rfl rfl (by decide) (by decide) hk1 hFc hP1 hD1
  generalize H1 = H at hP hS ⊢
  have hP : va_P (dC, dI) vwCl [((a 0), .inl (cL, 10, .inr (.inr (.inr (.inr (fun _ => none)))))), ((a 3), .inl (cT, 6, .inr (.inr (.inr (.inr (fun _ => none)))))), (o, .inl (cO, 1, .inr (.inl (fun _ => 0)))), (od, .inl (cD, 1, .inr (.inr (.inr (.inl (fun _ => 0)))))), (g0, .inr (15, [.int 1, .ref (bb 0), .ref (bb 1), .ref (bb 2), .ref (bb 3), .int 0, .long 0, .int 0, .int 0, .int 0, .int 0]))] H := hP
  have hD : va_D A [((a 0), .inl (cL, 10, .inr (.inr (.inr (.inr (fun _ => none)))))), ((a 3), .inl (cT, 6, .inr (.inr (.inr (.inr (fun _ => none)))))), (o, .inl (cO, 1, .inr (.inl (fun _ => 0)))), (od, .inl (cD, 1, .inr (.inr (.inr (.inl (fun _ => 0)))))), (g0, .inr (15, [.int 1, .ref (bb 0), .ref (bb 1), .ref (bb 2), .ref (bb 3), .int 0, .long 0, .int 0, .int 0, .int 0, .int 0]))] := hD
  obtain rfl : r7 = 1 := hw
  refine lv_iload hx hb dL_law_2834 (lv_at hl 1 rfl) ?_
  refine lv_icmp_eq (tgt := 2841) hx hb dL_law_2836 (by decide) (fun _ => ?_) (fun c8 => absurd (by decide) c8)
  refine lv_iload hx hb dL_law_2841 (lv_at hl 1 rfl) ?_
  refine lv_if_ne (tgt := 2857) hx hb dL_law_2843 (by decide) (fun _ => ?_) (fun c9 => absurd c9 (by decide))
  refine lv_goto (tgt := 3259) hx hb dL_law_2857 (by decide) ?_
  exact zl_end C0 hA2 (Nat.le_of_ble_eq_true rfl) (Nat.le_of_ble_eq_true rfl) hS (lv_sub hl [7, 2] rfl)
theorem zl_39 {p : Program} {l : Launch} {e : Env} {s : State} {m : MethodId} {below : List Frame} {meth : Method} {c : Code} {b : Nat} {xs : Nat → Int32} {A : Nat → Prop} (C0 : lw_At p s m meth c b 5 xs) (hA : ∀ q : Nat, s.heap.size ≤ q → A q) (hA2 : ∀ q : Nat, A q → s.heap.size ≤ q) (htr : l.stackTraces = false) (dC : Nat → ClassId) (dI : Nat → Nat → Nat) (e0 h0 g0 o od : Nat) (a bb : Nat → Nat) (cL cT cO cD : ClassId) (hE : zE e0 A s s.heap) (H : Heap) (locs : List Loc) (ls : Array Slot) (hK : va_K (dC, dI) vwCl [(cL, (.object RX1)), (cT, (.object RX5)), (cO, .long), (cD, .double)] s) (hP : va_P (dC, dI) vwCl [(h0, .inr (11, zC a)), ((a 0), .inl (cL, 10, .inr (.inr (.inr (.inr (fun _ => none)))))), ((a 3), .inl (cT, 6, .inr (.inr (.inr (.inr (fun _ => none)))))), (g0, .inr (15, zM 0 bb)), ((bb 0), .inr (4, [.int 0, .ref e0, .int 0])), ((bb 1), .inr (4, [.int 0, .ref e0, .int 0])), ((bb 2), .inr (4, [.int 0, .ref e0, .int 0])), ((bb 3), .inr (4, [.int 0, .ref e0, .int 0])), (o, .inl (cO, 1, .inr (.inl (fun _ => 0)))), (od, .inl (cD, 1, .inr (.inr (.inr (.inl (fun _ => 0))))))] H) (hD : va_D A [(h0, .inr (11, zC a)), ((a 0), .inl (cL, 10, .inr (.inr (.inr (.inr (fun _ => none)))))), ((a 3), .inl (cT, 6, .inr (.inr (.inr (.inr (fun _ => none)))))), (g0, .inr (15, zM 0 bb)), ((bb 0), .inr (4, [.int 0, .ref e0, .int 0])), ((bb 1), .inr (4, [.int 0, .ref e0, .int 0])), ((bb 2), .inr (4, [.int 0, .ref e0, .int 0])), ((bb 3), .inr (4, [.int 0, .ref e0, .int 0])), (o, .inl (cO, 1, .inr (.inl (fun _ => 0)))), (od, .inl (cD, 1, .inr (.inr (.inr (.inl (fun _ => 0))))))]) (hS : va_S A s.heap H locs) (hl : lv_has ls 9 [(0, .ref b), (1, .ref h0), (2, .ref g0), (3, .ref o), (4, .ref od), (5, .int 0)]) : W p l e room_1 s m #[Value.ref b] below meth c H locs (86) (1094) (lw_Z below #[Value.ref b] s) (F0 m 2805 ls []) :=
  (Classical.em (0 ≤ (xs (1 : Int32).toNatClampNeg) ∧ (xs (1 : Int32).toNatClampNeg) ≤ 99999)).elim (fun h => zl_39_in C0 hA hA2 htr dC dI e0 h0 g0 o od a bb cL cT cO cD hE H locs ls hK hP hD hS hl h) (fun h => zl_39_no C0 hA hA2 htr dC dI e0 h0 g0 o od a bb cL cT cO cD hE H locs ls hK hP hD hS hl h)
theorem dL_law_2860 : decode cL_law 2860 = .ok (.aload_n 1, 1) := by decide +kernel
theorem dL_law_2861 : decode cL_law 2861 = .ok (.aload_n 3, 1) := by decide +kernel
theorem dL_law_2862 : decode cL_law 2862 = .ok (.invokestatic 310, 3) := by decide +kernel
theorem dL_law_2865 : decode cL_law 2865 = .ok (.istore 6, 2) := by decide +kernel
theorem dL_law_2867 : decode cL_law 2867 = .ok (.aload_n 2, 1) := by decide +kernel
theorem dL_law_2868 : decode cL_law 2868 = .ok (.invokevirtual 312, 3) := by decide +kernel
theorem dL_law_2871 : decode cL_law 2871 = .ok (.istore 7, 2) := by decide +kernel
theorem dL_law_2873 : decode cL_law 2873 = .ok (.aload_n 2, 1) := by decide +kernel
theorem dL_law_2874 : decode cL_law 2874 = .ok (.invokevirtual 183, 3) := by decide +kernel
theorem dL_law_2877 : decode cL_law 2877 = .ok (.iload 6, 2) := by decide +kernel
theorem dL_law_2879 : decode cL_law 2879 = .ok (.if_icmp .eq 5, 3) := by decide +kernel
theorem dL_law_2884 : decode cL_law 2884 = .ok (.iload 6, 2) := by decide +kernel
theorem dL_law_2886 : decode cL_law 2886 = .ok (.ifCond .ne 15, 3) := by decide +kernel
theorem dL_law_2889 : decode cL_law 2889 = .ok (.aload_n 3, 1) := by decide +kernel
theorem dL_law_2890 : decode cL_law 2890 = .ok (.iconst 0, 1) := by decide +kernel
theorem dL_law_2891 : decode cL_law 2891 = .ok (.laload, 1) := by decide +kernel
theorem dL_law_2892 : decode cL_law 2892 = .ok (.iload 7, 2) := by decide +kernel
theorem dL_law_2894 : decode cL_law 2894 = .ok (.i2l, 1) := by decide +kernel
theorem dL_law_2895 : decode cL_law 2895 = .ok (.lcmp, 1) := by decide +kernel
theorem dL_law_2896 : decode cL_law 2896 = .ok (.ifCond .eq 5, 3) := by decide +kernel
theorem dL_law_2901 : decode cL_law 2901 = .ok (.goto 358, 3) := by decide +kernel
set_option maxHeartbeats 4000000 in
set_option maxRecDepth 100000 in
/-- endYear, called on the two fresh objects -/
theorem zl_40 {p : Program} {l : Launch} {e : Env} {s : State} {m : MethodId} {below : List Frame} {meth : Method} {c : Code} {b : Nat} {xs : Nat → Int32} {A : Nat → Prop} (C0 : lw_At p s m meth c b 5 xs) (hA : ∀ q : Nat, s.heap.size ≤ q → A q) (hA2 : ∀ q : Nat, A q → s.heap.size ≤ q) (htr : l.stackTraces = false) (dC : Nat → ClassId) (dI : Nat → Nat → Nat) (e0 h0 g0 o od : Nat) (a bb : Nat → Nat) (cL cT cO cD : ClassId) (hE : zE e0 A s s.heap) (H : Heap) (locs : List Loc) (ls : Array Slot) (hK : va_K (dC, dI) vwCl [(cL, (.object RX1)), (cT, (.object RX5)), (cO, .long), (cD, .double)] s) (hP : va_P (dC, dI) vwCl [(h0, .inr (11, zC a)), ((a 0), .inl (cL, 10, .inr (.inr (.inr (.inr (fun _ => none)))))), ((a 3), .inl (cT, 6, .inr (.inr (.inr (.inr (fun _ => none)))))), (g0, .inr (15, zM 0 bb)), ((bb 0), .inr (4, [.int 0, .ref e0, .int 0])), ((bb 1), .inr (4, [.int 0, .ref e0, .int 0])), ((bb 2), .inr (4, [.int 0, .ref e0, .int 0])), ((bb 3), .inr (4, [.int 0, .ref e0, .int 0])), (o, .inl (cO, 1, .inr (.inl (fun _ => 0)))), (od, .inl (cD, 1, .inr (.inr (.inr (.inl (fun _ => 0))))))] H) (hD : va_D A [(h0, .inr (11, zC a)), ((a 0), .inl (cL, 10, .inr (.inr (.inr (.inr (fun _ => none)))))), ((a 3), .inl (cT, 6, .inr (.inr (.inr (.inr (fun _ => none)))))), (g0, .inr (15, zM 0 bb)), ((bb 0), .inr (4, [.int 0, .ref e0, .int 0])), ((bb 1), .inr (4, [.int 0, .ref e0, .int 0])), ((bb 2), .inr (4, [.int 0, .ref e0, .int 0])), ((bb 3), .inr (4, [.int 0, .ref e0, .int 0])), (o, .inl (cO, 1, .inr (.inl (fun _ => 0)))), (od, .inl (cD, 1, .inr (.inr (.inr (.inl (fun _ => 0))))))]) (hS : va_S A s.heap H locs) (hl : lv_has ls 9 [(0, .ref b), (1, .ref h0), (2, .ref g0), (3, .ref o), (4, .ref od), (5, .int 0)]) : W p l e room_1 s m #[Value.ref b] below meth c H locs (86) (1094) (lw_Z below #[Value.ref b] s) (F0 m 2860 ls []) := by
  obtain ⟨hx, hb, hr, hml, hown, ht0, hX, hbl, hlocks, hgv⟩ := id C0
  have hts := ht0
  have hbA : ¬ A b := fun h => absurd hbl (Nat.not_lt.mpr (hA2 b h))
  refine lv_aload_n hx hb dL_law_2860 rfl (lv_at hl 1 rfl) ?_
  refine lv_aload_n hx hb dL_law_2861 rfl (lv_at hl 3 rfl) ?_
  have hPc := hP.sub (ws' := [(h0, .inr (11, zC a)), (o, .inl (cO, 1, .inr (.inl (fun _ => 0))))]) [0, 8] rfl
  have hDc := hD.sub (ws' := [(h0, .inr (11, zC a)), (o, .inl (cO, 1, .inr (.inl (fun _ => 0))))]) [0, 8] (by decide) rfl
  have hKc := hK.sub (tys' := [(cO, .long)]) [2] rfl
  have hFc := va_free (wc := [(h0, .inr (11, zC a)), (o, .inl (cO, 1, .inr (.inl (fun _ => 0))))]) hD hS hA [0, 8] rfl
  have hEc := (hE.kept hS.2.1).narrow hFc
  refine vx_calli (vx_runSX (As := [.ref h0, .ref o]) (rest := []) ⟨hx, hb, hml, hown, hts⟩ (c_L_endYear_in l htr dC dI e0 H.size h0 a o cO (fun _ => 0)) (vx_cwSW 2 hts gL_law_L_endYear rfl rfl rfl (by decide +kernel) ⟨Nat.le_of_ble_eq_true rfl, Nat.le_of_ble_eq_true rfl⟩) ⟨fun a U g mk q => by obtain ⟨q0, q1, qP, qK, qD, qE⟩ := q; exact ⟨q0, q1, qP, va_K.moved (u := U) (U := U.calling g mk a) (Vm.Alike.refl U.vm) qK, qD, zE.same rfl qE⟩, fun U hU hW => ⟨rfl, by rw [hU], by rw [hU]; exact hPc, va_K.moved hW.alike hKc, hDc.weaken (fun _ _ _ _ => trivial), by rw [hU]; exact zE.warm hW hEc⟩⟩ rfl rfl hl.1 rfl (lv_room (Nat.le_of_ble_eq_true rfl)) dL_law_2862 ⟨Nat.le_of_ble_eq_true rfl, Nat.le_of_ble_eq_true rfl⟩) hS (fun q _ h => hFc q h) hFc (fun q _ h => hFc q h) (fun E ce q9 u t H1 locs1 ht hvm hpx hBX hz1 hk1 hS hce hcv hcl => absurd hpx id) (fun r1 u t H1 locs ht hvm hw hB hz1 hk1 hS => ?_)
  obtain ⟨hP1, hK1, hD1⟩ := hB
  rw [ht] at hP1
  obtain ⟨hP, hD⟩ := va_join (wr := [((a 0), .inl (cL, 10, .inr (.inr (.inr (.inr (fun _ => none)))))), ((a 3), .inl (cT, 6, .inr (.inr (.inr (.inr (fun _ => none)))))), (g0, .inr (15, zM 0 bb)), ((bb 0), .inr (4, [.int 0, .ref e0, .int 0])), ((bb 1), .inr (4, [.int 0, .ref e0, .int 0])), ((bb 2), .inr (4, [.int 0, .ref e0, .int 0])), ((bb 3), .inr (4, [.int 0, .ref e0, .int 0])), (od, .inl (cD, 1, .inr (.inr (.inr (.inl (fun _ => 0))))))]) (w1 := [(o, .inl (cO, 1, .inr (.inl (vp_updL (fun _ => 0) (0 : Int32).toNatClampNeg 1))))]) hP hD [0, 8] [1, 2, 3, 4, 5, 6, 7, 9] rfl rfl (by decide) (by decide) hk1 hFc hP1 hD1
  generalize H1 = H at hP hS ⊢
  have hP : va_P (dC, dI) vwCl [((a 0), .inl (cL, 10, .inr (.inr (.inr (.inr (fun _ => none)))))), ((a 3), .inl (cT, 6, .inr (.inr (.inr (.inr (fun _ => none)))))), (g0, .inr (15, zM 0 bb)), ((bb 0), .inr (4, [.int 0, .ref e0, .int 0])), ((bb 1), .inr (4, [.int 0, .ref e0, .int 0])), ((bb 2), .inr (4, [.int 0, .ref e0, .int 0])), ((bb 3), .inr (4, [.int 0, .ref e0, .int 0])), (od, .inl (cD, 1, .inr (.inr (.inr (.inl (fun _ => 0)))))), (o, .inl (cO, 1, .inr (.inl (vp_updL (fun _ => 0) (0 : Int32).toNatClampNeg 1))))] H := hP
  have hD : va_D A [((a 0), .inl (cL, 10, .inr (.inr (.inr (.inr (fun _ => none)))))), ((a 3), .inl (cT, 6, .inr (.inr (.inr (.inr (fun _ => none)))))), (g0, .inr (15, zM 0 bb)), ((bb 0), .inr (4, [.int 0, .ref e0, .int 0])), ((bb 1), .inr (4, [.int 0, .ref e0, .int 0])), ((bb 2), .inr (4, [.int 0, .ref e0, .int 0])), ((bb 3), .inr (4, [.int 0, .ref e0, .int 0])), (od, .inl (cD, 1, .inr (.inr (.inr (.inl (fun _ => 0)))))), (o, .inl (cO, 1, .inr (.inl (vp_updL (fun _ => 0) (0 : Int32).toNatClampNeg 1))))] := hD
  obtain rfl : r1 = 0 := hw
  refine lv_istore (lv' := [(6, .int 0), (0, .ref b), (1, .ref h0), (2, .ref g0), (3, .ref o), (4, .ref od), (5, .int 0)]) hx hb dL_law_2865 hl (by decide) rfl (fun ls hl => ?_)
  refine lv_aload_n hx hb dL_law_2867 rfl (lv_at hl 3 rfl) ?_
  have hPc := hP.sub (ws' := [(g0, .inr (15, zM 0 bb)), ((bb 0), .inr (4, [.int 0, .ref e0, .int 0])), ((bb 1), .inr (4, [.int 0, .ref e0, .int 0])), ((bb 2), .inr (4, [.int 0, .ref e0, .int 0])), ((bb 3), .inr (4, [.int 0, .ref e0, .int 0]))]) [2, 3, 4, 5, 6] rfl
  have hDc := hD.sub (ws' := [(g0, .inr (15, zM 0 bb)), ((bb 0), .inr (4, [.int 0, .ref e0, .int 0])), ((bb 1), .inr (4, [.int 0, .ref e0, .int 0])), ((bb 2), .inr (4, [.int 0, .ref e0, .int 0])), ((bb 3), .inr (4, [.int 0, .ref e0, .int 0]))]) [2, 3, 4, 5, 6] (by decide) rfl
  have hKc := hK.sub (tys' := []) [] rfl
  have hFc := va_free (wc := [(g0, .inr (15, zM 0 bb)), ((bb 0), .inr (4, [.int 0, .ref e0, .int 0])), ((bb 1), .inr (4, [.int 0, .ref e0, .int 0])), ((bb 2), .inr (4, [.int 0, .ref e0, .int 0])), ((bb 3), .inr (4, [.int 0, .ref e0, .int 0]))]) hD hS hA [2, 3, 4, 5, 6] rfl
  have hEc := (hE.kept hS.2.1).narrow hFc
  refine va_calli (va_runV (As := []) (rest := []) ⟨hx, hb, hml, hown, hts⟩ (c_X10_endYear l htr dC dI e0 H.size g0 0 bb) (cwV 0 hts gL_law_X10_endYear rfl rfl rfl (by decide +kernel) ⟨Nat.le_of_ble_eq_true rfl, Nat.le_of_ble_eq_true rfl⟩) ⟨fun a U g mk q => by obtain ⟨q0, q1, qP, qK, qD, qE⟩ := q; exact ⟨q0, q1, qP, va_K.moved (u := U) (U := U.calling g mk a) (Vm.Alike.refl U.vm) qK, qD, zE.same rfl qE⟩, va_recv hKc hPc (ci := 15) (q0 := 0) rfl rfl, fun U hU hW => ⟨rfl, by rw [hU], by rw [hU]; exact hPc, va_K.moved hW.alike hKc, hDc.weaken (fun _ _ _ _ => trivial), by rw [hU]; exact zE.warm hW hEc⟩⟩ rfl rfl hl.1 rfl (lv_room (Nat.le_of_ble_eq_true rfl)) dL_law_2868 ⟨Nat.le_of_ble_eq_true rfl, Nat.le_of_ble_eq_true rfl⟩) hS (fun q _ h => hFc q h) hFc (fun r2 u t H1 locs ht hvm hw hB hz1 hk1 hS => ?_)
  obtain ⟨hP1, hK1, hD1⟩ := hB
  rw [ht] at hP1
  obtain ⟨hP, hD⟩ := va_join (wr := [((a 0), .inl (cL, 10, .inr (.inr (.inr (.inr (fun _ => none)))))), ((a 3), .inl (cT, 6, .inr (.inr (.inr (.inr (fun _ => none)))))), (od, .inl (cD, 1, .inr (.inr (.inr (.inl (fun _ => 0)))))), (o, .inl (cO, 1, .inr (.inl (vp_updL (fun _ => 0) (0 : Int32).toNatClampNeg 1))))]) (w1 := [(g0, .inr (15, [.int 0, .ref (bb 0), .ref (bb 1), .ref (bb 2), .ref (bb 3), .int 1, .long 0, .int 0, .int 0, .int 0, .int 0]))]) hP hD [2, 3, 4, 5, 6] [0, 1, 7, 8] rfl rfl (by decide) (by decide) hk1 hFc hP1 hD1
  generalize H1 = H at hP hS ⊢
  have hP : va_P (dC, dI) vwCl [((a 0), .inl (cL, 10, .inr (.inr (.inr (.inr (fun _ => none)))))), ((a 3), .inl (cT, 6, .inr (.inr (.inr (.inr (fun _ => none)))))), (od, .inl (cD, 1, .inr (.inr (.inr (.inl (fun _ => 0)))))), (o, .inl (cO, 1, .inr (.inl (vp_updL (fun _ => 0) (0 : Int32).toNatClampNeg 1)))), (g0, .inr (15, [.int 0, .ref (bb 0), .ref (bb 1), .ref (bb 2), .ref (bb 3), .int 1, .long 0, .int 0, .int 0, .int 0, .int 0]))] H := hP
  have hD : va_D A [((a 0), .inl (cL, 10, .inr (.inr (.inr (.inr (fun _ => none)))))), ((a 3), .inl (cT, 6, .inr (.inr (.inr (.inr (fun _ => none)))))), (od, .inl (cD, 1, .inr (.inr (.inr (.inl (fun _ => 0)))))), (o, .inl (cO, 1, .inr (.inl (vp_updL (fun _ => 0) (0 : Int32).toNatClampNeg 1)))), (g0, .inr (15, [.int 0, .ref (bb 0), .ref (bb 1), .ref (bb 2), .ref (bb 3), .int 1, .long 0, .int 0, .int 0, .int 0, .int 0]))] := hD
  obtain rfl : r2 = 1 := hw
  refine lv_istore (lv' := [(7, .int 1), (6, .int 0), (0, .ref b), (1, .ref h0), (2, .ref g0), (3, .ref o), (4, .ref od), (5, .int 0)]) hx hb dL_law_2871 hl (by decide) rfl (fun ls hl => ?_)
  refine lv_aload_n hx hb dL_law_2873 rfl (lv_at hl 4 rfl) ?_
  have hPc := hP.sub (ws' := [(g0, .inr (15, [.int 0, .ref (bb 0), .ref (bb 1), .ref (bb 2), .ref (bb 3), .int 1, .long 0, .int 0, .int 0, .int 0, .int 0]))]) [4] rfl
  have hDc := hD.sub (ws' := [(g0, .inr (15, [.int 0, .ref (bb 0), .ref (bb 1), .ref (bb 2), .ref (bb 3), .int 1, .long 0, .int 0, .int 0, .int 0, .int 0]))]) [4] (by decide) rfl
  have hKc := hK.sub (tys' := []) [] rfl
  have hFc := va_free (wc := [(g0, .inr (15, [.int 0, .ref (bb 0), .ref (bb 1), .ref (bb 2), .ref (bb 3), .int 1, .long 0, .int 0, .int 0, .int 0, .int 0]))]) hD hS hA [4] rfl
  refine va_calli (va_runV (As := []) (rest := []) ⟨hx, hb, hml, hown, hts⟩ (c_X10_thrown l htr dC dI e0 H.size g0 0 (bb 0) (bb 1) (bb 2) (bb 3) 1 0 0 0 0 0) (cwV 0 hts gL_law_X10_thrown rfl rfl rfl (by decide +kernel) ⟨Nat.le_of_ble_eq_true rfl, Nat.le_of_ble_eq_true rfl⟩) ⟨fun a U g mk q => by obtain ⟨q0, q1, qP, qK, qD⟩ := q; exact ⟨q0, q1, qP, va_K.moved (u := U) (U := U.calling g mk a) (Vm.Alike.refl U.vm) qK, qD⟩, va_recv hKc hPc (ci := 15) (q0 := 0) rfl rfl, fun U hU hW => ⟨rfl, by rw [hU], by rw [hU]; exact hPc, va_K.moved hW.alike hKc, hDc.weaken (fun _ _ _ _ => trivial)⟩⟩ rfl rfl hl.1 rfl (lv_room (Nat.le_of_ble_eq_true rfl)) dL_law_2874 ⟨Nat.le_of_ble_eq_true rfl, Nat.le_of_ble_eq_true rfl⟩) hS (fun q _ h => hFc q h) hFc (fun r3 u t H1 locs ht hvm hw hB hz1 hk1 hS => ?_)
  obtain ⟨hP1, hK1, hD1⟩ := hB
  rw [ht] at hP1
  obtain ⟨hP, hD⟩ := va_join (wr := [((a 0), .inl (cL, 10, .inr (.inr (.inr (.inr (fun _ => none)))))), ((a 3), .inl (cT, 6, .inr (.inr (.inr (.inr (fun _ => none)))))), (od, .inl (cD, 1, .inr (.inr (.inr (.inl (fun _ => 0)))))), (o, .inl (cO, 1, .inr (.inl (vp_updL (fun _ => 0) (0 : Int32).toNatClampNeg 1))))]) (w1 := [(g0, .inr (15, [.int 0, .ref (bb 0), .ref (bb 1), .ref (bb 2), .ref (bb 3), .int 1, .long 0, .int 0, .int 0, .int 0, .int 0]))]) hP hD [4] [0, 1, 2, 3] rfl rfl (by decide) (by decide) hk1 hFc hP1 hD1
  generalize H1 = H at hP hS ⊢
  have hP : va_P (dC, dI) vwCl [((a 0), .inl (cL, 10, .inr (.inr (.inr (.inr (fun _ => none)))))), ((a 3), .inl (cT, 6, .inr (.inr (.inr (.inr (fun _ => none)))))), (od, .inl (cD, 1, .inr (.inr (.inr (.inl (fun _ => 0)))))), (o, .inl (cO, 1, .inr (.inl (vp_updL (fun _ => 0) (0 : Int32).toNatClampNeg 1)))), (g0, .inr (15, [.int 0, .ref (bb 0), .ref (bb 1), .ref (bb 2), .ref (bb 3), .int 1, .long 0, .int 0, .int 0, .int 0, .int 0]))] H := hP
  have hD : va_D A [((a 0), .inl (cL, 10, .inr (.inr (.inr (.inr (fun _ => none)))))), ((a 3), .inl (cT, 6, .inr (.inr (.inr (.inr (fun _ => none)))))), (od, .inl (cD, 1, .inr (.inr (.inr (.inl (fun _ => 0)))))), (o, .inl (cO, 1, .inr (.inl (vp_updL (fun _ => 0) (0 : Int32).toNatClampNeg 1)))), (g0, .inr (15, [.int 0, .ref (bb 0), .ref (bb 1), .ref (bb 2), .ref (bb 3), .int 1, .long 0, .int 0, .int 0, .int 0, .int 0]))] := hD
  obtain rfl : r3 = 0 := hw
  refine lv_iload hx hb dL_law_2877 (lv_at hl 1 rfl) ?_
  refine lv_icmp_eq (tgt := 2884) hx hb dL_law_2879 (by decide) (fun _ => ?_) (fun c4 => absurd (by decide) c4)
  refine lv_iload hx hb dL_law_2884 (lv_at hl 1 rfl) ?_
  refine lv_if_ne (tgt := 2901) hx hb dL_law_2886 (by decide) (fun c5 => absurd (by decide) c5) (fun _ => ?_)
  refine lv_aload_n hx hb dL_law_2889 rfl (lv_at hl 5 rfl) ?_
  refine lv_iconst (v := 0) hx hb dL_law_2890 (by decide) ?_
  refine va_lald hx hb hK hP 3 2 rfl rfl (by unfold vp_in; decide) dL_law_2891 ?_
  rw [show (vp_updL (fun _ => 0) (0 : Int32).toNatClampNeg 1) (0 : Int32).toNatClampNeg = 1 from by simp [vp_updL]]
  refine lv_iload hx hb dL_law_2892 (lv_at hl 0 rfl) ?_
  refine lv_i2l (v := 1) hx hb dL_law_2894 (by decide) ?_
  refine W.lcmp hx hb dL_law_2895 ?_
  rw [zl_cmp 1]
  refine lv_if_eq (tgt := 2901) hx hb dL_law_2896 (by decide) (fun _ => ?_) (fun c6 => absurd (by decide) c6)
  refine lv_goto (tgt := 3259) hx hb dL_law_2901 (by decide) ?_
  exact zl_end C0 hA2 (Nat.le_of_ble_eq_true rfl) (Nat.le_of_ble_eq_true rfl) hS (lv_sub hl [7, 2] rfl)
