theorem dL_law_771 : decode cL_law 771 = .ok (.aload_n 1, 1) := by decide +kernel
theorem dL_law_772 : decode cL_law 772 = .ok (.aload_n 0, 1) := by decide +kernel
theorem dL_law_773 : decode cL_law 773 = .ok (.iload 5, 2) := by decide +kernel
theorem dL_law_775 : decode cL_law 775 = .ok (.iconst 1, 1) := by decide +kernel
theorem dL_law_776 : decode cL_law 776 = .ok (.iadd, 1) := by decide +kernel
theorem dL_law_777 : decode cL_law 777 = .ok (.iaload, 1) := by decide +kernel
theorem dL_law_778 : decode cL_law 778 = .ok (.aload_n 0, 1) := by decide +kernel
theorem dL_law_779 : decode cL_law 779 = .ok (.iload 5, 2) := by decide +kernel
theorem dL_law_781 : decode cL_law 781 = .ok (.iconst 2, 1) := by decide +kernel
theorem dL_law_782 : decode cL_law 782 = .ok (.iadd, 1) := by decide +kernel
theorem dL_law_783 : decode cL_law 783 = .ok (.iaload, 1) := by decide +kernel
theorem dL_law_784 : decode cL_law 784 = .ok (.aload_n 3, 1) := by decide +kernel
theorem dL_law_785 : decode cL_law 785 = .ok (.invokestatic 208, 3) := by decide +kernel
theorem dL_law_788 : decode cL_law 788 = .ok (.istore 6, 2) := by decide +kernel
theorem dL_law_790 : decode cL_law 790 = .ok (.aload_n 2, 1) := by decide +kernel
theorem dL_law_791 : decode cL_law 791 = .ok (.aload_n 0, 1) := by decide +kernel
theorem dL_law_792 : decode cL_law 792 = .ok (.iload 5, 2) := by decide +kernel
theorem dL_law_794 : decode cL_law 794 = .ok (.iconst 1, 1) := by decide +kernel
theorem dL_law_795 : decode cL_law 795 = .ok (.iadd, 1) := by decide +kernel
theorem dL_law_796 : decode cL_law 796 = .ok (.iaload, 1) := by decide +kernel
theorem dL_law_797 : decode cL_law 797 = .ok (.aload_n 0, 1) := by decide +kernel
theorem dL_law_798 : decode cL_law 798 = .ok (.iload 5, 2) := by decide +kernel
theorem dL_law_800 : decode cL_law 800 = .ok (.iconst 2, 1) := by decide +kernel
theorem dL_law_801 : decode cL_law 801 = .ok (.iadd, 1) := by decide +kernel
theorem dL_law_802 : decode cL_law 802 = .ok (.iaload, 1) := by decide +kernel
theorem dL_law_803 : decode cL_law 803 = .ok (.invokevirtual 210, 3) := by decide +kernel
theorem dL_law_806 : decode cL_law 806 = .ok (.istore 7, 2) := by decide +kernel
theorem dL_law_808 : decode cL_law 808 = .ok (.aload_n 2, 1) := by decide +kernel
theorem dL_law_809 : decode cL_law 809 = .ok (.invokevirtual 183, 3) := by decide +kernel
theorem dL_law_812 : decode cL_law 812 = .ok (.iload 6, 2) := by decide +kernel
theorem dL_law_814 : decode cL_law 814 = .ok (.if_icmp .eq 5, 3) := by decide +kernel
theorem dL_law_819 : decode cL_law 819 = .ok (.iload 6, 2) := by decide +kernel
theorem dL_law_821 : decode cL_law 821 = .ok (.ifCond .ne 15, 3) := by decide +kernel
theorem dL_law_836 : decode cL_law 836 = .ok (.goto 2423, 3) := by decide +kernel
set_option maxHeartbeats 4000000 in
set_option maxRecDepth 100000 in
/-- hitch, called on the two fresh objects -/
theorem zl_7 {p : Program} {l : Launch} {e : Env} {s : State} {m : MethodId} {below : List Frame} {meth : Method} {c : Code} {b : Nat} {xs : Nat → Int32} {A : Nat → Prop} (C0 : lw_At p s m meth c b 5 xs) (hA : ∀ q : Nat, s.heap.size ≤ q → A q) (hA2 : ∀ q : Nat, A q → s.heap.size ≤ q) (htr : l.stackTraces = false) (dC : Nat → ClassId) (dI : Nat → Nat → Nat) (e0 h0 g0 o od : Nat) (a bb : Nat → Nat) (cL cT cO cD : ClassId) (hE : zE e0 A s s.heap) (H : Heap) (locs : List Loc) (ls : Array Slot) (hK : va_K (dC, dI) vwCl [(cL, (.object RX1)), (cT, (.object RX5)), (cO, .long), (cD, .double)] s) (hP : va_P (dC, dI) vwCl [(h0, .inr (11, zC a)), ((a 0), .inl (cL, 10, .inr (.inr (.inr (.inr (fun _ => none)))))), ((a 3), .inl (cT, 6, .inr (.inr (.inr (.inr (fun _ => none)))))), (g0, .inr (15, zM 0 bb)), ((bb 0), .inr (4, [.int 0, .ref e0, .int 0])), ((bb 1), .inr (4, [.int 0, .ref e0, .int 0])), ((bb 2), .inr (4, [.int 0, .ref e0, .int 0])), ((bb 3), .inr (4, [.int 0, .ref e0, .int 0])), (o, .inl (cO, 1, .inr (.inl (fun _ => 0)))), (od, .inl (cD, 1, .inr (.inr (.inr (.inl (fun _ => 0))))))] H) (hD : va_D A [(h0, .inr (11, zC a)), ((a 0), .inl (cL, 10, .inr (.inr (.inr (.inr (fun _ => none)))))), ((a 3), .inl (cT, 6, .inr (.inr (.inr (.inr (fun _ => none)))))), (g0, .inr (15, zM 0 bb)), ((bb 0), .inr (4, [.int 0, .ref e0, .int 0])), ((bb 1), .inr (4, [.int 0, .ref e0, .int 0])), ((bb 2), .inr (4, [.int 0, .ref e0, .int 0])), ((bb 3), .inr (4, [.int 0, .ref e0, .int 0])), (o, .inl (cO, 1, .inr (.inl (fun _ => 0)))), (od, .inl (cD, 1, .inr (.inr (.inr (.inl (fun _ => 0))))))]) (hS : va_S A s.heap H locs) (hl : lv_has ls 9 [(0, .ref b), (1, .ref h0), (2, .ref g0), (3, .ref o), (4, .ref od), (5, .int 0)]) : W p l e room_1 s m #[Value.ref b] below meth c H locs (86) (1094) (lw_Z below #[Value.ref b] s) (F0 m 771 ls []) := by
  obtain ⟨hx, hb, hr, hml, hown, ht0, hX, hbl, hlocks, hgv⟩ := id C0
  have hts := ht0
  have hbA : ¬ A b := fun h => absurd hbl (Nat.not_lt.mpr (hA2 b h))
  refine lv_aload_n hx hb dL_law_771 rfl (lv_at hl 1 rfl) ?_
  refine lv_aload_n hx hb dL_law_772 rfl (lv_at hl 0 rfl) ?_
  refine lv_iload hx hb dL_law_773 (lv_at hl 5 rfl) ?_
  refine lv_iconst (v := 1) hx hb dL_law_775 (by decide) ?_
  refine lv_iadd hx hb dL_law_776 ?_
  refine lv_topi (fun y1 e2 => ?_)
  obtain rfl : y1 = 1 := e2.trans (by decide)
  refine va_sld hx hb hX hbl hbA hS (by unfold vp_in; decide) dL_law_777 ?_
  refine lv_aload_n hx hb dL_law_778 rfl (lv_at hl 0 rfl) ?_
  refine lv_iload hx hb dL_law_779 (lv_at hl 5 rfl) ?_
  refine lv_iconst (v := 2) hx hb dL_law_781 (by decide) ?_
  refine lv_iadd hx hb dL_law_782 ?_
  refine lv_topi (fun y3 e4 => ?_)
  obtain rfl : y3 = 2 := e4.trans (by decide)
  refine va_sld hx hb hX hbl hbA hS (by unfold vp_in; decide) dL_law_783 ?_
  refine lv_aload_n hx hb dL_law_784 rfl (lv_at hl 3 rfl) ?_
  have hPc := hP.sub (ws' := [(h0, .inr (11, zC a))]) [0] rfl
  have hDc := hD.sub (ws' := [(h0, .inr (11, zC a))]) [0] (by decide) rfl
  have hKc := hK.sub (tys' := []) [] rfl
  have hFc := va_free (wc := [(h0, .inr (11, zC a))]) hD hS hA [0] rfl
  have hEc := (hE.kept hS.2.1).narrow hFc
  refine vx_calli (vx_runSX (As := [.ref h0, .int (xs (1 : Int32).toNatClampNeg), .int (xs (2 : Int32).toNatClampNeg), .ref o]) (rest := []) ⟨hx, hb, hml, hown, hts⟩ (c_L_hitch l htr dC dI e0 H.size h0 a (xs (1 : Int32).toNatClampNeg) (xs (2 : Int32).toNatClampNeg) o) (vx_cwSW 4 hts gL_law_L_hitch rfl rfl rfl (by decide +kernel) ⟨Nat.le_of_ble_eq_true rfl, Nat.le_of_ble_eq_true rfl⟩) ⟨fun a U g mk q => by obtain ⟨q0, q1, qP, qK, qD, qE⟩ := q; exact ⟨q0, q1, qP, va_K.moved (u := U) (U := U.calling g mk a) (Vm.Alike.refl U.vm) qK, qD, zE.same rfl qE⟩, fun U hU hW => ⟨rfl, by rw [hU], by rw [hU]; exact hPc, va_K.moved hW.alike hKc, hDc.weaken (fun _ _ _ _ => trivial), by rw [hU]; exact zE.warm hW hEc⟩⟩ rfl rfl hl.1 rfl (lv_room (Nat.le_of_ble_eq_true rfl)) dL_law_785 ⟨Nat.le_of_ble_eq_true rfl, Nat.le_of_ble_eq_true rfl⟩) hS (fun q _ h => hFc q h) hFc (fun q _ h => hFc q h) (fun E ce q9 u t H1 locs1 ht hvm hpx hBX hz1 hk1 hS hce hcv hcl => absurd hpx id) (fun r5 u t H1 locs ht hvm hw hB hz1 hk1 hS => ?_)
  have hP1 : va_P (dC, dI) vwCl [] H1 := fun k q h => by simp at h
  have hD1 : va_D (va_A [(h0, .inr (11, zC a))] H.size) [] := ⟨fun i j p q h => by simp at h, fun k q h => by simp at h⟩
  obtain ⟨hP, hD⟩ := va_join (wr := [((a 0), .inl (cL, 10, .inr (.inr (.inr (.inr (fun _ => none)))))), ((a 3), .inl (cT, 6, .inr (.inr (.inr (.inr (fun _ => none)))))), (g0, .inr (15, zM 0 bb)), ((bb 0), .inr (4, [.int 0, .ref e0, .int 0])), ((bb 1), .inr (4, [.int 0, .ref e0, .int 0])), ((bb 2), .inr (4, [.int 0, .ref e0, .int 0])), ((bb 3), .inr (4, [.int 0, .ref e0, .int 0])), (o, .inl (cO, 1, .inr (.inl (fun _ => 0)))), (od, .inl (cD, 1, .inr (.inr (.inr (.inl (fun _ => 0))))))]) (w1 := []) hP hD [0] [1, 2, 3, 4, 5, 6, 7, 8, 9] rfl rfl (by decide) (by decide) hk1 hFc hP1 hD1
  generalize H1 = H at hP hS ⊢
  have hP : va_P (dC, dI) vwCl [((a 0), .inl (cL, 10, .inr (.inr (.inr (.inr (fun _ => none)))))), ((a 3), .inl (cT, 6, .inr (.inr (.inr (.inr (fun _ => none)))))), (g0, .inr (15, zM 0 bb)), ((bb 0), .inr (4, [.int 0, .ref e0, .int 0])), ((bb 1), .inr (4, [.int 0, .ref e0, .int 0])), ((bb 2), .inr (4, [.int 0, .ref e0, .int 0])), ((bb 3), .inr (4, [.int 0, .ref e0, .int 0])), (o, .inl (cO, 1, .inr (.inl (fun _ => 0)))), (od, .inl (cD, 1, .inr (.inr (.inr (.inl (fun _ => 0))))))] H := hP
  have hD : va_D A [((a 0), .inl (cL, 10, .inr (.inr (.inr (.inr (fun _ => none)))))), ((a 3), .inl (cT, 6, .inr (.inr (.inr (.inr (fun _ => none)))))), (g0, .inr (15, zM 0 bb)), ((bb 0), .inr (4, [.int 0, .ref e0, .int 0])), ((bb 1), .inr (4, [.int 0, .ref e0, .int 0])), ((bb 2), .inr (4, [.int 0, .ref e0, .int 0])), ((bb 3), .inr (4, [.int 0, .ref e0, .int 0])), (o, .inl (cO, 1, .inr (.inl (fun _ => 0)))), (od, .inl (cD, 1, .inr (.inr (.inr (.inl (fun _ => 0))))))] := hD
  obtain rfl : r5 = 1 := hw
  refine lv_istore (lv' := [(6, .int 1), (0, .ref b), (1, .ref h0), (2, .ref g0), (3, .ref o), (4, .ref od), (5, .int 0)]) hx hb dL_law_788 hl (by decide) rfl (fun ls hl => ?_)
  refine lv_aload_n hx hb dL_law_790 rfl (lv_at hl 3 rfl) ?_
  refine lv_aload_n hx hb dL_law_791 rfl (lv_at hl 1 rfl) ?_
  refine lv_iload hx hb dL_law_792 (lv_at hl 6 rfl) ?_
  refine lv_iconst (v := 1) hx hb dL_law_794 (by decide) ?_
  refine lv_iadd hx hb dL_law_795 ?_
  refine lv_topi (fun y6 e7 => ?_)
  obtain rfl : y6 = 1 := e7.trans (by decide)
  refine va_sld hx hb hX hbl hbA hS (by unfold vp_in; decide) dL_law_796 ?_
  refine lv_aload_n hx hb dL_law_797 rfl (lv_at hl 1 rfl) ?_
  refine lv_iload hx hb dL_law_798 (lv_at hl 6 rfl) ?_
  refine lv_iconst (v := 2) hx hb dL_law_800 (by decide) ?_
  refine lv_iadd hx hb dL_law_801 ?_
  refine lv_topi (fun y8 e9 => ?_)
  obtain rfl : y8 = 2 := e9.trans (by decide)
  refine va_sld hx hb hX hbl hbA hS (by unfold vp_in; decide) dL_law_802 ?_
  have hPc := hP.sub (ws' := [(g0, .inr (15, zM 0 bb)), ((bb 0), .inr (4, [.int 0, .ref e0, .int 0])), ((bb 1), .inr (4, [.int 0, .ref e0, .int 0])), ((bb 2), .inr (4, [.int 0, .ref e0, .int 0])), ((bb 3), .inr (4, [.int 0, .ref e0, .int 0]))]) [2, 3, 4, 5, 6] rfl
  have hDc := hD.sub (ws' := [(g0, .inr (15, zM 0 bb)), ((bb 0), .inr (4, [.int 0, .ref e0, .int 0])), ((bb 1), .inr (4, [.int 0, .ref e0, .int 0])), ((bb 2), .inr (4, [.int 0, .ref e0, .int 0])), ((bb 3), .inr (4, [.int 0, .ref e0, .int 0]))]) [2, 3, 4, 5, 6] (by decide) rfl
  have hKc := hK.sub (tys' := []) [] rfl
  have hFc := va_free (wc := [(g0, .inr (15, zM 0 bb)), ((bb 0), .inr (4, [.int 0, .ref e0, .int 0])), ((bb 1), .inr (4, [.int 0, .ref e0, .int 0])), ((bb 2), .inr (4, [.int 0, .ref e0, .int 0])), ((bb 3), .inr (4, [.int 0, .ref e0, .int 0]))]) hD hS hA [2, 3, 4, 5, 6] rfl
  have hEc := (hE.kept hS.2.1).narrow hFc
  refine va_calli (va_runV (As := [.int (xs (1 : Int32).toNatClampNeg), .int (xs (2 : Int32).toNatClampNeg)]) (rest := []) ⟨hx, hb, hml, hown, hts⟩ (c_X10_hitch l htr dC dI e0 H.size g0 0 bb (xs (1 : Int32).toNatClampNeg) (xs (2 : Int32).toNatClampNeg)) (cwV 2 hts gL_law_X10_hitch rfl rfl rfl (by decide +kernel) ⟨Nat.le_of_ble_eq_true rfl, Nat.le_of_ble_eq_true rfl⟩) ⟨fun a U g mk q => by obtain ⟨q0, q1, qP, qK, qD, qE⟩ := q; exact ⟨q0, q1, qP, va_K.moved (u := U) (U := U.calling g mk a) (Vm.Alike.refl U.vm) qK, qD, zE.same rfl qE⟩, va_recv hKc hPc (ci := 15) (q0 := 0) rfl rfl, fun U hU hW => ⟨rfl, by rw [hU], by rw [hU]; exact hPc, va_K.moved hW.alike hKc, hDc.weaken (fun _ _ _ _ => trivial), by rw [hU]; exact zE.warm hW hEc⟩⟩ rfl rfl hl.1 rfl (lv_room (Nat.le_of_ble_eq_true rfl)) dL_law_803 ⟨Nat.le_of_ble_eq_true rfl, Nat.le_of_ble_eq_true rfl⟩) hS (fun q _ h => hFc q h) hFc (fun r10 u t H1 locs ht hvm hw hB hz1 hk1 hS => ?_)
  obtain ⟨hP1, hK1, hD1⟩ := hB
  rw [ht] at hP1
  obtain ⟨hP, hD⟩ := va_join (wr := [((a 0), .inl (cL, 10, .inr (.inr (.inr (.inr (fun _ => none)))))), ((a 3), .inl (cT, 6, .inr (.inr (.inr (.inr (fun _ => none)))))), (o, .inl (cO, 1, .inr (.inl (fun _ => 0)))), (od, .inl (cD, 1, .inr (.inr (.inr (.inl (fun _ => 0))))))]) (w1 := [(g0, .inr (15, zM 1 bb))]) hP hD [2, 3, 4, 5, 6] [0, 1, 7, 8] rfl rfl (by decide) (by decide) hk1 hFc hP1 hD1
  generalize H1 = H at hP hS ⊢
  have hP : va_P (dC, dI) vwCl [((a 0), .inl (cL, 10, .inr (.inr (.inr (.inr (fun _ => none)))))), ((a 3), .inl (cT, 6, .inr (.inr (.inr (.inr (fun _ => none)))))), (o, .inl (cO, 1, .inr (.inl (fun _ => 0)))), (od, .inl (cD, 1, .inr (.inr (.inr (.inl (fun _ => 0)))))), (g0, .inr (15, zM 1 bb))] H := hP
  have hD : va_D A [((a 0), .inl (cL, 10, .inr (.inr (.inr (.inr (fun _ => none)))))), ((a 3), .inl (cT, 6, .inr (.inr (.inr (.inr (fun _ => none)))))), (o, .inl (cO, 1, .inr (.inl (fun _ => 0)))), (od, .inl (cD, 1, .inr (.inr (.inr (.inl (fun _ => 0)))))), (g0, .inr (15, zM 1 bb))] := hD
  obtain rfl : r10 = 0 := hw
  refine lv_istore (lv' := [(7, .int 0), (6, .int 1), (0, .ref b), (1, .ref h0), (2, .ref g0), (3, .ref o), (4, .ref od), (5, .int 0)]) hx hb dL_law_806 hl (by decide) rfl (fun ls hl => ?_)
  refine lv_aload_n hx hb dL_law_808 rfl (lv_at hl 4 rfl) ?_
  have hPc := hP.sub (ws' := [(g0, .inr (15, [.int 1, .ref (bb 0), .ref (bb 1), .ref (bb 2), .ref (bb 3), .int 0, .long 0, .int 0, .int 0, .int 0, .int 0]))]) [4] rfl
  have hDc := hD.sub (ws' := [(g0, .inr (15, [.int 1, .ref (bb 0), .ref (bb 1), .ref (bb 2), .ref (bb 3), .int 0, .long 0, .int 0, .int 0, .int 0, .int 0]))]) [4] (by decide) rfl
  have hKc := hK.sub (tys' := []) [] rfl
  have hFc := va_free (wc := [(g0, .inr (15, [.int 1, .ref (bb 0), .ref (bb 1), .ref (bb 2), .ref (bb 3), .int 0, .long 0, .int 0, .int 0, .int 0, .int 0]))]) hD hS hA [4] rfl
  refine va_calli (va_runV (As := []) (rest := []) ⟨hx, hb, hml, hown, hts⟩ (c_X10_thrown l htr dC dI e0 H.size g0 1 (bb 0) (bb 1) (bb 2) (bb 3) 0 0 0 0 0 0) (cwV 0 hts gL_law_X10_thrown rfl rfl rfl (by decide +kernel) ⟨Nat.le_of_ble_eq_true rfl, Nat.le_of_ble_eq_true rfl⟩) ⟨fun a U g mk q => by obtain ⟨q0, q1, qP, qK, qD⟩ := q; exact ⟨q0, q1, qP, va_K.moved (u := U) (U := U.calling g mk a) (Vm.Alike.refl U.vm) qK, qD⟩, va_recv hKc hPc (ci := 15) (q0 := 0) rfl rfl, fun U hU hW => ⟨rfl, by rw [hU], by rw [hU]; exact hPc, va_K.moved hW.alike hKc, hDc.weaken (fun _ _ _ _ => trivial)⟩⟩ rfl rfl hl.1 rfl (lv_room (Nat.le_of_ble_eq_true rfl)) dL_law_809 ⟨Nat.le_of_ble_eq_true rfl, Nat.le_of_ble_eq_true rfl⟩) hS (fun q _ h => hFc q h) hFc (fun r11 u t H1 locs ht hvm hw hB hz1 hk1 hS => ?_)
  obtain ⟨hP1, hK1, hD1⟩ := hB
  rw [ht] at hP1
  obtain ⟨hP, hD⟩ := va_join (wr := [((a 0), .inl (cL, 10, .inr (.inr (.inr (.inr (fun _ => none)))))), ((a 3), .inl (cT, 6, .inr (.inr (.inr (.inr (fun _ => none)))))), (o, .inl (cO, 1, .inr (.inl (fun _ => 0)))), (od, .inl (cD, 1, .inr (.inr (.inr (.inl (fun _ => 0))))))]) (w1 := [(g0, .inr (15, [.int 1, .ref (bb 0), .ref (bb 1), .ref (bb 2), .ref (bb 3), .int 0, .long 0, .int 0, .int 0, .int 0, .int 0]))]) hP hD [4] [0, 1, 2, 3] rfl rfl (by decide) (by decide) hk1 hFc hP1 hD1
  generalize H1 = H at hP hS ⊢
  have hP : va_P (dC, dI) vwCl [((a 0), .inl (cL, 10, .inr (.inr (.inr (.inr (fun _ => none)))))), ((a 3), .inl (cT, 6, .inr (.inr (.inr (.inr (fun _ => none)))))), (o, .inl (cO, 1, .inr (.inl (fun _ => 0)))), (od, .inl (cD, 1, .inr (.inr (.inr (.inl (fun _ => 0)))))), (g0, .inr (15, [.int 1, .ref (bb 0), .ref (bb 1), .ref (bb 2), .ref (bb 3), .int 0, .long 0, .int 0, .int 0, .int 0, .int 0]))] H := hP
  have hD : va_D A [((a 0), .inl (cL, 10, .inr (.inr (.inr (.inr (fun _ => none)))))), ((a 3), .inl (cT, 6, .inr (.inr (.inr (.inr (fun _ => none)))))), (o, .inl (cO, 1, .inr (.inl (fun _ => 0)))), (od, .inl (cD, 1, .inr (.inr (.inr (.inl (fun _ => 0)))))), (g0, .inr (15, [.int 1, .ref (bb 0), .ref (bb 1), .ref (bb 2), .ref (bb 3), .int 0, .long 0, .int 0, .int 0, .int 0, .int 0]))] := hD
  obtain rfl : r11 = 1 := hw
  refine lv_iload hx hb dL_law_812 (lv_at hl 1 rfl) ?_
  refine lv_icmp_eq (tgt := 819) hx hb dL_law_814 (by decide) (fun _ => ?_) (fun c12 => absurd (by decide) c12)
  refine lv_iload hx hb dL_law_819 (lv_at hl 1 rfl) ?_
  refine lv_if_ne (tgt := 836) hx hb dL_law_821 (by decide) (fun _ => ?_) (fun c13 => absurd c13 (by decide))
  refine lv_goto (tgt := 3259) hx hb dL_law_836 (by decide) ?_
  exact zl_end C0 hA2 (Nat.le_of_ble_eq_true rfl) (Nat.le_of_ble_eq_true rfl) hS (lv_sub hl [7, 2] rfl)
theorem dL_law_839 : decode cL_law 839 = .ok (.aload_n 1, 1) := by decide +kernel
theorem dL_law_840 : decode cL_law 840 = .ok (.aload_n 0, 1) := by decide +kernel
theorem dL_law_841 : decode cL_law 841 = .ok (.iload 5, 2) := by decide +kernel
theorem dL_law_843 : decode cL_law 843 = .ok (.iconst 1, 1) := by decide +kernel
theorem dL_law_844 : decode cL_law 844 = .ok (.iadd, 1) := by decide +kernel
theorem dL_law_845 : decode cL_law 845 = .ok (.iaload, 1) := by decide +kernel
theorem dL_law_846 : decode cL_law 846 = .ok (.aload_n 0, 1) := by decide +kernel
theorem dL_law_847 : decode cL_law 847 = .ok (.iload 5, 2) := by decide +kernel
theorem dL_law_849 : decode cL_law 849 = .ok (.iconst 2, 1) := by decide +kernel
theorem dL_law_850 : decode cL_law 850 = .ok (.iadd, 1) := by decide +kernel
theorem dL_law_851 : decode cL_law 851 = .ok (.iaload, 1) := by decide +kernel
theorem dL_law_852 : decode cL_law 852 = .ok (.aload_n 0, 1) := by decide +kernel
theorem dL_law_853 : decode cL_law 853 = .ok (.iload 5, 2) := by decide +kernel
theorem dL_law_855 : decode cL_law 855 = .ok (.iconst 3, 1) := by decide +kernel
theorem dL_law_856 : decode cL_law 856 = .ok (.iadd, 1) := by decide +kernel
theorem dL_law_857 : decode cL_law 857 = .ok (.iaload, 1) := by decide +kernel
theorem dL_law_858 : decode cL_law 858 = .ok (.aload_n 3, 1) := by decide +kernel
theorem dL_law_859 : decode cL_law 859 = .ok (.invokestatic 211, 3) := by decide +kernel
theorem dL_law_862 : decode cL_law 862 = .ok (.istore 6, 2) := by decide +kernel
theorem dL_law_864 : decode cL_law 864 = .ok (.aload_n 2, 1) := by decide +kernel
theorem dL_law_865 : decode cL_law 865 = .ok (.aload_n 0, 1) := by decide +kernel
theorem dL_law_866 : decode cL_law 866 = .ok (.iload 5, 2) := by decide +kernel
theorem dL_law_868 : decode cL_law 868 = .ok (.iconst 1, 1) := by decide +kernel
theorem dL_law_869 : decode cL_law 869 = .ok (.iadd, 1) := by decide +kernel
theorem dL_law_870 : decode cL_law 870 = .ok (.iaload, 1) := by decide +kernel
theorem dL_law_871 : decode cL_law 871 = .ok (.aload_n 0, 1) := by decide +kernel
theorem dL_law_872 : decode cL_law 872 = .ok (.iload 5, 2) := by decide +kernel
theorem dL_law_874 : decode cL_law 874 = .ok (.iconst 2, 1) := by decide +kernel
theorem dL_law_875 : decode cL_law 875 = .ok (.iadd, 1) := by decide +kernel
theorem dL_law_876 : decode cL_law 876 = .ok (.iaload, 1) := by decide +kernel
theorem dL_law_877 : decode cL_law 877 = .ok (.aload_n 0, 1) := by decide +kernel
theorem dL_law_878 : decode cL_law 878 = .ok (.iload 5, 2) := by decide +kernel
theorem dL_law_880 : decode cL_law 880 = .ok (.iconst 3, 1) := by decide +kernel
theorem dL_law_881 : decode cL_law 881 = .ok (.iadd, 1) := by decide +kernel
theorem dL_law_882 : decode cL_law 882 = .ok (.iaload, 1) := by decide +kernel
theorem dL_law_883 : decode cL_law 883 = .ok (.invokevirtual 213, 3) := by decide +kernel
theorem dL_law_886 : decode cL_law 886 = .ok (.istore 7, 2) := by decide +kernel
theorem dL_law_888 : decode cL_law 888 = .ok (.aload_n 2, 1) := by decide +kernel
theorem dL_law_889 : decode cL_law 889 = .ok (.invokevirtual 183, 3) := by decide +kernel
theorem dL_law_892 : decode cL_law 892 = .ok (.iload 6, 2) := by decide +kernel
theorem dL_law_894 : decode cL_law 894 = .ok (.if_icmp .eq 5, 3) := by decide +kernel
theorem dL_law_899 : decode cL_law 899 = .ok (.iload 6, 2) := by decide +kernel
theorem dL_law_901 : decode cL_law 901 = .ok (.ifCond .ne 15, 3) := by decide +kernel
theorem dL_law_916 : decode cL_law 916 = .ok (.goto 2343, 3) := by decide +kernel
set_option maxHeartbeats 4000000 in
set_option maxRecDepth 100000 in
/-- send, called on the two fresh objects -/
theorem zl_8 {p : Program} {l : Launch} {e : Env} {s : State} {m : MethodId} {below : List Frame} {meth : Method} {c : Code} {b : Nat} {xs : Nat → Int32} {A : Nat → Prop} (C0 : lw_At p s m meth c b 5 xs) (hA : ∀ q : Nat, s.heap.size ≤ q → A q) (hA2 : ∀ q : Nat, A q → s.heap.size ≤ q) (htr : l.stackTraces = false) (dC : Nat → ClassId) (dI : Nat → Nat → Nat) (e0 h0 g0 o od : Nat) (a bb : Nat → Nat) (cL cT cO cD : ClassId) (hE : zE e0 A s s.heap) (H : Heap) (locs : List Loc) (ls : Array Slot) (hK : va_K (dC, dI) vwCl [(cL, (.object RX1)), (cT, (.object RX5)), (cO, .long), (cD, .double)] s) (hP : va_P (dC, dI) vwCl [(h0, .inr (11, zC a)), ((a 0), .inl (cL, 10, .inr (.inr (.inr (.inr (fun _ => none)))))), ((a 3), .inl (cT, 6, .inr (.inr (.inr (.inr (fun _ => none)))))), (g0, .inr (15, zM 0 bb)), ((bb 0), .inr (4, [.int 0, .ref e0, .int 0])), ((bb 1), .inr (4, [.int 0, .ref e0, .int 0])), ((bb 2), .inr (4, [.int 0, .ref e0, .int 0])), ((bb 3), .inr (4, [.int 0, .ref e0, .int 0])), (o, .inl (cO, 1, .inr (.inl (fun _ => 0)))), (od, .inl (cD, 1, .inr (.inr (.inr (.inl (fun _ => 0))))))] H) (hD : va_D A [(h0, .inr (11, zC a)), ((a 0), .inl (cL, 10, .inr (.inr (.inr (.inr (fun _ => none)))))), ((a 3), .inl (cT, 6, .inr (.inr (.inr (.inr (fun _ => none)))))), (g0, .inr (15, zM 0 bb)), ((bb 0), .inr (4, [.int 0, .ref e0, .int 0])), ((bb 1), .inr (4, [.int 0, .ref e0, .int 0])), ((bb 2), .inr (4, [.int 0, .ref e0, .int 0])), ((bb 3), .inr (4, [.int 0, .ref e0, .int 0])), (o, .inl (cO, 1, .inr (.inl (fun _ => 0)))), (od, .inl (cD, 1, .inr (.inr (.inr (.inl (fun _ => 0))))))]) (hS : va_S A s.heap H locs) (hl : lv_has ls 9 [(0, .ref b), (1, .ref h0), (2, .ref g0), (3, .ref o), (4, .ref od), (5, .int 0)]) : W p l e room_1 s m #[Value.ref b] below meth c H locs (86) (1094) (lw_Z below #[Value.ref b] s) (F0 m 839 ls []) := by
  obtain ⟨hx, hb, hr, hml, hown, ht0, hX, hbl, hlocks, hgv⟩ := id C0
  have hts := ht0
  have hbA : ¬ A b := fun h => absurd hbl (Nat.not_lt.mpr (hA2 b h))
  refine lv_aload_n hx hb dL_law_839 rfl (lv_at hl 1 rfl) ?_
  refine lv_aload_n hx hb dL_law_840 rfl (lv_at hl 0 rfl) ?_
  refine lv_iload hx hb dL_law_841 (lv_at hl 5 rfl) ?_
  refine lv_iconst (v := 1) hx hb dL_law_843 (by decide) ?_
  refine lv_iadd hx hb dL_law_844 ?_
  refine lv_topi (fun y1 e2 => ?_)
  obtain rfl : y1 = 1 := e2.trans (by decide)
  refine va_sld hx hb hX hbl hbA hS (by unfold vp_in; decide) dL_law_845 ?_
  refine lv_aload_n hx hb dL_law_846 rfl (lv_at hl 0 rfl) ?_
  refine lv_iload hx hb dL_law_847 (lv_at hl 5 rfl) ?_
  refine lv_iconst (v := 2) hx hb dL_law_849 (by decide) ?_
  refine lv_iadd hx hb dL_law_850 ?_
  refine lv_topi (fun y3 e4 => ?_)
  obtain rfl : y3 = 2 := e4.trans (by decide)
  refine va_sld hx hb hX hbl hbA hS (by unfold vp_in; decide) dL_law_851 ?_
  refine lv_aload_n hx hb dL_law_852 rfl (lv_at hl 0 rfl) ?_
  refine lv_iload hx hb dL_law_853 (lv_at hl 5 rfl) ?_
  refine lv_iconst (v := 3) hx hb dL_law_855 (by decide) ?_
  refine lv_iadd hx hb dL_law_856 ?_
  refine lv_topi (fun y5 e6 => ?_)
  obtain rfl : y5 = 3 := e6.trans (by decide)
  refine va_sld hx hb hX hbl hbA hS (by unfold vp_in; decide) dL_law_857 ?_
  refine lv_aload_n hx hb dL_law_858 rfl (lv_at hl 3 rfl) ?_
  have hPc := hP.sub (ws' := [(h0, .inr (11, zC a))]) [0] rfl
  have hDc := hD.sub (ws' := [(h0, .inr (11, zC a))]) [0] (by decide) rfl
  have hKc := hK.sub (tys' := []) [] rfl
  have hFc := va_free (wc := [(h0, .inr (11, zC a))]) hD hS hA [0] rfl
  have hEc := (hE.kept hS.2.1).narrow hFc
  refine vx_calli (vx_runSX (As := [.ref h0, .int (xs (1 : Int32).toNatClampNeg), .int (xs (2 : Int32).toNatClampNeg), .int (xs (3 : Int32).toNatClampNeg), .ref o]) (rest := []) ⟨hx, hb, hml, hown, hts⟩ (c_L_send l htr dC dI e0 H.size h0 a (xs (1 : Int32).toNatClampNeg) (xs (2 : Int32).toNatClampNeg) (xs (3 : Int32).toNatClampNeg) o) (vx_cwSW 5 hts gL_law_L_send rfl rfl rfl (by decide +kernel) ⟨Nat.le_of_ble_eq_true rfl, Nat.le_of_ble_eq_true rfl⟩) ⟨fun a U g mk q => by obtain ⟨q0, q1, qP, qK, qD, qE⟩ := q; exact ⟨q0, q1, qP, va_K.moved (u := U) (U := U.calling g mk a) (Vm.Alike.refl U.vm) qK, qD, zE.same rfl qE⟩, fun U hU hW => ⟨rfl, by rw [hU], by rw [hU]; exact hPc, va_K.moved hW.alike hKc, hDc.weaken (fun _ _ _ _ => trivial), by rw [hU]; exact zE.warm hW hEc⟩⟩ rfl rfl hl.1 rfl (lv_room (Nat.le_of_ble_eq_true rfl)) dL_law_859 ⟨Nat.le_of_ble_eq_true rfl, Nat.le_of_ble_eq_true rfl⟩) hS (fun q _ h => hFc q h) hFc (fun q _ h => hFc q h) (fun E ce q9 u t H1 locs1 ht hvm hpx hBX hz1 hk1 hS hce hcv hcl => absurd hpx id) (fun r7 u t H1 locs ht hvm hw hB hz1 hk1 hS => ?_)
  have hP1 : va_P (dC, dI) vwCl [] H1 := fun k q h => by simp at h
  have hD1 : va_D (va_A [(h0, .inr (11, zC a))] H.size) [] := ⟨fun i j p q h => by simp at h, fun k q h => by simp at h⟩
  obtain ⟨hP, hD⟩ := va_join (wr := [((a 0), .inl (cL, 10, .inr (.inr (.inr (.inr (fun _ => none)))))), ((a 3), .inl (cT, 6, .inr (.inr (.inr (.inr (fun _ => none)))))), (g0, .inr (15, zM 0 bb)), ((bb 0), .inr (4, [.int 0, .ref e0, .int 0])), ((bb 1), .inr (4, [.int 0, .ref e0, .int 0])), ((bb 2), .inr (4, [.int 0, .ref e0, .int 0])), ((bb 3), .inr (4, [.int 0, .ref e0, .int 0])), (o, .inl (cO, 1, .inr (.inl (fun _ => 0)))), (od, .inl (cD, 1, .inr (.inr (.inr (.inl (fun _ => 0))))))]) (w1 := []) hP hD [0] [1, 2, 3, 4, 5, 6, 7, 8, 9] rfl rfl (by decide) (by decide) hk1 hFc hP1 hD1
  generalize H1 = H at hP hS ⊢
  have hP : va_P (dC, dI) vwCl [((a 0), .inl (cL, 10, .inr (.inr (.inr (.inr (fun _ => none)))))), ((a 3), .inl (cT, 6, .inr (.inr (.inr (.inr (fun _ => none)))))), (g0, .inr (15, zM 0 bb)), ((bb 0), .inr (4, [.int 0, .ref e0, .int 0])), ((bb 1), .inr (4, [.int 0, .ref e0, .int 0])), ((bb 2), .inr (4, [.int 0, .ref e0, .int 0])), ((bb 3), .inr (4, [.int 0, .ref e0, .int 0])), (o, .inl (cO, 1, .inr (.inl (fun _ => 0)))), (od, .inl (cD, 1, .inr (.inr (.inr (.inl (fun _ => 0))))))] H := hP
  have hD : va_D A [((a 0), .inl (cL, 10, .inr (.inr (.inr (.inr (fun _ => none)))))), ((a 3), .inl (cT, 6, .inr (.inr (.inr (.inr (fun _ => none)))))), (g0, .inr (15, zM 0 bb)), ((bb 0), .inr (4, [.int 0, .ref e0, .int 0])), ((bb 1), .inr (4, [.int 0, .ref e0, .int 0])), ((bb 2), .inr (4, [.int 0, .ref e0, .int 0])), ((bb 3), .inr (4, [.int 0, .ref e0, .int 0])), (o, .inl (cO, 1, .inr (.inl (fun _ => 0)))), (od, .inl (cD, 1, .inr (.inr (.inr (.inl (fun _ => 0))))))] := hD
  obtain rfl : r7 = 1 := hw
  refine lv_istore (lv' := [(6, .int 1), (0, .ref b), (1, .ref h0), (2, .ref g0), (3, .ref o), (4, .ref od), (5, .int 0)]) hx hb dL_law_862 hl (by decide) rfl (fun ls hl => ?_)
  refine lv_aload_n hx hb dL_law_864 rfl (lv_at hl 3 rfl) ?_
  refine lv_aload_n hx hb dL_law_865 rfl (lv_at hl 1 rfl) ?_
  refine lv_iload hx hb dL_law_866 (lv_at hl 6 rfl) ?_
  refine lv_iconst (v := 1) hx hb dL_law_868 (by decide) ?_
  refine lv_iadd hx hb dL_law_869 ?_
  refine lv_topi (fun y8 e9 => ?_)
  obtain rfl : y8 = 1 := e9.trans (by decide)
  refine va_sld hx hb hX hbl hbA hS (by unfold vp_in; decide) dL_law_870 ?_
  refine lv_aload_n hx hb dL_law_871 rfl (lv_at hl 1 rfl) ?_
  refine lv_iload hx hb dL_law_872 (lv_at hl 6 rfl) ?_
  refine lv_iconst (v := 2) hx hb dL_law_874 (by decide) ?_
  refine lv_iadd hx hb dL_law_875 ?_
  refine lv_topi (fun y10 e11 => ?_)
  obtain rfl : y10 = 2 := e11.trans (by decide)
  refine va_sld hx hb hX hbl hbA hS (by unfold vp_in; decide) dL_law_876 ?_
  refine lv_aload_n hx hb dL_law_877 rfl (lv_at hl 1 rfl) ?_
  refine lv_iload hx hb dL_law_878 (lv_at hl 6 rfl) ?_
  refine lv_iconst (v := 3) hx hb dL_law_880 (by decide) ?_
  refine lv_iadd hx hb dL_law_881 ?_
  refine lv_topi (fun y12 e13 => ?_)
  obtain rfl : y12 = 3 := e13.trans (by decide)
  refine va_sld hx hb hX hbl hbA hS (by unfold vp_in; decide) dL_law_882 ?_
  have hPc := hP.sub (ws' := [(g0, .inr (15, zM 0 bb)), ((bb 0), .inr (4, [.int 0, .ref e0, .int 0])), ((bb 1), .inr (4, [.int 0, .ref e0, .int 0])), ((bb 2), .inr (4, [.int 0, .ref e0, .int 0])), ((bb 3), .inr (4, [.int 0, .ref e0, .int 0]))]) [2, 3, 4, 5, 6] rfl
  have hDc := hD.sub (ws' := [(g0, .inr (15, zM 0 bb)), ((bb 0), .inr (4, [.int 0, .ref e0, .int 0])), ((bb 1), .inr (4, [.int 0, .ref e0, .int 0])), ((bb 2), .inr (4, [.int 0, .ref e0, .int 0])), ((bb 3), .inr (4, [.int 0, .ref e0, .int 0]))]) [2, 3, 4, 5, 6] (by decide) rfl
  have hKc := hK.sub (tys' := []) [] rfl
  have hFc := va_free (wc := [(g0, .inr (15, zM 0 bb)), ((bb 0), .inr (4, [.int 0, .ref e0, .int 0])), ((bb 1), .inr (4, [.int 0, .ref e0, .int 0])), ((bb 2), .inr (4, [.int 0, .ref e0, .int 0])), ((bb 3), .inr (4, [.int 0, .ref e0, .int 0]))]) hD hS hA [2, 3, 4, 5, 6] rfl
  have hEc := (hE.kept hS.2.1).narrow hFc
  refine va_calli (va_runV (As := [.int (xs (1 : Int32).toNatClampNeg), .int (xs (2 : Int32).toNatClampNeg), .int (xs (3 : Int32).toNatClampNeg)]) (rest := []) ⟨hx, hb, hml, hown, hts⟩ (c_X10_send l htr dC dI e0 H.size g0 0 bb (xs (1 : Int32).toNatClampNeg) (xs (2 : Int32).toNatClampNeg) (xs (3 : Int32).toNatClampNeg)) (cwV 3 hts gL_law_X10_send rfl rfl rfl (by decide +kernel) ⟨Nat.le_of_ble_eq_true rfl, Nat.le_of_ble_eq_true rfl⟩) ⟨fun a U g mk q => by obtain ⟨q0, q1, qP, qK, qD, qE⟩ := q; exact ⟨q0, q1, qP, va_K.moved (u := U) (U := U.calling g mk a) (Vm.Alike.refl U.vm) qK, qD, zE.same rfl qE⟩, va_recv hKc hPc (ci := 15) (q0 := 0) rfl rfl, fun U hU hW => ⟨rfl, by rw [hU], by rw [hU]; exact hPc, va_K.moved hW.alike hKc, hDc.weaken (fun _ _ _ _ => trivial), by rw [hU]; exact zE.warm hW hEc⟩⟩ rfl rfl hl.1 rfl (lv_room (Nat.le_of_ble_eq_true rfl)) dL_law_883 ⟨Nat.le_of_ble_eq_true rfl, Nat.le_of_ble_eq_true rfl⟩) hS (fun q _ h => hFc q h) hFc (fun r14 u t H1 locs ht hvm hw hB hz1 hk1 hS => ?_)
  obtain ⟨hP1, hK1, hD1⟩ := hB
  rw [ht] at hP1
  obtain ⟨hP, hD⟩ := va_join (wr := [((a 0), .inl (cL, 10, .inr (.inr (.inr (.inr (fun _ => none)))))), ((a 3), .inl (cT, 6, .inr (.inr (.inr (.inr (fun _ => none)))))), (o, .inl (cO, 1, .inr (.inl (fun _ => 0)))), (od, .inl (cD, 1, .inr (.inr (.inr (.inl (fun _ => 0))))))]) (w1 := [(g0, .inr (15, zM 1 bb))]) hP hD [2, 3, 4, 5, 6] [0, 1, 7, 8] rfl rfl (by decide) (by decide) hk1 hFc hP1 hD1
  generalize H1 = H at hP hS ⊢
  have hP : va_P (dC, dI) vwCl [((a 0), .inl (cL, 10, .inr (.inr (.inr (.inr (fun _ => none)))))), ((a 3), .inl (cT, 6, .inr (.inr (.inr (.inr (fun _ => none)))))), (o, .inl (cO, 1, .inr (.inl (fun _ => 0)))), (od, .inl (cD, 1, .inr (.inr (.inr (.inl (fun _ => 0)))))), (g0, .inr (15, zM 1 bb))] H := hP
  have hD : va_D A [((a 0), .inl (cL, 10, .inr (.inr (.inr (.inr (fun _ => none)))))), ((a 3), .inl (cT, 6, .inr (.inr (.inr (.inr (fun _ => none)))))), (o, .inl (cO, 1, .inr (.inl (fun _ => 0)))), (od, .inl (cD, 1, .inr (.inr (.inr (.inl (fun _ => 0)))))), (g0, .inr (15, zM 1 bb))] := hD
  obtain rfl : r14 = 0 := hw
  refine lv_istore (lv' := [(7, .int 0), (6, .int 1), (0, .ref b), (1, .ref h0), (2, .ref g0), (3, .ref o), (4, .ref od), (5, .int 0)]) hx hb dL_law_886 hl (by decide) rfl (fun ls hl => ?_)
  refine lv_aload_n hx hb dL_law_888 rfl (lv_at hl 4 rfl) ?_
  have hPc := hP.sub (ws' := [(g0, .inr (15, [.int 1, .ref (bb 0), .ref (bb 1), .ref (bb 2), .ref (bb 3), .int 0, .long 0, .int 0, .int 0, .int 0, .int 0]))]) [4] rfl
  have hDc := hD.sub (ws' := [(g0, .inr (15, [.int 1, .ref (bb 0), .ref (bb 1), .ref (bb 2), .ref (bb 3), .int 0, .long 0, .int 0, .int 0, .int 0, .int 0]))]) [4] (by decide) rfl
  have hKc := hK.sub (tys' := []) [] rfl
  have hFc := va_free (wc := [(g0, .inr (15, [.int 1, .ref (bb 0), .ref (bb 1), .ref (bb 2), .ref (bb 3), .int 0, .long 0, .int 0, .int 0, .int 0, .int 0]))]) hD hS hA [4] rfl
  refine va_calli (va_runV (As := []) (rest := []) ⟨hx, hb, hml, hown, hts⟩ (c_X10_thrown l htr dC dI e0 H.size g0 1 (bb 0) (bb 1) (bb 2) (bb 3) 0 0 0 0 0 0) (cwV 0 hts gL_law_X10_thrown rfl rfl rfl (by decide +kernel) ⟨Nat.le_of_ble_eq_true rfl, Nat.le_of_ble_eq_true rfl⟩) ⟨fun a U g mk q => by obtain ⟨q0, q1, qP, qK, qD⟩ := q; exact ⟨q0, q1, qP, va_K.moved (u := U) (U := U.calling g mk a) (Vm.Alike.refl U.vm) qK, qD⟩, va_recv hKc hPc (ci := 15) (q0 := 0) rfl rfl, fun U hU hW => ⟨rfl, by rw [hU], by rw [hU]; exact hPc, va_K.moved hW.alike hKc, hDc.weaken (fun _ _ _ _ => trivial)⟩⟩ rfl rfl hl.1 rfl (lv_room (Nat.le_of_ble_eq_true rfl)) dL_law_889 ⟨Nat.le_of_ble_eq_true rfl, Nat.le_of_ble_eq_true rfl⟩) hS (fun q _ h => hFc q h) hFc (fun r15 u t H1 locs ht hvm hw hB hz1 hk1 hS => ?_)
  obtain ⟨hP1, hK1, hD1⟩ := hB
  rw [ht] at hP1
  obtain ⟨hP, hD⟩ := va_join (wr := [((a 0), .inl (cL, 10, .inr (.inr (.inr (.inr (fun _ => none)))))), ((a 3), .inl (cT, 6, .inr (.inr (.inr (.inr (fun _ => none)))))), (o, .inl (cO, 1, .inr (.inl (fun _ => 0)))), (od, .inl (cD, 1, .inr (.inr (.inr (.inl (fun _ => 0))))))]) (w1 := [(g0, .inr (15, [.int 1, .ref (bb 0), .ref (bb 1), .ref (bb 2), .ref (bb 3), .int 0, .long 0, .int 0, .int 0, .int 0, .int 0]))]) hP hD [4] [0, 1, 2, 3] rfl rfl (by decide) (by decide) hk1 hFc hP1 hD1
  generalize H1 = H at hP hS ⊢
  have hP : va_P (dC, dI) vwCl [((a 0), .inl (cL, 10, .inr (.inr (.inr (.inr (fun _ => none)))))), ((a 3), .inl (cT, 6, .inr (.inr (.inr (.inr (fun _ => none)))))), (o, .inl (cO, 1, .inr (.inl (fun _ => 0)))), (od, .inl (cD, 1, .inr (.inr (.inr (.inl (fun _ => 0)))))), (g0, .inr (15, [.int 1, .ref (bb 0), .ref (bb 1), .ref (bb 2), .ref (bb 3), .int 0, .long 0, .int 0, .int 0, .int 0, .int 0]))] H := hP
  have hD : va_D A [((a 0), .inl (cL, 10, .inr (.inr (.inr (.inr (fun _ => none)))))), ((a 3), .inl (cT, 6, .inr (.inr (.inr (.inr (fun _ => none)))))), (o, .inl (cO, 1, .inr (.inl (fun _ => 0)))), (od, .inl (cD, 1, .inr (.inr (.inr (.inl (fun _ => 0)))))), (g0, .inr (15, [.int 1, .ref (bb 0), .ref (bb 1), .ref (bb 2), .ref (bb 3), .int 0, .long 0, .int 0, .int 0, .int 0, .int 0]))] := hD
  obtain rfl : r15 = 1 := hw
  refine lv_iload hx hb dL_law_892 (lv_at hl 1 rfl) ?_
  refine lv_icmp_eq (tgt := 899) hx hb dL_law_894 (by decide) (fun _ => ?_) (fun c16 => absurd (by decide) c16)
  refine lv_iload hx hb dL_law_899 (lv_at hl 1 rfl) ?_
  refine lv_if_ne (tgt := 916) hx hb dL_law_901 (by decide) (fun _ => ?_) (fun c17 => absurd c17 (by decide))
  refine lv_goto (tgt := 3259) hx hb dL_law_916 (by decide) ?_
  exact zl_end C0 hA2 (Nat.le_of_ble_eq_true rfl) (Nat.le_of_ble_eq_true rfl) hS (lv_sub hl [7, 2] rfl)
theorem dL_law_919 : decode cL_law 919 = .ok (.aload_n 1, 1) := by decide +kernel
theorem dL_law_920 : decode cL_law 920 = .ok (.aload_n 0, 1) := by decide +kernel
theorem dL_law_921 : decode cL_law 921 = .ok (.iload 5, 2) := by decide +kernel
theorem dL_law_923 : decode cL_law 923 = .ok (.iconst 1, 1) := by decide +kernel
theorem dL_law_924 : decode cL_law 924 = .ok (.iadd, 1) := by decide +kernel
theorem dL_law_925 : decode cL_law 925 = .ok (.iaload, 1) := by decide +kernel
theorem dL_law_926 : decode cL_law 926 = .ok (.aload_n 0, 1) := by decide +kernel
theorem dL_law_927 : decode cL_law 927 = .ok (.iload 5, 2) := by decide +kernel
theorem dL_law_929 : decode cL_law 929 = .ok (.iconst 2, 1) := by decide +kernel
theorem dL_law_930 : decode cL_law 930 = .ok (.iadd, 1) := by decide +kernel
theorem dL_law_931 : decode cL_law 931 = .ok (.iaload, 1) := by decide +kernel
theorem dL_law_932 : decode cL_law 932 = .ok (.aload_n 3, 1) := by decide +kernel
theorem dL_law_933 : decode cL_law 933 = .ok (.invokestatic 214, 3) := by decide +kernel
theorem dL_law_936 : decode cL_law 936 = .ok (.istore 6, 2) := by decide +kernel
theorem dL_law_938 : decode cL_law 938 = .ok (.aload_n 2, 1) := by decide +kernel
theorem dL_law_939 : decode cL_law 939 = .ok (.aload_n 0, 1) := by decide +kernel
theorem dL_law_940 : decode cL_law 940 = .ok (.iload 5, 2) := by decide +kernel
theorem dL_law_942 : decode cL_law 942 = .ok (.iconst 1, 1) := by decide +kernel
theorem dL_law_943 : decode cL_law 943 = .ok (.iadd, 1) := by decide +kernel
theorem dL_law_944 : decode cL_law 944 = .ok (.iaload, 1) := by decide +kernel
theorem dL_law_945 : decode cL_law 945 = .ok (.aload_n 0, 1) := by decide +kernel
theorem dL_law_946 : decode cL_law 946 = .ok (.iload 5, 2) := by decide +kernel
theorem dL_law_948 : decode cL_law 948 = .ok (.iconst 2, 1) := by decide +kernel
theorem dL_law_949 : decode cL_law 949 = .ok (.iadd, 1) := by decide +kernel
theorem dL_law_950 : decode cL_law 950 = .ok (.iaload, 1) := by decide +kernel
theorem dL_law_951 : decode cL_law 951 = .ok (.invokevirtual 216, 3) := by decide +kernel
theorem dL_law_954 : decode cL_law 954 = .ok (.istore 7, 2) := by decide +kernel
theorem dL_law_956 : decode cL_law 956 = .ok (.aload_n 2, 1) := by decide +kernel
theorem dL_law_957 : decode cL_law 957 = .ok (.invokevirtual 183, 3) := by decide +kernel
theorem dL_law_960 : decode cL_law 960 = .ok (.iload 6, 2) := by decide +kernel
theorem dL_law_962 : decode cL_law 962 = .ok (.if_icmp .eq 5, 3) := by decide +kernel
theorem dL_law_967 : decode cL_law 967 = .ok (.iload 6, 2) := by decide +kernel
theorem dL_law_969 : decode cL_law 969 = .ok (.ifCond .ne 15, 3) := by decide +kernel
theorem dL_law_984 : decode cL_law 984 = .ok (.goto 2275, 3) := by decide +kernel
set_option maxHeartbeats 4000000 in
set_option maxRecDepth 100000 in
/-- begin, called on the two fresh objects -/
theorem zl_9 {p : Program} {l : Launch} {e : Env} {s : State} {m : MethodId} {below : List Frame} {meth : Method} {c : Code} {b : Nat} {xs : Nat → Int32} {A : Nat → Prop} (C0 : lw_At p s m meth c b 5 xs) (hA : ∀ q : Nat, s.heap.size ≤ q → A q) (hA2 : ∀ q : Nat, A q → s.heap.size ≤ q) (htr : l.stackTraces = false) (dC : Nat → ClassId) (dI : Nat → Nat → Nat) (e0 h0 g0 o od : Nat) (a bb : Nat → Nat) (cL cT cO cD : ClassId) (hE : zE e0 A s s.heap) (H : Heap) (locs : List Loc) (ls : Array Slot) (hK : va_K (dC, dI) vwCl [(cL, (.object RX1)), (cT, (.object RX5)), (cO, .long), (cD, .double)] s) (hP : va_P (dC, dI) vwCl [(h0, .inr (11, zC a)), ((a 0), .inl (cL, 10, .inr (.inr (.inr (.inr (fun _ => none)))))), ((a 3), .inl (cT, 6, .inr (.inr (.inr (.inr (fun _ => none)))))), (g0, .inr (15, zM 0 bb)), ((bb 0), .inr (4, [.int 0, .ref e0, .int 0])), ((bb 1), .inr (4, [.int 0, .ref e0, .int 0])), ((bb 2), .inr (4, [.int 0, .ref e0, .int 0])), ((bb 3), .inr (4, [.int 0, .ref e0, .int 0])), (o, .inl (cO, 1, .inr (.inl (fun _ => 0)))), (od, .inl (cD, 1, .inr (.inr (.inr (.inl (fun _ => 0))))))] H) (hD : va_D A [(h0, .inr (11, zC a)), ((a 0), .inl (cL, 10, .inr (.inr (.inr (.inr (fun _ => none)))))), ((a 3), .inl (cT, 6, .inr (.inr (.inr (.inr (fun _ => none)))))), (g0, .inr (15, zM 0 bb)), ((bb 0), .inr (4, [.int 0, .ref e0, .int 0])), ((bb 1), .inr (4, [.int 0, .ref e0, .int 0])), ((bb 2), .inr (4, [.int 0, .ref e0, .int 0])), ((bb 3), .inr (4, [.int 0, .ref e0, .int 0])), (o, .inl (cO, 1, .inr (.inl (fun _ => 0)))), (od, .inl (cD, 1, .inr (.inr (.inr (.inl (fun _ => 0))))))]) (hS : va_S A s.heap H locs) (hl : lv_has ls 9 [(0, .ref b), (1, .ref h0), (2, .ref g0), (3, .ref o), (4, .ref od), (5, .int 0)]) : W p l e room_1 s m #[Value.ref b] below meth c H locs (86) (1094) (lw_Z below #[Value.ref b] s) (F0 m 919 ls []) := by
  obtain ⟨hx, hb, hr, hml, hown, ht0, hX, hbl, hlocks, hgv⟩ := id C0
  have hts := ht0
  have hbA : ¬ A b := fun h => absurd hbl (Nat.not_lt.mpr (hA2 b h))
  refine lv_aload_n hx hb dL_law_919 rfl (lv_at hl 1 rfl) ?_
  refine lv_aload_n hx hb dL_law_920 rfl (lv_at hl 0 rfl) ?_
  refine lv_iload hx hb dL_law_921 (lv_at hl 5 rfl) ?_
  refine lv_iconst (v := 1) hx hb dL_law_923 (by decide) ?_
  refine lv_iadd hx hb dL_law_924 ?_
  refine lv_topi (fun y1 e2 => ?_)
  obtain rfl : y1 = 1 := e2.trans (by decide)
  refine va_sld hx hb hX hbl hbA hS (by unfold vp_in; decide) dL_law_925 ?_
  refine lv_aload_n hx hb dL_law_926 rfl (lv_at hl 0 rfl) ?_
  refine lv_iload hx hb dL_law_927 (lv_at hl 5 rfl) ?_
  refine lv_iconst (v := 2) hx hb dL_law_929 (by decide) ?_
  refine lv_iadd hx hb dL_law_930 ?_
  refine lv_topi (fun y3 e4 => ?_)
  obtain rfl : y3 = 2 := e4.trans (by decide)
  refine va_sld hx hb hX hbl hbA hS (by unfold vp_in; decide) dL_law_931 ?_
  refine lv_aload_n hx hb dL_law_932 rfl (lv_at hl 3 rfl) ?_
  have hPc := hP.sub (ws' := [(h0, .inr (11, zC a))]) [0] rfl
  have hDc := hD.sub (ws' := [(h0, .inr (11, zC a))]) [0] (by decide) rfl
  have hKc := hK.sub (tys' := []) [] rfl
  have hFc := va_free (wc := [(h0, .inr (11, zC a))]) hD hS hA [0] rfl
  have hEc := (hE.kept hS.2.1).narrow hFc
  refine vx_calli (vx_runSX (As := [.ref h0, .int (xs (1 : Int32).toNatClampNeg), .int (xs (2 : Int32).toNatClampNeg), .ref o]) (rest := []) ⟨hx, hb, hml, hown, hts⟩ (c_L_begin l htr dC dI e0 H.size h0 a (xs (1 : Int32).toNatClampNeg) (xs (2 : Int32).toNatClampNeg) o) (vx_cwSW 4 hts gL_law_L_begin rfl rfl rfl (by decide +kernel) ⟨Nat.le_of_ble_eq_true rfl, Nat.le_of_ble_eq_true rfl⟩) ⟨fun a U g mk q => by obtain ⟨q0, q1, qP, qK, qD, qE⟩ := q; exact ⟨q0, q1, qP, va_K.moved (u := U) (U := U.calling g mk a) (Vm.Alike.refl U.vm) qK, qD, zE.same rfl qE⟩, fun U hU hW => ⟨rfl, by rw [hU], by rw [hU]; exact hPc, va_K.moved hW.alike hKc, hDc.weaken (fun _ _ _ _ => trivial), by rw [hU]; exact zE.warm hW hEc⟩⟩ rfl rfl hl.1 rfl (lv_room (Nat.le_of_ble_eq_true rfl)) dL_law_933 ⟨Nat.le_of_ble_eq_true rfl, Nat.le_of_ble_eq_true rfl⟩) hS (fun q _ h => hFc q h) hFc (fun q _ h => hFc q h) (fun E ce q9 u t H1 locs1 ht hvm hpx hBX hz1 hk1 hS hce hcv hcl => absurd hpx id) (fun r5 u t H1 locs ht hvm hw hB hz1 hk1 hS => ?_)
  have hP1 : va_P (dC, dI) vwCl [] H1 := fun k q h => by simp at h
  have hD1 : va_D (va_A [(h0, .inr (11, zC a))] H.size) [] := ⟨fun i j p q h => by simp at h, fun k q h => by simp at h⟩
  obtain ⟨hP, hD⟩ := va_join (wr := [((a 0), .inl (cL, 10, .inr (.inr (.inr (.inr (fun _ => none)))))), ((a 3), .inl (cT, 6, .inr (.inr (.inr (.inr (fun _ => none)))))), (g0, .inr (15, zM 0 bb)), ((bb 0), .inr (4, [.int 0, .ref e0, .int 0])), ((bb 1), .inr (4, [.int 0, .ref e0, .int 0])), ((bb 2), .inr (4, [.int 0, .ref e0, .int 0])), ((bb 3), .inr (4, [.int 0, .ref e0, .int 0])), (o, .inl (cO, 1, .inr (.inl (fun _ => 0)))), (od, .inl (cD, 1, .inr (.inr (.inr (.inl (fun _ => 0))))))]) (w1 := []) hP hD [0] [1, 2, 3, 4, 5, 6, 7, 8, 9] rfl rfl (by decide) (by decide) hk1 hFc hP1 hD1
  generalize H1 = H at hP hS ⊢
  have hP : va_P (dC, dI) vwCl [((a 0), .inl (cL, 10, .inr (.inr (.inr (.inr (fun _ => none)))))), ((a 3), .inl (cT, 6, .inr (.inr (.inr (.inr (fun _ => none)))))), (g0, .inr (15, zM 0 bb)), ((bb 0), .inr (4, [.int 0, .ref e0, .int 0])), ((bb 1), .inr (4, [.int 0, .ref e0, .int 0])), ((bb 2), .inr (4, [.int 0, .ref e0, .int 0])), ((bb 3), .inr (4, [.int 0, .ref e0, .int 0])), (o, .inl (cO, 1, .inr (.inl (fun _ => 0)))), (od, .inl (cD, 1, .inr (.inr (.inr (.inl (fun _ => 0))))))] H := hP
  have hD : va_D A [((a 0), .inl (cL, 10, .inr (.inr (.inr (.inr (fun _ => none)))))), ((a 3), .inl (cT, 6, .inr (.inr (.inr (.inr (fun _ => none)))))), (g0, .inr (15, zM 0 bb)), ((bb 0), .inr (4, [.int 0, .ref e0, .int 0])), ((bb 1), .inr (4, [.int 0, .ref e0, .int 0])), ((bb 2), .inr (4, [.int 0, .ref e0, .int 0])), ((bb 3), .inr (4, [.int 0, .ref e0, .int 0])), (o, .inl (cO, 1, .inr (.inl (fun _ => 0)))), (od, .inl (cD, 1, .inr (.inr (.inr (.inl (fun _ => 0))))))] := hD
  obtain rfl : r5 = 1 := hw
  refine lv_istore (lv' := [(6, .int 1), (0, .ref b), (1, .ref h0), (2, .ref g0), (3, .ref o), (4, .ref od), (5, .int 0)]) hx hb dL_law_936 hl (by decide) rfl (fun ls hl => ?_)
  refine lv_aload_n hx hb dL_law_938 rfl (lv_at hl 3 rfl) ?_
  refine lv_aload_n hx hb dL_law_939 rfl (lv_at hl 1 rfl) ?_
  refine lv_iload hx hb dL_law_940 (lv_at hl 6 rfl) ?_
  refine lv_iconst (v := 1) hx hb dL_law_942 (by decide) ?_
  refine lv_iadd hx hb dL_law_943 ?_
  refine lv_topi (fun y6 e7 => ?_)
  obtain rfl : y6 = 1 := e7.trans (by decide)
  refine va_sld hx hb hX hbl hbA hS (by unfold vp_in; decide) dL_law_944 ?_
  refine lv_aload_n hx hb dL_law_945 rfl (lv_at hl 1 rfl) ?_
  refine lv_iload hx hb dL_law_946 (lv_at hl 6 rfl) ?_
  refine lv_iconst (v := 2) hx hb dL_law_948 (by decide) ?_
  refine lv_iadd hx hb dL_law_949 ?_
  refine lv_topi (fun y8 e9 => ?_)
  obtain rfl : y8 = 2 := e9.trans (by decide)
  refine va_sld hx hb hX hbl hbA hS (by unfold vp_in; decide) dL_law_950 ?_
  have hPc := hP.sub (ws' := [(g0, .inr (15, zM 0 bb)), ((bb 0), .inr (4, [.int 0, .ref e0, .int 0])), ((bb 1), .inr (4, [.int 0, .ref e0, .int 0])), ((bb 2), .inr (4, [.int 0, .ref e0, .int 0])), ((bb 3), .inr (4, [.int 0, .ref e0, .int 0]))]) [2, 3, 4, 5, 6] rfl
  have hDc := hD.sub (ws' := [(g0, .inr (15, zM 0 bb)), ((bb 0), .inr (4, [.int 0, .ref e0, .int 0])), ((bb 1), .inr (4, [.int 0, .ref e0, .int 0])), ((bb 2), .inr (4, [.int 0, .ref e0, .int 0])), ((bb 3), .inr (4, [.int 0, .ref e0, .int 0]))]) [2, 3, 4, 5, 6] (by decide) rfl
  have hKc := hK.sub (tys' := []) [] rfl
  have hFc := va_free (wc := [(g0, .inr (15, zM 0 bb)), ((bb 0), .inr (4, [.int 0, .ref e0, .int 0])), ((bb 1), .inr (4, [.int 0, .ref e0, .int 0])), ((bb 2), .inr (4, [.int 0, .ref e0, .int 0])), ((bb 3), .inr (4, [.int 0, .ref e0, .int 0]))]) hD hS hA [2, 3, 4, 5, 6] rfl
  have hEc := (hE.kept hS.2.1).narrow hFc
  refine va_calli (va_runV (As := [.int (xs (1 : Int32).toNatClampNeg), .int (xs (2 : Int32).toNatClampNeg)]) (rest := []) ⟨hx, hb, hml, hown, hts⟩ (c_X10_begin l htr dC dI e0 H.size g0 0 bb (xs (1 : Int32).toNatClampNeg) (xs (2 : Int32).toNatClampNeg)) (cwV 2 hts gL_law_X10_begin rfl rfl rfl (by decide +kernel) ⟨Nat.le_of_ble_eq_true rfl, Nat.le_of_ble_eq_true rfl⟩) ⟨fun a U g mk q => by obtain ⟨q0, q1, qP, qK, qD, qE⟩ := q; exact ⟨q0, q1, qP, va_K.moved (u := U) (U := U.calling g mk a) (Vm.Alike.refl U.vm) qK, qD, zE.same rfl qE⟩, va_recv hKc hPc (ci := 15) (q0 := 0) rfl rfl, fun U hU hW => ⟨rfl, by rw [hU], by rw [hU]; exact hPc, va_K.moved hW.alike hKc, hDc.weaken (fun _ _ _ _ => trivial), by rw [hU]; exact zE.warm hW hEc⟩⟩ rfl rfl hl.1 rfl (lv_room (Nat.le_of_ble_eq_true rfl)) dL_law_951 ⟨Nat.le_of_ble_eq_true rfl, Nat.le_of_ble_eq_true rfl⟩) hS (fun q _ h => hFc q h) hFc (fun r10 u t H1 locs ht hvm hw hB hz1 hk1 hS => ?_)
  obtain ⟨hP1, hK1, hD1⟩ := hB
  rw [ht] at hP1
  obtain ⟨hP, hD⟩ := va_join (wr := [((a 0), .inl (cL, 10, .inr (.inr (.inr (.inr (fun _ => none)))))), ((a 3), .inl (cT, 6, .inr (.inr (.inr (.inr (fun _ => none)))))), (o, .inl (cO, 1, .inr (.inl (fun _ => 0)))), (od, .inl (cD, 1, .inr (.inr (.inr (.inl (fun _ => 0))))))]) (w1 := [(g0, .inr (15, zM 1 bb))]) hP hD [2, 3, 4, 5, 6] [0, 1, 7, 8] rfl rfl (by decide) (by decide) hk1 hFc hP1 hD1
  generalize H1 = H at hP hS ⊢
  have hP : va_P (dC, dI) vwCl [((a 0), .inl (cL, 10, .inr (.inr (.inr (.inr (fun _ => none)))))), ((a 3), .inl (cT, 6, .inr (.inr (.inr (.inr (fun _ => none)))))), (o, .inl (cO, 1, .inr (.inl (fun _ => 0)))), (od, .inl (cD, 1, .inr (.inr (.inr (.inl (fun _ => 0)))))), (g0, .inr (15, zM 1 bb))] H := hP
  have hD : va_D A [((a 0), .inl (cL, 10, .inr (.inr (.inr (.inr (fun _ => none)))))), ((a 3), .inl (cT, 6, .inr (.inr (.inr (.inr (fun _ => none)))))), (o, .inl (cO, 1, .inr (.inl (fun _ => 0)))), (od, .inl (cD, 1, .inr (.inr (.inr (.inl (fun _ => 0)))))), (g0, .inr (15, zM 1 bb))] := hD
  obtain rfl : r10 = 0 := hw
  refine lv_istore (lv' := [(7, .int 0), (6, .int 1), (0, .ref b), (1, .ref h0), (2, .ref g0), (3, .ref o), (4, .ref od), (5, .int 0)]) hx hb dL_law_954 hl (by decide) rfl (fun ls hl => ?_)
  refine lv_aload_n hx hb dL_law_956 rfl (lv_at hl 4 rfl) ?_
  have hPc := hP.sub (ws' := [(g0, .inr (15, [.int 1, .ref (bb 0), .ref (bb 1), .ref (bb 2), .ref (bb 3), .int 0, .long 0, .int 0, .int 0, .int 0, .int 0]))]) [4] rfl
  have hDc := hD.sub (ws' := [(g0, .inr (15, [.int 1, .ref (bb 0), .ref (bb 1), .ref (bb 2), .ref (bb 3), .int 0, .long 0, .int 0, .int 0, .int 0, .int 0]))]) [4] (by decide) rfl
  have hKc := hK.sub (tys' := []) [] rfl
  have hFc := va_free (wc := [(g0, .inr (15, [.int 1, .ref (bb 0), .ref (bb 1), .ref (bb 2), .ref (bb 3), .int 0, .long 0, .int 0, .int 0, .int 0, .int 0]))]) hD hS hA [4] rfl
  refine va_calli (va_runV (As := []) (rest := []) ⟨hx, hb, hml, hown, hts⟩ (c_X10_thrown l htr dC dI e0 H.size g0 1 (bb 0) (bb 1) (bb 2) (bb 3) 0 0 0 0 0 0) (cwV 0 hts gL_law_X10_thrown rfl rfl rfl (by decide +kernel) ⟨Nat.le_of_ble_eq_true rfl, Nat.le_of_ble_eq_true rfl⟩) ⟨fun a U g mk q => by obtain ⟨q0, q1, qP, qK, qD⟩ := q; exact ⟨q0, q1, qP, va_K.moved (u := U) (U := U.calling g mk a) (Vm.Alike.refl U.vm) qK, qD⟩, va_recv hKc hPc (ci := 15) (q0 := 0) rfl rfl, fun U hU hW => ⟨rfl, by rw [hU], by rw [hU]; exact hPc, va_K.moved hW.alike hKc, hDc.weaken (fun _ _ _ _ => trivial)⟩⟩ rfl rfl hl.1 rfl (lv_room (Nat.le_of_ble_eq_true rfl)) dL_law_957 ⟨Nat.le_of_ble_eq_true rfl, Nat.le_of_ble_eq_true rfl⟩) hS (fun q _ h => hFc q h) hFc (fun r11 u t H1 locs ht hvm hw hB hz1 hk1 hS => ?_)
  obtain ⟨hP1, hK1, hD1⟩ := hB
  rw [ht] at hP1
  obtain ⟨hP, hD⟩ := va_join (wr := [((a 0), .inl (cL, 10, .inr (.inr (.inr (.inr (fun _ => none)))))), ((a 3), .inl (cT, 6, .inr (.inr (.inr (.inr (fun _ => none)))))), (o, .inl (cO, 1, .inr (.inl (fun _ => 0)))), (od, .inl (cD, 1, .inr (.inr (.inr (.inl (fun _ => 0))))))]) (w1 := [(g0, .inr (15, [.int 1, .ref (bb 0), .ref (bb 1), .ref (bb 2), .ref (bb 3), .int 0, .long 0, .int 0, .int 0, .int 0, .int 0]))]) hP hD [4] [0, 1, 2, 3] rfl rfl (by decide) (by decide) hk1 hFc hP1 hD1
  generalize H1 = H at hP hS ⊢
  have hP : va_P (dC, dI) vwCl [((a 0), .inl (cL, 10, .inr (.inr (.inr (.inr (fun _ => none)))))), ((a 3), .inl (cT, 6, .inr (.inr (.inr (.inr (fun _ => none)))))), (o, .inl (cO, 1, .inr (.inl (fun _ => 0)))), (od, .inl (cD, 1, .inr (.inr (.inr (.inl (fun _ => 0)))))), (g0, .inr (15, [.int 1, .ref (bb 0), .ref (bb 1), .ref (bb 2), .ref (bb 3), .int 0, .long 0, .int 0, .int 0, .int 0, .int 0]))] H := hP
  have hD : va_D A [((a 0), .inl (cL, 10, .inr (.inr (.inr (.inr (fun _ => none)))))), ((a 3), .inl (cT, 6, .inr (.inr (.inr (.inr (fun _ => none)))))), (o, .inl (cO, 1, .inr (.inl (fun _ => 0)))), (od, .inl (cD, 1, .inr (.inr (.inr (.inl (fun _ => 0)))))), (g0, .inr (15, [.int 1, .ref (bb 0), .ref (bb 1), .ref (bb 2), .ref (bb 3), .int 0, .long 0, .int 0, .int 0, .int 0, .int 0]))] := hD
  obtain rfl : r11 = 1 := hw
  refine lv_iload hx hb dL_law_960 (lv_at hl 1 rfl) ?_
  refine lv_icmp_eq (tgt := 967) hx hb dL_law_962 (by decide) (fun _ => ?_) (fun c12 => absurd (by decide) c12)
  refine lv_iload hx hb dL_law_967 (lv_at hl 1 rfl) ?_
  refine lv_if_ne (tgt := 984) hx hb dL_law_969 (by decide) (fun _ => ?_) (fun c13 => absurd c13 (by decide))
  refine lv_goto (tgt := 3259) hx hb dL_law_984 (by decide) ?_
  exact zl_end C0 hA2 (Nat.le_of_ble_eq_true rfl) (Nat.le_of_ble_eq_true rfl) hS (lv_sub hl [7, 2] rfl)
theorem dL_law_987 : decode cL_law 987 = .ok (.aload_n 1, 1) := by decide +kernel
theorem dL_law_988 : decode cL_law 988 = .ok (.aload_n 0, 1) := by decide +kernel
theorem dL_law_989 : decode cL_law 989 = .ok (.iload 5, 2) := by decide +kernel
theorem dL_law_991 : decode cL_law 991 = .ok (.iconst 1, 1) := by decide +kernel
theorem dL_law_992 : decode cL_law 992 = .ok (.iadd, 1) := by decide +kernel
theorem dL_law_993 : decode cL_law 993 = .ok (.iaload, 1) := by decide +kernel
theorem dL_law_994 : decode cL_law 994 = .ok (.aload_n 3, 1) := by decide +kernel
theorem dL_law_995 : decode cL_law 995 = .ok (.invokestatic 217, 3) := by decide +kernel
theorem dL_law_998 : decode cL_law 998 = .ok (.istore 6, 2) := by decide +kernel
theorem dL_law_1000 : decode cL_law 1000 = .ok (.aload_n 2, 1) := by decide +kernel
theorem dL_law_1001 : decode cL_law 1001 = .ok (.aload_n 0, 1) := by decide +kernel
theorem dL_law_1002 : decode cL_law 1002 = .ok (.iload 5, 2) := by decide +kernel
theorem dL_law_1004 : decode cL_law 1004 = .ok (.iconst 1, 1) := by decide +kernel
theorem dL_law_1005 : decode cL_law 1005 = .ok (.iadd, 1) := by decide +kernel
theorem dL_law_1006 : decode cL_law 1006 = .ok (.iaload, 1) := by decide +kernel
theorem dL_law_1007 : decode cL_law 1007 = .ok (.invokevirtual 220, 3) := by decide +kernel
theorem dL_law_1010 : decode cL_law 1010 = .ok (.istore 7, 2) := by decide +kernel
theorem dL_law_1012 : decode cL_law 1012 = .ok (.aload_n 2, 1) := by decide +kernel
theorem dL_law_1013 : decode cL_law 1013 = .ok (.invokevirtual 183, 3) := by decide +kernel
theorem dL_law_1016 : decode cL_law 1016 = .ok (.iload 6, 2) := by decide +kernel
theorem dL_law_1018 : decode cL_law 1018 = .ok (.if_icmp .eq 5, 3) := by decide +kernel
theorem dL_law_1023 : decode cL_law 1023 = .ok (.iload 6, 2) := by decide +kernel
theorem dL_law_1025 : decode cL_law 1025 = .ok (.ifCond .ne 15, 3) := by decide +kernel
theorem dL_law_1040 : decode cL_law 1040 = .ok (.goto 2219, 3) := by decide +kernel
set_option maxHeartbeats 4000000 in
set_option maxRecDepth 100000 in
/-- run, called on the two fresh objects -/
theorem zl_10 {p : Program} {l : Launch} {e : Env} {s : State} {m : MethodId} {below : List Frame} {meth : Method} {c : Code} {b : Nat} {xs : Nat → Int32} {A : Nat → Prop} (C0 : lw_At p s m meth c b 5 xs) (hA : ∀ q : Nat, s.heap.size ≤ q → A q) (hA2 : ∀ q : Nat, A q → s.heap.size ≤ q) (htr : l.stackTraces = false) (dC : Nat → ClassId) (dI : Nat → Nat → Nat) (e0 h0 g0 o od : Nat) (a bb : Nat → Nat) (cL cT cO cD : ClassId) (hE : zE e0 A s s.heap) (H : Heap) (locs : List Loc) (ls : Array Slot) (hK : va_K (dC, dI) vwCl [(cL, (.object RX1)), (cT, (.object RX5)), (cO, .long), (cD, .double)] s) (hP : va_P (dC, dI) vwCl [(h0, .inr (11, zC a)), ((a 0), .inl (cL, 10, .inr (.inr (.inr (.inr (fun _ => none)))))), ((a 3), .inl (cT, 6, .inr (.inr (.inr (.inr (fun _ => none)))))), (g0, .inr (15, zM 0 bb)), ((bb 0), .inr (4, [.int 0, .ref e0, .int 0])), ((bb 1), .inr (4, [.int 0, .ref e0, .int 0])), ((bb 2), .inr (4, [.int 0, .ref e0, .int 0])), ((bb 3), .inr (4, [.int 0, .ref e0, .int 0])), (o, .inl (cO, 1, .inr (.inl (fun _ => 0)))), (od, .inl (cD, 1, .inr (.inr (.inr (.inl (fun _ => 0))))))] H) (hD : va_D A [(h0, .inr (11, zC a)), ((a 0), .inl (cL, 10, .inr (.inr (.inr (.inr (fun _ => none)))))), ((a 3), .inl (cT, 6, .inr (.inr (.inr (.inr (fun _ => none)))))), (g0, .inr (15, zM 0 bb)), ((bb 0), .inr (4, [.int 0, .ref e0, .int 0])), ((bb 1), .inr (4, [.int 0, .ref e0, .int 0])), ((bb 2), .inr (4, [.int 0, .ref e0, .int 0])), ((bb 3), .inr (4, [.int 0, .ref e0, .int 0])), (o, .inl (cO, 1, .inr (.inl (fun _ => 0)))), (od, .inl (cD, 1, .inr (.inr (.inr (.inl (fun _ => 0))))))]) (hS : va_S A s.heap H locs) (hl : lv_has ls 9 [(0, .ref b), (1, .ref h0), (2, .ref g0), (3, .ref o), (4, .ref od), (5, .int 0)]) : W p l e room_1 s m #[Value.ref b] below meth c H locs (86) (1094) (lw_Z below #[Value.ref b] s) (F0 m 987 ls []) := by
  obtain ⟨hx, hb, hr, hml, hown, ht0, hX, hbl, hlocks, hgv⟩ := id C0
  have hts := ht0
  have hbA : ¬ A b := fun h => absurd hbl (Nat.not_lt.mpr (hA2 b h))
  refine lv_aload_n hx hb dL_law_987 rfl (lv_at hl 1 rfl) ?_
  refine lv_aload_n hx hb dL_law_988 rfl (lv_at hl 0 rfl) ?_
  refine lv_iload hx hb dL_law_989 (lv_at hl 5 rfl) ?_
  refine lv_iconst (v := 1) hx hb dL_law_991 (by decide) ?_
  refine lv_iadd hx hb dL_law_992 ?_
  refine lv_topi (fun y1 e2 => ?_)
  obtain rfl : y1 = 1 := e2.trans (by decide)
  refine va_sld hx hb hX hbl hbA hS (by unfold vp_in; decide) dL_law_993 ?_
  refine lv_aload_n hx hb dL_law_994 rfl (lv_at hl 3 rfl) ?_
  have hPc := hP.sub (ws' := [(h0, .inr (11, zC a))]) [0] rfl
  have hDc := hD.sub (ws' := [(h0, .inr (11, zC a))]) [0] (by decide) rfl
  have hKc := hK.sub (tys' := []) [] rfl
  have hFc := va_free (wc := [(h0, .inr (11, zC a))]) hD hS hA [0] rfl
  have hEc := (hE.kept hS.2.1).narrow hFc
  refine vx_calli (vx_runSX (As := [.ref h0, .int (xs (1 : Int32).toNatClampNeg), .ref o]) (rest := []) ⟨hx, hb, hml, hown, hts⟩ (c_L_run l htr dC dI e0 H.size h0 a (xs (1 : Int32).toNatClampNeg) o) (vx_cwSW 3 hts gL_law_L_run rfl rfl rfl (by decide +kernel) ⟨Nat.le_of_ble_eq_true rfl, Nat.le_of_ble_eq_true rfl⟩) ⟨fun a U g mk q => by obtain ⟨q0, q1, qP, qK, qD, qE⟩ := q; exact ⟨q0, q1, qP, va_K.moved (u := U) (U := U.calling g mk a) (Vm.Alike.refl U.vm) qK, qD, zE.same rfl qE⟩, fun U hU hW => ⟨rfl, by rw [hU], by rw [hU]; exact hPc, va_K.moved hW.alike hKc, hDc.weaken (fun _ _ _ _ => trivial), by rw [hU]; exact zE.warm hW hEc⟩⟩ rfl rfl hl.1 rfl (lv_room (Nat.le_of_ble_eq_true rfl)) dL_law_995 ⟨Nat.le_of_ble_eq_true rfl, Nat.le_of_ble_eq_true rfl⟩) hS (fun q _ h => hFc q h) hFc (fun q _ h => hFc q h) (fun E ce q9 u t H1 locs1 ht hvm hpx hBX hz1 hk1 hS hce hcv hcl => absurd hpx id) (fun r3 u t H1 locs ht hvm hw hB hz1 hk1 hS => ?_)
  have hP1 : va_P (dC, dI) vwCl [] H1 := fun k q h => by simp at h
  have hD1 : va_D (va_A [(h0, .inr (11, zC a))] H.size) [] := ⟨fun i j p q h => by simp at h, fun k q h => by simp at h⟩
  obtain ⟨hP, hD⟩ := va_join (wr := [((a 0), .inl (cL, 10, .inr (.inr (.inr (.inr (fun _ => none)))))), ((a 3), .inl (cT, 6, .inr (.inr (.inr (.inr (fun _ => none)))))), (g0, .inr (15, zM 0 bb)), ((bb 0), .inr (4, [.int 0, .ref e0, .int 0])), ((bb 1), .inr (4, [.int 0, .ref e0, .int 0])), ((bb 2), .inr (4, [.int 0, .ref e0, .int 0])), ((bb 3), .inr (4, [.int 0, .ref e0, .int 0])), (o, .inl (cO, 1, .inr (.inl (fun _ => 0)))), (od, .inl (cD, 1, .inr (.inr (.inr (.inl (fun _ => 0))))))]) (w1 := []) hP hD [0] [1, 2, 3, 4, 5, 6, 7, 8, 9] rfl rfl (by decide) (by decide) hk1 hFc hP1 hD1
  generalize H1 = H at hP hS ⊢
  have hP : va_P (dC, dI) vwCl [((a 0), .inl (cL, 10, .inr (.inr (.inr (.inr (fun _ => none)))))), ((a 3), .inl (cT, 6, .inr (.inr (.inr (.inr (fun _ => none)))))), (g0, .inr (15, zM 0 bb)), ((bb 0), .inr (4, [.int 0, .ref e0, .int 0])), ((bb 1), .inr (4, [.int 0, .ref e0, .int 0])), ((bb 2), .inr (4, [.int 0, .ref e0, .int 0])), ((bb 3), .inr (4, [.int 0, .ref e0, .int 0])), (o, .inl (cO, 1, .inr (.inl (fun _ => 0)))), (od, .inl (cD, 1, .inr (.inr (.inr (.inl (fun _ => 0))))))] H := hP
  have hD : va_D A [((a 0), .inl (cL, 10, .inr (.inr (.inr (.inr (fun _ => none)))))), ((a 3), .inl (cT, 6, .inr (.inr (.inr (.inr (fun _ => none)))))), (g0, .inr (15, zM 0 bb)), ((bb 0), .inr (4, [.int 0, .ref e0, .int 0])), ((bb 1), .inr (4, [.int 0, .ref e0, .int 0])), ((bb 2), .inr (4, [.int 0, .ref e0, .int 0])), ((bb 3), .inr (4, [.int 0, .ref e0, .int 0])), (o, .inl (cO, 1, .inr (.inl (fun _ => 0)))), (od, .inl (cD, 1, .inr (.inr (.inr (.inl (fun _ => 0))))))] := hD
  obtain rfl : r3 = 1 := hw
  refine lv_istore (lv' := [(6, .int 1), (0, .ref b), (1, .ref h0), (2, .ref g0), (3, .ref o), (4, .ref od), (5, .int 0)]) hx hb dL_law_998 hl (by decide) rfl (fun ls hl => ?_)
  refine lv_aload_n hx hb dL_law_1000 rfl (lv_at hl 3 rfl) ?_
  refine lv_aload_n hx hb dL_law_1001 rfl (lv_at hl 1 rfl) ?_
  refine lv_iload hx hb dL_law_1002 (lv_at hl 6 rfl) ?_
  refine lv_iconst (v := 1) hx hb dL_law_1004 (by decide) ?_
  refine lv_iadd hx hb dL_law_1005 ?_
  refine lv_topi (fun y4 e5 => ?_)
  obtain rfl : y4 = 1 := e5.trans (by decide)
  refine va_sld hx hb hX hbl hbA hS (by unfold vp_in; decide) dL_law_1006 ?_
  have hPc := hP.sub (ws' := [(g0, .inr (15, zM 0 bb)), ((bb 0), .inr (4, [.int 0, .ref e0, .int 0])), ((bb 1), .inr (4, [.int 0, .ref e0, .int 0])), ((bb 2), .inr (4, [.int 0, .ref e0, .int 0])), ((bb 3), .inr (4, [.int 0, .ref e0, .int 0]))]) [2, 3, 4, 5, 6] rfl
  have hDc := hD.sub (ws' := [(g0, .inr (15, zM 0 bb)), ((bb 0), .inr (4, [.int 0, .ref e0, .int 0])), ((bb 1), .inr (4, [.int 0, .ref e0, .int 0])), ((bb 2), .inr (4, [.int 0, .ref e0, .int 0])), ((bb 3), .inr (4, [.int 0, .ref e0, .int 0]))]) [2, 3, 4, 5, 6] (by decide) rfl
  have hKc := hK.sub (tys' := []) [] rfl
  have hFc := va_free (wc := [(g0, .inr (15, zM 0 bb)), ((bb 0), .inr (4, [.int 0, .ref e0, .int 0])), ((bb 1), .inr (4, [.int 0, .ref e0, .int 0])), ((bb 2), .inr (4, [.int 0, .ref e0, .int 0])), ((bb 3), .inr (4, [.int 0, .ref e0, .int 0]))]) hD hS hA [2, 3, 4, 5, 6] rfl
  have hEc := (hE.kept hS.2.1).narrow hFc
  refine va_calli (va_runV (As := [.int (xs (1 : Int32).toNatClampNeg)]) (rest := []) ⟨hx, hb, hml, hown, hts⟩ (c_X10_run l htr dC dI e0 H.size g0 0 bb (xs (1 : Int32).toNatClampNeg)) (cwV 1 hts gL_law_X10_run rfl rfl rfl (by decide +kernel) ⟨Nat.le_of_ble_eq_true rfl, Nat.le_of_ble_eq_true rfl⟩) ⟨fun a U g mk q => by obtain ⟨q0, q1, qP, qK, qD, qE⟩ := q; exact ⟨q0, q1, qP, va_K.moved (u := U) (U := U.calling g mk a) (Vm.Alike.refl U.vm) qK, qD, zE.same rfl qE⟩, va_recv hKc hPc (ci := 15) (q0 := 0) rfl rfl, fun U hU hW => ⟨rfl, by rw [hU], by rw [hU]; exact hPc, va_K.moved hW.alike hKc, hDc.weaken (fun _ _ _ _ => trivial), by rw [hU]; exact zE.warm hW hEc⟩⟩ rfl rfl hl.1 rfl (lv_room (Nat.le_of_ble_eq_true rfl)) dL_law_1007 ⟨Nat.le_of_ble_eq_true rfl, Nat.le_of_ble_eq_true rfl⟩) hS (fun q _ h => hFc q h) hFc (fun r6 u t H1 locs ht hvm hw hB hz1 hk1 hS => ?_)
  obtain ⟨hP1, hK1, hD1⟩ := hB
  rw [ht] at hP1
  obtain ⟨hP, hD⟩ := va_join (wr := [((a 0), .inl (cL, 10, .inr (.inr (.inr (.inr (fun _ => none)))))), ((a 3), .inl (cT, 6, .inr (.inr (.inr (.inr (fun _ => none)))))), (o, .inl (cO, 1, .inr (.inl (fun _ => 0)))), (od, .inl (cD, 1, .inr (.inr (.inr (.inl (fun _ => 0))))))]) (w1 := [(g0, .inr (15, zM 1 bb))]) hP hD [2, 3, 4, 5, 6] [0, 1, 7, 8] rfl rfl (by decide) (by decide) hk1 hFc hP1 hD1
  generalize H1 = H at hP hS ⊢
  have hP : va_P (dC, dI) vwCl [((a 0), .inl (cL, 10, .inr (.inr (.inr (.inr (fun _ => none)))))), ((a 3), .inl (cT, 6, .inr (.inr (.inr (.inr (fun _ => none)))))), (o, .inl (cO, 1, .inr (.inl (fun _ => 0)))), (od, .inl (cD, 1, .inr (.inr (.inr (.inl (fun _ => 0)))))), (g0, .inr (15, zM 1 bb))] H := hP
  have hD : va_D A [((a 0), .inl (cL, 10, .inr (.inr (.inr (.inr (fun _ => none)))))), ((a 3), .inl (cT, 6, .inr (.inr (.inr (.inr (fun _ => none)))))), (o, .inl (cO, 1, .inr (.inl (fun _ => 0)))), (od, .inl (cD, 1, .inr (.inr (.inr (.inl (fun _ => 0)))))), (g0, .inr (15, zM 1 bb))] := hD
  obtain rfl : r6 = 0 := hw
  refine lv_istore (lv' := [(7, .int 0), (6, .int 1), (0, .ref b), (1, .ref h0), (2, .ref g0), (3, .ref o), (4, .ref od), (5, .int 0)]) hx hb dL_law_1010 hl (by decide) rfl (fun ls hl => ?_)
  refine lv_aload_n hx hb dL_law_1012 rfl (lv_at hl 4 rfl) ?_
  have hPc := hP.sub (ws' := [(g0, .inr (15, [.int 1, .ref (bb 0), .ref (bb 1), .ref (bb 2), .ref (bb 3), .int 0, .long 0, .int 0, .int 0, .int 0, .int 0]))]) [4] rfl
  have hDc := hD.sub (ws' := [(g0, .inr (15, [.int 1, .ref (bb 0), .ref (bb 1), .ref (bb 2), .ref (bb 3), .int 0, .long 0, .int 0, .int 0, .int 0, .int 0]))]) [4] (by decide) rfl
  have hKc := hK.sub (tys' := []) [] rfl
  have hFc := va_free (wc := [(g0, .inr (15, [.int 1, .ref (bb 0), .ref (bb 1), .ref (bb 2), .ref (bb 3), .int 0, .long 0, .int 0, .int 0, .int 0, .int 0]))]) hD hS hA [4] rfl
  refine va_calli (va_runV (As := []) (rest := []) ⟨hx, hb, hml, hown, hts⟩ (c_X10_thrown l htr dC dI e0 H.size g0 1 (bb 0) (bb 1) (bb 2) (bb 3) 0 0 0 0 0 0) (cwV 0 hts gL_law_X10_thrown rfl rfl rfl (by decide +kernel) ⟨Nat.le_of_ble_eq_true rfl, Nat.le_of_ble_eq_true rfl⟩) ⟨fun a U g mk q => by obtain ⟨q0, q1, qP, qK, qD⟩ := q; exact ⟨q0, q1, qP, va_K.moved (u := U) (U := U.calling g mk a) (Vm.Alike.refl U.vm) qK, qD⟩, va_recv hKc hPc (ci := 15) (q0 := 0) rfl rfl, fun U hU hW => ⟨rfl, by rw [hU], by rw [hU]; exact hPc, va_K.moved hW.alike hKc, hDc.weaken (fun _ _ _ _ => trivial)⟩⟩ rfl rfl hl.1 rfl (lv_room (Nat.le_of_ble_eq_true rfl)) dL_law_1013 ⟨Nat.le_of_ble_eq_true rfl, Nat.le_of_ble_eq_true rfl⟩) hS (fun q _ h => hFc q h) hFc (fun r7 u t H1 locs ht hvm hw hB hz1 hk1 hS => ?_)
  obtain ⟨hP1, hK1, hD1⟩ := hB
  rw [ht] at hP1
  obtain ⟨hP, hD⟩ := va_join (wr := [((a 0), .inl (cL, 10, .inr (.inr (.inr (.inr (fun _ => none)))))), ((a 3), .inl (cT, 6, .inr (.inr (.inr (.inr (fun _ => none)))))), (o, .inl (cO, 1, .inr (.inl (fun _ => 0)))), (od, .inl (cD, 1, .inr (.inr (.inr (.inl (fun _ => 0))))))]) (w1 := [(g0, .inr (15, [.int 1, .ref (bb 0), .ref (bb 1), .ref (bb 2), .ref (bb 3), .int 0, .long 0, .int 0, .int 0, .int 0, .int 0]))]) hP hD [4] [0, 1, 2, 3] rfl rfl (by decide) (by decide) hk1 hFc hP1 hD1
  generalize H1 = H at hP hS ⊢
  have hP : va_P (dC, dI) vwCl [((a 0), .inl (cL, 10, .inr (.inr (.inr (.inr (fun _ => none)))))), ((a 3), .inl (cT, 6, .inr (.inr (.inr (.inr (fun _ => none)))))), (o, .inl (cO, 1, .inr (.inl (fun _ => 0)))), (od, .inl (cD, 1, .inr (.inr (.inr (.inl (fun _ => 0)))))), (g0, .inr (15, [.int 1, .ref (bb 0), .ref (bb 1), .ref (bb 2), .ref (bb 3), .int 0, .long 0, .int 0, .int 0, .int 0, .int 0]))] H := hP
  have hD : va_D A [((a 0), .inl (cL, 10, .inr (.inr (.inr (.inr (fun _ => none)))))), ((a 3), .inl (cT, 6, .inr (.inr (.inr (.inr (fun _ => none)))))), (o, .inl (cO, 1, .inr (.inl (fun _ => 0)))), (od, .inl (cD, 1, .inr (.inr (.inr (.inl (fun _ => 0)))))), (g0, .inr (15, [.int 1, .ref (bb 0), .ref (bb 1), .ref (bb 2), .ref (bb 3), .int 0, .long 0, .int 0, .int 0, .int 0, .int 0]))] := hD
  obtain rfl : r7 = 1 := hw
  refine lv_iload hx hb dL_law_1016 (lv_at hl 1 rfl) ?_
  refine lv_icmp_eq (tgt := 1023) hx hb dL_law_1018 (by decide) (fun _ => ?_) (fun c8 => absurd (by decide) c8)
  refine lv_iload hx hb dL_law_1023 (lv_at hl 1 rfl) ?_
  refine lv_if_ne (tgt := 1040) hx hb dL_law_1025 (by decide) (fun _ => ?_) (fun c9 => absurd c9 (by decide))
  refine lv_goto (tgt := 3259) hx hb dL_law_1040 (by decide) ?_
  exact zl_end C0 hA2 (Nat.le_of_ble_eq_true rfl) (Nat.le_of_ble_eq_true rfl) hS (lv_sub hl [7, 2] rfl)
theorem dL_law_1043 : decode cL_law 1043 = .ok (.aload_n 1, 1) := by decide +kernel
theorem dL_law_1044 : decode cL_law 1044 = .ok (.aload_n 0, 1) := by decide +kernel
theorem dL_law_1045 : decode cL_law 1045 = .ok (.iload 5, 2) := by decide +kernel
theorem dL_law_1047 : decode cL_law 1047 = .ok (.iconst 1, 1) := by decide +kernel
theorem dL_law_1048 : decode cL_law 1048 = .ok (.iadd, 1) := by decide +kernel
theorem dL_law_1049 : decode cL_law 1049 = .ok (.iaload, 1) := by decide +kernel
theorem dL_law_1050 : decode cL_law 1050 = .ok (.aload_n 0, 1) := by decide +kernel
theorem dL_law_1051 : decode cL_law 1051 = .ok (.iload 5, 2) := by decide +kernel
theorem dL_law_1053 : decode cL_law 1053 = .ok (.iconst 2, 1) := by decide +kernel
theorem dL_law_1054 : decode cL_law 1054 = .ok (.iadd, 1) := by decide +kernel
theorem dL_law_1055 : decode cL_law 1055 = .ok (.iaload, 1) := by decide +kernel
theorem dL_law_1056 : decode cL_law 1056 = .ok (.aload_n 3, 1) := by decide +kernel
theorem dL_law_1057 : decode cL_law 1057 = .ok (.invokestatic 221, 3) := by decide +kernel
theorem dL_law_1060 : decode cL_law 1060 = .ok (.istore 6, 2) := by decide +kernel
theorem dL_law_1062 : decode cL_law 1062 = .ok (.aload_n 2, 1) := by decide +kernel
theorem dL_law_1063 : decode cL_law 1063 = .ok (.aload_n 0, 1) := by decide +kernel
theorem dL_law_1064 : decode cL_law 1064 = .ok (.iload 5, 2) := by decide +kernel
theorem dL_law_1066 : decode cL_law 1066 = .ok (.iconst 1, 1) := by decide +kernel
theorem dL_law_1067 : decode cL_law 1067 = .ok (.iadd, 1) := by decide +kernel
theorem dL_law_1068 : decode cL_law 1068 = .ok (.iaload, 1) := by decide +kernel
theorem dL_law_1069 : decode cL_law 1069 = .ok (.aload_n 0, 1) := by decide +kernel
theorem dL_law_1070 : decode cL_law 1070 = .ok (.iload 5, 2) := by decide +kernel
theorem dL_law_1072 : decode cL_law 1072 = .ok (.iconst 2, 1) := by decide +kernel
theorem dL_law_1073 : decode cL_law 1073 = .ok (.iadd, 1) := by decide +kernel
theorem dL_law_1074 : decode cL_law 1074 = .ok (.iaload, 1) := by decide +kernel
theorem dL_law_1075 : decode cL_law 1075 = .ok (.invokevirtual 223, 3) := by decide +kernel
theorem dL_law_1078 : decode cL_law 1078 = .ok (.istore 7, 2) := by decide +kernel
theorem dL_law_1080 : decode cL_law 1080 = .ok (.aload_n 2, 1) := by decide +kernel
theorem dL_law_1081 : decode cL_law 1081 = .ok (.invokevirtual 183, 3) := by decide +kernel
theorem dL_law_1084 : decode cL_law 1084 = .ok (.iload 6, 2) := by decide +kernel
theorem dL_law_1086 : decode cL_law 1086 = .ok (.if_icmp .eq 5, 3) := by decide +kernel
theorem dL_law_1091 : decode cL_law 1091 = .ok (.iload 6, 2) := by decide +kernel
theorem dL_law_1093 : decode cL_law 1093 = .ok (.ifCond .ne 15, 3) := by decide +kernel
theorem dL_law_1108 : decode cL_law 1108 = .ok (.goto 2151, 3) := by decide +kernel
set_option maxHeartbeats 4000000 in
set_option maxRecDepth 100000 in
/-- camp, called on the two fresh objects -/
theorem zl_11 {p : Program} {l : Launch} {e : Env} {s : State} {m : MethodId} {below : List Frame} {meth : Method} {c : Code} {b : Nat} {xs : Nat → Int32} {A : Nat → Prop} (C0 : lw_At p s m meth c b 5 xs) (hA : ∀ q : Nat, s.heap.size ≤ q → A q) (hA2 : ∀ q : Nat, A q → s.heap.size ≤ q) (htr : l.stackTraces = false) (dC : Nat → ClassId) (dI : Nat → Nat → Nat) (e0 h0 g0 o od : Nat) (a bb : Nat → Nat) (cL cT cO cD : ClassId) (hE : zE e0 A s s.heap) (H : Heap) (locs : List Loc) (ls : Array Slot) (hK : va_K (dC, dI) vwCl [(cL, (.object RX1)), (cT, (.object RX5)), (cO, .long), (cD, .double)] s) (hP : va_P (dC, dI) vwCl [(h0, .inr (11, zC a)), ((a 0), .inl (cL, 10, .inr (.inr (.inr (.inr (fun _ => none)))))), ((a 3), .inl (cT, 6, .inr (.inr (.inr (.inr (fun _ => none)))))), (g0, .inr (15, zM 0 bb)), ((bb 0), .inr (4, [.int 0, .ref e0, .int 0])), ((bb 1), .inr (4, [.int 0, .ref e0, .int 0])), ((bb 2), .inr (4, [.int 0, .ref e0, .int 0])), ((bb 3), .inr (4, [.int 0, .ref e0, .int 0])), (o, .inl (cO, 1, .inr (.inl (fun _ => 0)))), (od, .inl (cD, 1, .inr (.inr (.inr (.inl (fun _ => 0))))))] H) (hD : va_D A [(h0, .inr (11, zC a)), ((a 0), .inl (cL, 10, .inr (.inr (.inr (.inr (fun _ => none)))))), ((a 3), .inl (cT, 6, .inr (.inr (.inr (.inr (fun _ => none)))))), (g0, .inr (15, zM 0 bb)), ((bb 0), .inr (4, [.int 0, .ref e0, .int 0])), ((bb 1), .inr (4, [.int 0, .ref e0, .int 0])), ((bb 2), .inr (4, [.int 0, .ref e0, .int 0])), ((bb 3), .inr (4, [.int 0, .ref e0, .int 0])), (o, .inl (cO, 1, .inr (.inl (fun _ => 0)))), (od, .inl (cD, 1, .inr (.inr (.inr (.inl (fun _ => 0))))))]) (hS : va_S A s.heap H locs) (hl : lv_has ls 9 [(0, .ref b), (1, .ref h0), (2, .ref g0), (3, .ref o), (4, .ref od), (5, .int 0)]) : W p l e room_1 s m #[Value.ref b] below meth c H locs (86) (1094) (lw_Z below #[Value.ref b] s) (F0 m 1043 ls []) := by
  obtain ⟨hx, hb, hr, hml, hown, ht0, hX, hbl, hlocks, hgv⟩ := id C0
  have hts := ht0
  have hbA : ¬ A b := fun h => absurd hbl (Nat.not_lt.mpr (hA2 b h))
  refine lv_aload_n hx hb dL_law_1043 rfl (lv_at hl 1 rfl) ?_
  refine lv_aload_n hx hb dL_law_1044 rfl (lv_at hl 0 rfl) ?_
  refine lv_iload hx hb dL_law_1045 (lv_at hl 5 rfl) ?_
  refine lv_iconst (v := 1) hx hb dL_law_1047 (by decide) ?_
  refine lv_iadd hx hb dL_law_1048 ?_
  refine lv_topi (fun y1 e2 => ?_)
  obtain rfl : y1 = 1 := e2.trans (by decide)
  refine va_sld hx hb hX hbl hbA hS (by unfold vp_in; decide) dL_law_1049 ?_
  refine lv_aload_n hx hb dL_law_1050 rfl (lv_at hl 0 rfl) ?_
  refine lv_iload hx hb dL_law_1051 (lv_at hl 5 rfl) ?_
  refine lv_iconst (v := 2) hx hb dL_law_1053 (by decide) ?_
  refine lv_iadd hx hb dL_law_1054 ?_
  refine lv_topi (fun y3 e4 => ?_)
  obtain rfl : y3 = 2 := e4.trans (by decide)
  refine va_sld hx hb hX hbl hbA hS (by unfold vp_in; decide) dL_law_1055 ?_
  refine lv_aload_n hx hb dL_law_1056 rfl (lv_at hl 3 rfl) ?_
  have hPc := hP.sub (ws' := [(h0, .inr (11, zC a))]) [0] rfl
  have hDc := hD.sub (ws' := [(h0, .inr (11, zC a))]) [0] (by decide) rfl
  have hKc := hK.sub (tys' := []) [] rfl
  have hFc := va_free (wc := [(h0, .inr (11, zC a))]) hD hS hA [0] rfl
  have hEc := (hE.kept hS.2.1).narrow hFc
  refine vx_calli (vx_runSX (As := [.ref h0, .int (xs (1 : Int32).toNatClampNeg), .int (xs (2 : Int32).toNatClampNeg), .ref o]) (rest := []) ⟨hx, hb, hml, hown, hts⟩ (c_L_camp l htr dC dI e0 H.size h0 a (xs (1 : Int32).toNatClampNeg) (xs (2 : Int32).toNatClampNeg) o) (vx_cwSW 4 hts gL_law_L_camp rfl rfl rfl (by decide +kernel) ⟨Nat.le_of_ble_eq_true rfl, Nat.le_of_ble_eq_true rfl⟩) ⟨fun a U g mk q => by obtain ⟨q0, q1, qP, qK, qD, qE⟩ := q; exact ⟨q0, q1, qP, va_K.moved (u := U) (U := U.calling g mk a) (Vm.Alike.refl U.vm) qK, qD, zE.same rfl qE⟩, fun U hU hW => ⟨rfl, by rw [hU], by rw [hU]; exact hPc, va_K.moved hW.alike hKc, hDc.weaken (fun _ _ _ _ => trivial), by rw [hU]; exact zE.warm hW hEc⟩⟩ rfl rfl hl.1 rfl (lv_room (Nat.le_of_ble_eq_true rfl)) dL_law_1057 ⟨Nat.le_of_ble_eq_true rfl, Nat.le_of_ble_eq_true rfl⟩) hS (fun q _ h => hFc q h) hFc (fun q _ h => hFc q h) (fun E ce q9 u t H1 locs1 ht hvm hpx hBX hz1 hk1 hS hce hcv hcl => absurd hpx id) (fun r5 u t H1 locs ht hvm hw hB hz1 hk1 hS => ?_)
  have hP1 : va_P (dC, dI) vwCl [] H1 := fun k q h => by simp at h
  have hD1 : va_D (va_A [(h0, .inr (11, zC a))] H.size) [] := ⟨fun i j p q h => by simp at h, fun k q h => by simp at h⟩
  obtain ⟨hP, hD⟩ := va_join (wr := [((a 0), .inl (cL, 10, .inr (.inr (.inr (.inr (fun _ => none)))))), ((a 3), .inl (cT, 6, .inr (.inr (.inr (.inr (fun _ => none)))))), (g0, .inr (15, zM 0 bb)), ((bb 0), .inr (4, [.int 0, .ref e0, .int 0])), ((bb 1), .inr (4, [.int 0, .ref e0, .int 0])), ((bb 2), .inr (4, [.int 0, .ref e0, .int 0])), ((bb 3), .inr (4, [.int 0, .ref e0, .int 0])), (o, .inl (cO, 1, .inr (.inl (fun _ => 0)))), (od, .inl (cD, 1, .inr (.inr (.inr (.inl (fun _ => 0))))))]) (w1 := []) hP hD [0] [1, 2, 3, 4, 5, 6, 7, 8, 9] rfl rfl (by decide) (by decide) hk1 hFc hP1 hD1
  generalize H1 = H at hP hS ⊢
  have hP : va_P (dC, dI) vwCl [((a 0), .inl (cL, 10, .inr (.inr (.inr (.inr (fun _ => none)))))), ((a 3), .inl (cT, 6, .inr (.inr (.inr (.inr (fun _ => none)))))), (g0, .inr (15, zM 0 bb)), ((bb 0), .inr (4, [.int 0, .ref e0, .int 0])), ((bb 1), .inr (4, [.int 0, .ref e0, .int 0])), ((bb 2), .inr (4, [.int 0, .ref e0, .int 0])), ((bb 3), .inr (4, [.int 0, .ref e0, .int 0])), (o, .inl (cO, 1, .inr (.inl (fun _ => 0)))), (od, .inl (cD, 1, .inr (.inr (.inr (.inl (fun _ => 0))))))] H := hP
  have hD : va_D A [((a 0), .inl (cL, 10, .inr (.inr (.inr (.inr (fun _ => none)))))), ((a 3), .inl (cT, 6, .inr (.inr (.inr (.inr (fun _ => none)))))), (g0, .inr (15, zM 0 bb)), ((bb 0), .inr (4, [.int 0, .ref e0, .int 0])), ((bb 1), .inr (4, [.int 0, .ref e0, .int 0])), ((bb 2), .inr (4, [.int 0, .ref e0, .int 0])), ((bb 3), .inr (4, [.int 0, .ref e0, .int 0])), (o, .inl (cO, 1, .inr (.inl (fun _ => 0)))), (od, .inl (cD, 1, .inr (.inr (.inr (.inl (fun _ => 0))))))] := hD
  obtain rfl : r5 = 1 := hw
  refine lv_istore (lv' := [(6, .int 1), (0, .ref b), (1, .ref h0), (2, .ref g0), (3, .ref o), (4, .ref od), (5, .int 0)]) hx hb dL_law_1060 hl (by decide) rfl (fun ls hl => ?_)
  refine lv_aload_n hx hb dL_law_1062 rfl (lv_at hl 3 rfl) ?_
  refine lv_aload_n hx hb dL_law_1063 rfl (lv_at hl 1 rfl) ?_
  refine lv_iload hx hb dL_law_1064 (lv_at hl 6 rfl) ?_
  refine lv_iconst (v := 1) hx hb dL_law_1066 (by decide) ?_
  refine lv_iadd hx hb dL_law_1067 ?_
  refine lv_topi (fun y6 e7 => ?_)
  obtain rfl : y6 = 1 := e7.trans (by decide)
  refine va_sld hx hb hX hbl hbA hS (by unfold vp_in; decide) dL_law_1068 ?_
  refine lv_aload_n hx hb dL_law_1069 rfl (lv_at hl 1 rfl) ?_
  refine lv_iload hx hb dL_law_1070 (lv_at hl 6 rfl) ?_
  refine lv_iconst (v := 2) hx hb dL_law_1072 (by decide) ?_
  refine lv_iadd hx hb dL_law_1073 ?_
  refine lv_topi (fun y8 e9 => ?_)
  obtain rfl : y8 = 2 := e9.trans (by decide)
  refine va_sld hx hb hX hbl hbA hS (by unfold vp_in; decide) dL_law_1074 ?_
  have hPc := hP.sub (ws' := [(g0, .inr (15, zM 0 bb)), ((bb 0), .inr (4, [.int 0, .ref e0, .int 0])), ((bb 1), .inr (4, [.int 0, .ref e0, .int 0])), ((bb 2), .inr (4, [.int 0, .ref e0, .int 0])), ((bb 3), .inr (4, [.int 0, .ref e0, .int 0]))]) [2, 3, 4, 5, 6] rfl
  have hDc := hD.sub (ws' := [(g0, .inr (15, zM 0 bb)), ((bb 0), .inr (4, [.int 0, .ref e0, .int 0])), ((bb 1), .inr (4, [.int 0, .ref e0, .int 0])), ((bb 2), .inr (4, [.int 0, .ref e0, .int 0])), ((bb 3), .inr (4, [.int 0, .ref e0, .int 0]))]) [2, 3, 4, 5, 6] (by decide) rfl
  have hKc := hK.sub (tys' := []) [] rfl
  have hFc := va_free (wc := [(g0, .inr (15, zM 0 bb)), ((bb 0), .inr (4, [.int 0, .ref e0, .int 0])), ((bb 1), .inr (4, [.int 0, .ref e0, .int 0])), ((bb 2), .inr (4, [.int 0, .ref e0, .int 0])), ((bb 3), .inr (4, [.int 0, .ref e0, .int 0]))]) hD hS hA [2, 3, 4, 5, 6] rfl
  have hEc := (hE.kept hS.2.1).narrow hFc
  refine va_calli (va_runV (As := [.int (xs (1 : Int32).toNatClampNeg), .int (xs (2 : Int32).toNatClampNeg)]) (rest := []) ⟨hx, hb, hml, hown, hts⟩ (c_X10_camp l htr dC dI e0 H.size g0 0 bb (xs (1 : Int32).toNatClampNeg) (xs (2 : Int32).toNatClampNeg)) (cwV 2 hts gL_law_X10_camp rfl rfl rfl (by decide +kernel) ⟨Nat.le_of_ble_eq_true rfl, Nat.le_of_ble_eq_true rfl⟩) ⟨fun a U g mk q => by obtain ⟨q0, q1, qP, qK, qD, qE⟩ := q; exact ⟨q0, q1, qP, va_K.moved (u := U) (U := U.calling g mk a) (Vm.Alike.refl U.vm) qK, qD, zE.same rfl qE⟩, va_recv hKc hPc (ci := 15) (q0 := 0) rfl rfl, fun U hU hW => ⟨rfl, by rw [hU], by rw [hU]; exact hPc, va_K.moved hW.alike hKc, hDc.weaken (fun _ _ _ _ => trivial), by rw [hU]; exact zE.warm hW hEc⟩⟩ rfl rfl hl.1 rfl (lv_room (Nat.le_of_ble_eq_true rfl)) dL_law_1075 ⟨Nat.le_of_ble_eq_true rfl, Nat.le_of_ble_eq_true rfl⟩) hS (fun q _ h => hFc q h) hFc (fun r10 u t H1 locs ht hvm hw hB hz1 hk1 hS => ?_)
  obtain ⟨hP1, hK1, hD1⟩ := hB
  rw [ht] at hP1
  obtain ⟨hP, hD⟩ := va_join (wr := [((a 0), .inl (cL, 10, .inr (.inr (.inr (.inr (fun _ => none)))))), ((a 3), .inl (cT, 6, .inr (.inr (.inr (.inr (fun _ => none)))))), (o, .inl (cO, 1, .inr (.inl (fun _ => 0)))), (od, .inl (cD, 1, .inr (.inr (.inr (.inl (fun _ => 0))))))]) (w1 := [(g0, .inr (15, zM 1 bb))]) hP hD [2, 3, 4, 5, 6] [0, 1, 7, 8] rfl rfl (by decide) (by decide) hk1 hFc hP1 hD1
  generalize H1 = H at hP hS ⊢
  have hP : va_P (dC, dI) vwCl [((a 0), .inl (cL, 10, .inr (.inr (.inr (.inr (fun _ => none)))))), ((a 3), .inl (cT, 6, .inr (.inr (.inr (.inr (fun _ => none)))))), (o, .inl (cO, 1, .inr (.inl (fun _ => 0)))), (od, .inl (cD, 1, .inr (.inr (.inr (.inl (fun _ => 0)))))), (g0, .inr (15, zM 1 bb))] H := hP
  have hD : va_D A [((a 0), .inl (cL, 10, .inr (.inr (.inr (.inr (fun _ => none)))))), ((a 3), .inl (cT, 6, .inr (.inr (.inr (.inr (fun _ => none)))))), (o, .inl (cO, 1, .inr (.inl (fun _ => 0)))), (od, .inl (cD, 1, .inr (.inr (.inr (.inl (fun _ => 0)))))), (g0, .inr (15, zM 1 bb))] := hD
  obtain rfl : r10 = 0 := hw
  refine lv_istore (lv' := [(7, .int 0), (6, .int 1), (0, .ref b), (1, .ref h0), (2, .ref g0), (3, .ref o), (4, .ref od), (5, .int 0)]) hx hb dL_law_1078 hl (by decide) rfl (fun ls hl => ?_)
  refine lv_aload_n hx hb dL_law_1080 rfl (lv_at hl 4 rfl) ?_
  have hPc := hP.sub (ws' := [(g0, .inr (15, [.int 1, .ref (bb 0), .ref (bb 1), .ref (bb 2), .ref (bb 3), .int 0, .long 0, .int 0, .int 0, .int 0, .int 0]))]) [4] rfl
  have hDc := hD.sub (ws' := [(g0, .inr (15, [.int 1, .ref (bb 0), .ref (bb 1), .ref (bb 2), .ref (bb 3), .int 0, .long 0, .int 0, .int 0, .int 0, .int 0]))]) [4] (by decide) rfl
  have hKc := hK.sub (tys' := []) [] rfl
  have hFc := va_free (wc := [(g0, .inr (15, [.int 1, .ref (bb 0), .ref (bb 1), .ref (bb 2), .ref (bb 3), .int 0, .long 0, .int 0, .int 0, .int 0, .int 0]))]) hD hS hA [4] rfl
  refine va_calli (va_runV (As := []) (rest := []) ⟨hx, hb, hml, hown, hts⟩ (c_X10_thrown l htr dC dI e0 H.size g0 1 (bb 0) (bb 1) (bb 2) (bb 3) 0 0 0 0 0 0) (cwV 0 hts gL_law_X10_thrown rfl rfl rfl (by decide +kernel) ⟨Nat.le_of_ble_eq_true rfl, Nat.le_of_ble_eq_true rfl⟩) ⟨fun a U g mk q => by obtain ⟨q0, q1, qP, qK, qD⟩ := q; exact ⟨q0, q1, qP, va_K.moved (u := U) (U := U.calling g mk a) (Vm.Alike.refl U.vm) qK, qD⟩, va_recv hKc hPc (ci := 15) (q0 := 0) rfl rfl, fun U hU hW => ⟨rfl, by rw [hU], by rw [hU]; exact hPc, va_K.moved hW.alike hKc, hDc.weaken (fun _ _ _ _ => trivial)⟩⟩ rfl rfl hl.1 rfl (lv_room (Nat.le_of_ble_eq_true rfl)) dL_law_1081 ⟨Nat.le_of_ble_eq_true rfl, Nat.le_of_ble_eq_true rfl⟩) hS (fun q _ h => hFc q h) hFc (fun r11 u t H1 locs ht hvm hw hB hz1 hk1 hS => ?_)
  obtain ⟨hP1, hK1, hD1⟩ := hB
  rw [ht] at hP1
  obtain ⟨hP, hD⟩ := va_join (wr := [((a 0), .inl (cL, 10, .inr (.inr (.inr (.inr (fun _ => none)))))), ((a 3), .inl (cT, 6, .inr (.inr (.inr (.inr (fun _ => none)))))), (o, .inl (cO, 1, .inr (.inl (fun _ => 0)))), (od, .inl (cD, 1, .inr (.inr (.inr (.inl (fun _ => 0))))))]) (w1 := [(g0, .inr (15, [.int 1, .ref (bb 0), .ref (bb 1), .ref (bb 2), .ref (bb 3), .int 0, .long 0, .int 0, .int 0, .int 0, .int 0]))]) hP hD [4] [0, 1, 2, 3] rfl rfl (by decide) (by decide) hk1 hFc hP1 hD1
  generalize H1 = H at hP hS ⊢
  have hP : va_P (dC, dI) vwCl [((a 0), .inl (cL, 10, .inr (.inr (.inr (.inr (fun _ => none)))))), ((a 3), .inl (cT, 6, .inr (.inr (.inr (.inr (fun _ => none)))))), (o, .inl (cO, 1, .inr (.inl (fun _ => 0)))), (od, .inl (cD, 1, .inr (.inr (.inr (.inl (fun _ => 0)))))), (g0, .inr (15, [.int 1, .ref (bb 0), .ref (bb 1), .ref (bb 2), .ref (bb 3), .int 0, .long 0, .int 0, .int 0, .int 0, .int 0]))] H := hP
  have hD : va_D A [((a 0), .inl (cL, 10, .inr (.inr (.inr (.inr (fun _ => none)))))), ((a 3), .inl (cT, 6, .inr (.inr (.inr (.inr (fun _ => none)))))), (o, .inl (cO, 1, .inr (.inl (fun _ => 0)))), (od, .inl (cD, 1, .inr (.inr (.inr (.inl (fun _ => 0)))))), (g0, .inr (15, [.int 1, .ref (bb 0), .ref (bb 1), .ref (bb 2), .ref (bb 3), .int 0, .long 0, .int 0, .int 0, .int 0, .int 0]))] := hD
  obtain rfl : r11 = 1 := hw
  refine lv_iload hx hb dL_law_1084 (lv_at hl 1 rfl) ?_
  refine lv_icmp_eq (tgt := 1091) hx hb dL_law_1086 (by decide) (fun _ => ?_) (fun c12 => absurd (by decide) c12)
  refine lv_iload hx hb dL_law_1091 (lv_at hl 1 rfl) ?_
  refine lv_if_ne (tgt := 1108) hx hb dL_law_1093 (by decide) (fun _ => ?_) (fun c13 => absurd c13 (by decide))
  refine lv_goto (tgt := 3259) hx hb dL_law_1108 (by decide) ?_
  exact zl_end C0 hA2 (Nat.le_of_ble_eq_true rfl) (Nat.le_of_ble_eq_true rfl) hS (lv_sub hl [7, 2] rfl)
theorem dL_law_1111 : decode cL_law 1111 = .ok (.aload_n 1, 1) := by decide +kernel
theorem dL_law_1112 : decode cL_law 1112 = .ok (.aload_n 0, 1) := by decide +kernel
theorem dL_law_1113 : decode cL_law 1113 = .ok (.iload 5, 2) := by decide +kernel
theorem dL_law_1115 : decode cL_law 1115 = .ok (.iconst 1, 1) := by decide +kernel
theorem dL_law_1116 : decode cL_law 1116 = .ok (.iadd, 1) := by decide +kernel
theorem dL_law_1117 : decode cL_law 1117 = .ok (.iaload, 1) := by decide +kernel
theorem dL_law_1118 : decode cL_law 1118 = .ok (.aload_n 3, 1) := by decide +kernel
theorem dL_law_1119 : decode cL_law 1119 = .ok (.invokestatic 224, 3) := by decide +kernel
theorem dL_law_1122 : decode cL_law 1122 = .ok (.istore 6, 2) := by decide +kernel
theorem dL_law_1124 : decode cL_law 1124 = .ok (.aload_n 2, 1) := by decide +kernel
theorem dL_law_1125 : decode cL_law 1125 = .ok (.aload_n 0, 1) := by decide +kernel
theorem dL_law_1126 : decode cL_law 1126 = .ok (.iload 5, 2) := by decide +kernel
theorem dL_law_1128 : decode cL_law 1128 = .ok (.iconst 1, 1) := by decide +kernel
theorem dL_law_1129 : decode cL_law 1129 = .ok (.iadd, 1) := by decide +kernel
theorem dL_law_1130 : decode cL_law 1130 = .ok (.iaload, 1) := by decide +kernel
theorem dL_law_1131 : decode cL_law 1131 = .ok (.invokevirtual 226, 3) := by decide +kernel
theorem dL_law_1134 : decode cL_law 1134 = .ok (.istore 7, 2) := by decide +kernel
theorem dL_law_1136 : decode cL_law 1136 = .ok (.aload_n 2, 1) := by decide +kernel
theorem dL_law_1137 : decode cL_law 1137 = .ok (.invokevirtual 183, 3) := by decide +kernel
theorem dL_law_1140 : decode cL_law 1140 = .ok (.iload 6, 2) := by decide +kernel
theorem dL_law_1142 : decode cL_law 1142 = .ok (.if_icmp .eq 5, 3) := by decide +kernel
theorem dL_law_1147 : decode cL_law 1147 = .ok (.iload 6, 2) := by decide +kernel
theorem dL_law_1149 : decode cL_law 1149 = .ok (.ifCond .ne 15, 3) := by decide +kernel
theorem dL_law_1164 : decode cL_law 1164 = .ok (.goto 2095, 3) := by decide +kernel
set_option maxHeartbeats 4000000 in
set_option maxRecDepth 100000 in
/-- restLong, called on the two fresh objects -/
theorem zl_12 {p : Program} {l : Launch} {e : Env} {s : State} {m : MethodId} {below : List Frame} {meth : Method} {c : Code} {b : Nat} {xs : Nat → Int32} {A : Nat → Prop} (C0 : lw_At p s m meth c b 5 xs) (hA : ∀ q : Nat, s.heap.size ≤ q → A q) (hA2 : ∀ q : Nat, A q → s.heap.size ≤ q) (htr : l.stackTraces = false) (dC : Nat → ClassId) (dI : Nat → Nat → Nat) (e0 h0 g0 o od : Nat) (a bb : Nat → Nat) (cL cT cO cD : ClassId) (hE : zE e0 A s s.heap) (H : Heap) (locs : List Loc) (ls : Array Slot) (hK : va_K (dC, dI) vwCl [(cL, (.object RX1)), (cT, (.object RX5)), (cO, .long), (cD, .double)] s) (hP : va_P (dC, dI) vwCl [(h0, .inr (11, zC a)), ((a 0), .inl (cL, 10, .inr (.inr (.inr (.inr (fun _ => none)))))), ((a 3), .inl (cT, 6, .inr (.inr (.inr (.inr (fun _ => none)))))), (g0, .inr (15, zM 0 bb)), ((bb 0), .inr (4, [.int 0, .ref e0, .int 0])), ((bb 1), .inr (4, [.int 0, .ref e0, .int 0])), ((bb 2), .inr (4, [.int 0, .ref e0, .int 0])), ((bb 3), .inr (4, [.int 0, .ref e0, .int 0])), (o, .inl (cO, 1, .inr (.inl (fun _ => 0)))), (od, .inl (cD, 1, .inr (.inr (.inr (.inl (fun _ => 0))))))] H) (hD : va_D A [(h0, .inr (11, zC a)), ((a 0), .inl (cL, 10, .inr (.inr (.inr (.inr (fun _ => none)))))), ((a 3), .inl (cT, 6, .inr (.inr (.inr (.inr (fun _ => none)))))), (g0, .inr (15, zM 0 bb)), ((bb 0), .inr (4, [.int 0, .ref e0, .int 0])), ((bb 1), .inr (4, [.int 0, .ref e0, .int 0])), ((bb 2), .inr (4, [.int 0, .ref e0, .int 0])), ((bb 3), .inr (4, [.int 0, .ref e0, .int 0])), (o, .inl (cO, 1, .inr (.inl (fun _ => 0)))), (od, .inl (cD, 1, .inr (.inr (.inr (.inl (fun _ => 0))))))]) (hS : va_S A s.heap H locs) (hl : lv_has ls 9 [(0, .ref b), (1, .ref h0), (2, .ref g0), (3, .ref o), (4, .ref od), (5, .int 0)]) : W p l e room_1 s m #[Value.ref b] below meth c H locs (86) (1094) (lw_Z below #[Value.ref b] s) (F0 m 1111 ls []) := by
  obtain ⟨hx, hb, hr, hml, hown, ht0, hX, hbl, hlocks, hgv⟩ := id C0
  have hts := ht0
  have hbA : ¬ A b := fun h => absurd hbl (Nat.not_lt.mpr (hA2 b h))
  refine lv_aload_n hx hb dL_law_1111 rfl (lv_at hl 1 rfl) ?_
  refine lv_aload_n hx hb dL_law_1112 rfl (lv_at hl 0 rfl) ?_
  refine lv_iload hx hb dL_law_1113 (lv_at hl 5 rfl) ?_
  refine lv_iconst (v := 1) hx hb dL_law_1115 (by decide) ?_
  refine lv_iadd hx hb dL_law_1116 ?_
  refine lv_topi (fun y1 e2 => ?_)
  obtain rfl : y1 = 1 := e2.trans (by decide)
  refine va_sld hx hb hX hbl hbA hS (by unfold vp_in; decide) dL_law_1117 ?_
  refine lv_aload_n hx hb dL_law_1118 rfl (lv_at hl 3 rfl) ?_
  have hPc := hP.sub (ws' := [(h0, .inr (11, zC a))]) [0] rfl
  have hDc := hD.sub (ws' := [(h0, .inr (11, zC a))]) [0] (by decide) rfl
  have hKc := hK.sub (tys' := []) [] rfl
  have hFc := va_free (wc := [(h0, .inr (11, zC a))]) hD hS hA [0] rfl
  have hEc := (hE.kept hS.2.1).narrow hFc
  refine vx_calli (vx_runSX (As := [.ref h0, .int (xs (1 : Int32).toNatClampNeg), .ref o]) (rest := []) ⟨hx, hb, hml, hown, hts⟩ (c_L_restLong l htr dC dI e0 H.size h0 a (xs (1 : Int32).toNatClampNeg) o) (vx_cwSW 3 hts gL_law_L_restLong rfl rfl rfl (by decide +kernel) ⟨Nat.le_of_ble_eq_true rfl, Nat.le_of_ble_eq_true rfl⟩) ⟨fun a U g mk q => by obtain ⟨q0, q1, qP, qK, qD, qE⟩ := q; exact ⟨q0, q1, qP, va_K.moved (u := U) (U := U.calling g mk a) (Vm.Alike.refl U.vm) qK, qD, zE.same rfl qE⟩, fun U hU hW => ⟨rfl, by rw [hU], by rw [hU]; exact hPc, va_K.moved hW.alike hKc, hDc.weaken (fun _ _ _ _ => trivial), by rw [hU]; exact zE.warm hW hEc⟩⟩ rfl rfl hl.1 rfl (lv_room (Nat.le_of_ble_eq_true rfl)) dL_law_1119 ⟨Nat.le_of_ble_eq_true rfl, Nat.le_of_ble_eq_true rfl⟩) hS (fun q _ h => hFc q h) hFc (fun q _ h => hFc q h) (fun E ce q9 u t H1 locs1 ht hvm hpx hBX hz1 hk1 hS hce hcv hcl => absurd hpx id) (fun r3 u t H1 locs ht hvm hw hB hz1 hk1 hS => ?_)
  have hP1 : va_P (dC, dI) vwCl [] H1 := fun k q h => by simp at h
  have hD1 : va_D (va_A [(h0, .inr (11, zC a))] H.size) [] := ⟨fun i j p q h => by simp at h, fun k q h => by simp at h⟩
  obtain ⟨hP, hD⟩ := va_join (wr := [((a 0), .inl (cL, 10, .inr (.inr (.inr (.inr (fun _ => none)))))), ((a 3), .inl (cT, 6, .inr (.inr (.inr (.inr (fun _ => none)))))), (g0, .inr (15, zM 0 bb)), ((bb 0), .inr (4, [.int 0, .ref e0, .int 0])), ((bb 1), .inr (4, [.int 0, .ref e0, .int 0])), ((bb 2), .inr (4, [.int 0, .ref e0, .int 0])), ((bb 3), .inr (4, [.int 0, .ref e0, .int 0])), (o, .inl (cO, 1, .inr (.inl (fun _ => 0)))), (od, .inl (cD, 1, .inr (.inr (.inr (.inl (fun _ => 0))))))]) (w1 := []) hP hD [0] [1, 2, 3, 4, 5, 6, 7, 8, 9] rfl rfl (by decide) (by decide) hk1 hFc hP1 hD1
  generalize H1 = H at hP hS ⊢
  have hP : va_P (dC, dI) vwCl [((a 0), .inl (cL, 10, .inr (.inr (.inr (.inr (fun _ => none)))))), ((a 3), .inl (cT, 6, .inr (.inr (.inr (.inr (fun _ => none)))))), (g0, .inr (15, zM 0 bb)), ((bb 0), .inr (4, [.int 0, .ref e0, .int 0])), ((bb 1), .inr (4, [.int 0, .ref e0, .int 0])), ((bb 2), .inr (4, [.int 0, .ref e0, .int 0])), ((bb 3), .inr (4, [.int 0, .ref e0, .int 0])), (o, .inl (cO, 1, .inr (.inl (fun _ => 0)))), (od, .inl (cD, 1, .inr (.inr (.inr (.inl (fun _ => 0))))))] H := hP
  have hD : va_D A [((a 0), .inl (cL, 10, .inr (.inr (.inr (.inr (fun _ => none)))))), ((a 3), .inl (cT, 6, .inr (.inr (.inr (.inr (fun _ => none)))))), (g0, .inr (15, zM 0 bb)), ((bb 0), .inr (4, [.int 0, .ref e0, .int 0])), ((bb 1), .inr (4, [.int 0, .ref e0, .int 0])), ((bb 2), .inr (4, [.int 0, .ref e0, .int 0])), ((bb 3), .inr (4, [.int 0, .ref e0, .int 0])), (o, .inl (cO, 1, .inr (.inl (fun _ => 0)))), (od, .inl (cD, 1, .inr (.inr (.inr (.inl (fun _ => 0))))))] := hD
  obtain rfl : r3 = 1 := hw
  refine lv_istore (lv' := [(6, .int 1), (0, .ref b), (1, .ref h0), (2, .ref g0), (3, .ref o), (4, .ref od), (5, .int 0)]) hx hb dL_law_1122 hl (by decide) rfl (fun ls hl => ?_)
  refine lv_aload_n hx hb dL_law_1124 rfl (lv_at hl 3 rfl) ?_
  refine lv_aload_n hx hb dL_law_1125 rfl (lv_at hl 1 rfl) ?_
  refine lv_iload hx hb dL_law_1126 (lv_at hl 6 rfl) ?_
  refine lv_iconst (v := 1) hx hb dL_law_1128 (by decide) ?_
  refine lv_iadd hx hb dL_law_1129 ?_
  refine lv_topi (fun y4 e5 => ?_)
  obtain rfl : y4 = 1 := e5.trans (by decide)
  refine va_sld hx hb hX hbl hbA hS (by unfold vp_in; decide) dL_law_1130 ?_
  have hPc := hP.sub (ws' := [(g0, .inr (15, zM 0 bb)), ((bb 0), .inr (4, [.int 0, .ref e0, .int 0])), ((bb 1), .inr (4, [.int 0, .ref e0, .int 0])), ((bb 2), .inr (4, [.int 0, .ref e0, .int 0])), ((bb 3), .inr (4, [.int 0, .ref e0, .int 0]))]) [2, 3, 4, 5, 6] rfl
  have hDc := hD.sub (ws' := [(g0, .inr (15, zM 0 bb)), ((bb 0), .inr (4, [.int 0, .ref e0, .int 0])), ((bb 1), .inr (4, [.int 0, .ref e0, .int 0])), ((bb 2), .inr (4, [.int 0, .ref e0, .int 0])), ((bb 3), .inr (4, [.int 0, .ref e0, .int 0]))]) [2, 3, 4, 5, 6] (by decide) rfl
  have hKc := hK.sub (tys' := []) [] rfl
  have hFc := va_free (wc := [(g0, .inr (15, zM 0 bb)), ((bb 0), .inr (4, [.int 0, .ref e0, .int 0])), ((bb 1), .inr (4, [.int 0, .ref e0, .int 0])), ((bb 2), .inr (4, [.int 0, .ref e0, .int 0])), ((bb 3), .inr (4, [.int 0, .ref e0, .int 0]))]) hD hS hA [2, 3, 4, 5, 6] rfl
  have hEc := (hE.kept hS.2.1).narrow hFc
  refine va_calli (va_runV (As := [.int (xs (1 : Int32).toNatClampNeg)]) (rest := []) ⟨hx, hb, hml, hown, hts⟩ (c_X10_restLong l htr dC dI e0 H.size g0 0 bb (xs (1 : Int32).toNatClampNeg)) (cwV 1 hts gL_law_X10_restLong rfl rfl rfl (by decide +kernel) ⟨Nat.le_of_ble_eq_true rfl, Nat.le_of_ble_eq_true rfl⟩) ⟨fun a U g mk q => by obtain ⟨q0, q1, qP, qK, qD, qE⟩ := q; exact ⟨q0, q1, qP, va_K.moved (u := U) (U := U.calling g mk a) (Vm.Alike.refl U.vm) qK, qD, zE.same rfl qE⟩, va_recv hKc hPc (ci := 15) (q0 := 0) rfl rfl, fun U hU hW => ⟨rfl, by rw [hU], by rw [hU]; exact hPc, va_K.moved hW.alike hKc, hDc.weaken (fun _ _ _ _ => trivial), by rw [hU]; exact zE.warm hW hEc⟩⟩ rfl rfl hl.1 rfl (lv_room (Nat.le_of_ble_eq_true rfl)) dL_law_1131 ⟨Nat.le_of_ble_eq_true rfl, Nat.le_of_ble_eq_true rfl⟩) hS (fun q _ h => hFc q h) hFc (fun r6 u t H1 locs ht hvm hw hB hz1 hk1 hS => ?_)
  obtain ⟨hP1, hK1, hD1⟩ := hB
  rw [ht] at hP1
  obtain ⟨hP, hD⟩ := va_join (wr := [((a 0), .inl (cL, 10, .inr (.inr (.inr (.inr (fun _ => none)))))), ((a 3), .inl (cT, 6, .inr (.inr (.inr (.inr (fun _ => none)))))), (o, .inl (cO, 1, .inr (.inl (fun _ => 0)))), (od, .inl (cD, 1, .inr (.inr (.inr (.inl (fun _ => 0))))))]) (w1 := [(g0, .inr (15, zM 1 bb))]) hP hD [2, 3, 4, 5, 6] [0, 1, 7, 8] rfl rfl (by decide) (by decide) hk1 hFc hP1 hD1
  generalize H1 = H at hP hS ⊢
  have hP : va_P (dC, dI) vwCl [((a 0), .inl (cL, 10, .inr (.inr (.inr (.inr (fun _ => none)))))), ((a 3), .inl (cT, 6, .inr (.inr (.inr (.inr (fun _ => none)))))), (o, .inl (cO, 1, .inr (.inl (fun _ => 0)))), (od, .inl (cD, 1, .inr (.inr (.inr (.inl (fun _ => 0)))))), (g0, .inr (15, zM 1 bb))] H := hP
  have hD : va_D A [((a 0), .inl (cL, 10, .inr (.inr (.inr (.inr (fun _ => none)))))), ((a 3), .inl (cT, 6, .inr (.inr (.inr (.inr (fun _ => none)))))), (o, .inl (cO, 1, .inr (.inl (fun _ => 0)))), (od, .inl (cD, 1, .inr (.inr (.inr (.inl (fun _ => 0)))))), (g0, .inr (15, zM 1 bb))] := hD
  obtain rfl : r6 = 0 := hw
  refine lv_istore (lv' := [(7, .int 0), (6, .int 1), (0, .ref b), (1, .ref h0), (2, .ref g0), (3, .ref o), (4, .ref od), (5, .int 0)]) hx hb dL_law_1134 hl (by decide) rfl (fun ls hl => ?_)
  refine lv_aload_n hx hb dL_law_1136 rfl (lv_at hl 4 rfl) ?_
  have hPc := hP.sub (ws' := [(g0, .inr (15, [.int 1, .ref (bb 0), .ref (bb 1), .ref (bb 2), .ref (bb 3), .int 0, .long 0, .int 0, .int 0, .int 0, .int 0]))]) [4] rfl
  have hDc := hD.sub (ws' := [(g0, .inr (15, [.int 1, .ref (bb 0), .ref (bb 1), .ref (bb 2), .ref (bb 3), .int 0, .long 0, .int 0, .int 0, .int 0, .int 0]))]) [4] (by decide) rfl
  have hKc := hK.sub (tys' := []) [] rfl
  have hFc := va_free (wc := [(g0, .inr (15, [.int 1, .ref (bb 0), .ref (bb 1), .ref (bb 2), .ref (bb 3), .int 0, .long 0, .int 0, .int 0, .int 0, .int 0]))]) hD hS hA [4] rfl
  refine va_calli (va_runV (As := []) (rest := []) ⟨hx, hb, hml, hown, hts⟩ (c_X10_thrown l htr dC dI e0 H.size g0 1 (bb 0) (bb 1) (bb 2) (bb 3) 0 0 0 0 0 0) (cwV 0 hts gL_law_X10_thrown rfl rfl rfl (by decide +kernel) ⟨Nat.le_of_ble_eq_true rfl, Nat.le_of_ble_eq_true rfl⟩) ⟨fun a U g mk q => by obtain ⟨q0, q1, qP, qK, qD⟩ := q; exact ⟨q0, q1, qP, va_K.moved (u := U) (U := U.calling g mk a) (Vm.Alike.refl U.vm) qK, qD⟩, va_recv hKc hPc (ci := 15) (q0 := 0) rfl rfl, fun U hU hW => ⟨rfl, by rw [hU], by rw [hU]; exact hPc, va_K.moved hW.alike hKc, hDc.weaken (fun _ _ _ _ => trivial)⟩⟩ rfl rfl hl.1 rfl (lv_room (Nat.le_of_ble_eq_true rfl)) dL_law_1137 ⟨Nat.le_of_ble_eq_true rfl, Nat.le_of_ble_eq_true rfl⟩) hS (fun q _ h => hFc q h) hFc (fun r7 u t H1 locs ht hvm hw hB hz1 hk1 hS => ?_)
  obtain ⟨hP1, hK1, hD1⟩ := hB
  rw [ht] at hP1
  obtain ⟨hP, hD⟩ := va_join (wr := [((a 0), .inl (cL, 10, .inr (.inr (.inr (.inr (fun _ => none)))))), ((a 3), .inl (cT, 6, .inr (.inr (.inr (.inr (fun _ => none)))))), (o, .inl (cO, 1, .inr (.inl (fun _ => 0)))), (od, .inl (cD, 1, .inr (.inr (.inr (.inl (fun _ => 0))))))]) (w1 := [(g0, .inr (15, [.int 1, .ref (bb 0), .ref (bb 1), .ref (bb 2), .ref (bb 3), .int 0, .long 0, .int 0, .int 0, .int 0, .int 0]))]) hP hD [4] [0, 1, 2, 3] rfl rfl (by decide) (by decide) hk1 hFc hP1 hD1
  generalize H1 = H at hP hS ⊢
  have hP : va_P (dC, dI) vwCl [((a 0), .inl (cL, 10, .inr (.inr (.inr (.inr (fun _ => none)))))), ((a 3), .inl (cT, 6, .inr (.inr (.inr (.inr (fun _ => none)))))), (o, .inl (cO, 1, .inr (.inl (fun _ => 0)))), (od, .inl (cD, 1, .inr (.inr (.inr (.inl (fun _ => 0)))))), (g0, .inr (15, [.int 1, .ref (bb 0), .ref (bb 1), .ref (bb 2), .ref (bb 3), .int 0, .long 0, .int 0, .int 0, .int 0, .int 0]))] H := hP
  have hD : va_D A [((a 0), .inl (cL, 10, .inr (.inr (.inr (.inr (fun _ => none)))))), ((a 3), .inl (cT, 6, .inr (.inr (.inr (.inr (fun _ => none)))))), (o, .inl (cO, 1, .inr (.inl (fun _ => 0)))), (od, .inl (cD, 1, .inr (.inr (.inr (.inl (fun _ => 0)))))), (g0, .inr (15, [.int 1, .ref (bb 0), .ref (bb 1), .ref (bb 2), .ref (bb 3), .int 0, .long 0, .int 0, .int 0, .int 0, .int 0]))] := hD
  obtain rfl : r7 = 1 := hw
  refine lv_iload hx hb dL_law_1140 (lv_at hl 1 rfl) ?_
  refine lv_icmp_eq (tgt := 1147) hx hb dL_law_1142 (by decide) (fun _ => ?_) (fun c8 => absurd (by decide) c8)
  refine lv_iload hx hb dL_law_1147 (lv_at hl 1 rfl) ?_
  refine lv_if_ne (tgt := 1164) hx hb dL_law_1149 (by decide) (fun _ => ?_) (fun c9 => absurd c9 (by decide))
  refine lv_goto (tgt := 3259) hx hb dL_law_1164 (by decide) ?_
  exact zl_end C0 hA2 (Nat.le_of_ble_eq_true rfl) (Nat.le_of_ble_eq_true rfl) hS (lv_sub hl [7, 2] rfl)
theorem dL_law_1167 : decode cL_law 1167 = .ok (.aload_n 1, 1) := by decide +kernel
theorem dL_law_1168 : decode cL_law 1168 = .ok (.aload_n 0, 1) := by decide +kernel
theorem dL_law_1169 : decode cL_law 1169 = .ok (.iload 5, 2) := by decide +kernel
theorem dL_law_1171 : decode cL_law 1171 = .ok (.iconst 1, 1) := by decide +kernel
theorem dL_law_1172 : decode cL_law 1172 = .ok (.iadd, 1) := by decide +kernel
theorem dL_law_1173 : decode cL_law 1173 = .ok (.iaload, 1) := by decide +kernel
theorem dL_law_1174 : decode cL_law 1174 = .ok (.aload_n 3, 1) := by decide +kernel
theorem dL_law_1175 : decode cL_law 1175 = .ok (.invokestatic 227, 3) := by decide +kernel
theorem dL_law_1178 : decode cL_law 1178 = .ok (.istore 6, 2) := by decide +kernel
theorem dL_law_1180 : decode cL_law 1180 = .ok (.aload_n 2, 1) := by decide +kernel
theorem dL_law_1181 : decode cL_law 1181 = .ok (.aload_n 0, 1) := by decide +kernel
theorem dL_law_1182 : decode cL_law 1182 = .ok (.iload 5, 2) := by decide +kernel
theorem dL_law_1184 : decode cL_law 1184 = .ok (.iconst 1, 1) := by decide +kernel
theorem dL_law_1185 : decode cL_law 1185 = .ok (.iadd, 1) := by decide +kernel
theorem dL_law_1186 : decode cL_law 1186 = .ok (.iaload, 1) := by decide +kernel
theorem dL_law_1187 : decode cL_law 1187 = .ok (.invokevirtual 229, 3) := by decide +kernel
theorem dL_law_1190 : decode cL_law 1190 = .ok (.istore 7, 2) := by decide +kernel
theorem dL_law_1192 : decode cL_law 1192 = .ok (.aload_n 2, 1) := by decide +kernel
theorem dL_law_1193 : decode cL_law 1193 = .ok (.invokevirtual 183, 3) := by decide +kernel
theorem dL_law_1196 : decode cL_law 1196 = .ok (.iload 6, 2) := by decide +kernel
theorem dL_law_1198 : decode cL_law 1198 = .ok (.if_icmp .eq 5, 3) := by decide +kernel
theorem dL_law_1203 : decode cL_law 1203 = .ok (.iload 6, 2) := by decide +kernel
theorem dL_law_1205 : decode cL_law 1205 = .ok (.ifCond .ne 15, 3) := by decide +kernel
theorem dL_law_1220 : decode cL_law 1220 = .ok (.goto 2039, 3) := by decide +kernel
set_option maxHeartbeats 4000000 in
set_option maxRecDepth 100000 in
/-- restMust, called on the two fresh objects -/
theorem zl_13 {p : Program} {l : Launch} {e : Env} {s : State} {m : MethodId} {below : List Frame} {meth : Method} {c : Code} {b : Nat} {xs : Nat → Int32} {A : Nat → Prop} (C0 : lw_At p s m meth c b 5 xs) (hA : ∀ q : Nat, s.heap.size ≤ q → A q) (hA2 : ∀ q : Nat, A q → s.heap.size ≤ q) (htr : l.stackTraces = false) (dC : Nat → ClassId) (dI : Nat → Nat → Nat) (e0 h0 g0 o od : Nat) (a bb : Nat → Nat) (cL cT cO cD : ClassId) (hE : zE e0 A s s.heap) (H : Heap) (locs : List Loc) (ls : Array Slot) (hK : va_K (dC, dI) vwCl [(cL, (.object RX1)), (cT, (.object RX5)), (cO, .long), (cD, .double)] s) (hP : va_P (dC, dI) vwCl [(h0, .inr (11, zC a)), ((a 0), .inl (cL, 10, .inr (.inr (.inr (.inr (fun _ => none)))))), ((a 3), .inl (cT, 6, .inr (.inr (.inr (.inr (fun _ => none)))))), (g0, .inr (15, zM 0 bb)), ((bb 0), .inr (4, [.int 0, .ref e0, .int 0])), ((bb 1), .inr (4, [.int 0, .ref e0, .int 0])), ((bb 2), .inr (4, [.int 0, .ref e0, .int 0])), ((bb 3), .inr (4, [.int 0, .ref e0, .int 0])), (o, .inl (cO, 1, .inr (.inl (fun _ => 0)))), (od, .inl (cD, 1, .inr (.inr (.inr (.inl (fun _ => 0))))))] H) (hD : va_D A [(h0, .inr (11, zC a)), ((a 0), .inl (cL, 10, .inr (.inr (.inr (.inr (fun _ => none)))))), ((a 3), .inl (cT, 6, .inr (.inr (.inr (.inr (fun _ => none)))))), (g0, .inr (15, zM 0 bb)), ((bb 0), .inr (4, [.int 0, .ref e0, .int 0])), ((bb 1), .inr (4, [.int 0, .ref e0, .int 0])), ((bb 2), .inr (4, [.int 0, .ref e0, .int 0])), ((bb 3), .inr (4, [.int 0, .ref e0, .int 0])), (o, .inl (cO, 1, .inr (.inl (fun _ => 0)))), (od, .inl (cD, 1, .inr (.inr (.inr (.inl (fun _ => 0))))))]) (hS : va_S A s.heap H locs) (hl : lv_has ls 9 [(0, .ref b), (1, .ref h0), (2, .ref g0), (3, .ref o), (4, .ref od), (5, .int 0)]) : W p l e room_1 s m #[Value.ref b] below meth c H locs (86) (1094) (lw_Z below #[Value.ref b] s) (F0 m 1167 ls []) := by
  obtain ⟨hx, hb, hr, hml, hown, ht0, hX, hbl, hlocks, hgv⟩ := id C0
  have hts := ht0
  have hbA : ¬ A b := fun h => absurd hbl (Nat.not_lt.mpr (hA2 b h))
  refine lv_aload_n hx hb dL_law_1167 rfl (lv_at hl 1 rfl) ?_
  refine lv_aload_n hx hb dL_law_1168 rfl (lv_at hl 0 rfl) ?_
  refine lv_iload hx hb dL_law_1169 (lv_at hl 5 rfl) ?_
  refine lv_iconst (v := 1) hx hb dL_law_1171 (by decide) ?_
  refine lv_iadd hx hb dL_law_1172 ?_
  refine lv_topi (fun y1 e2 => ?_)
  obtain rfl : y1 = 1 := e2.trans (by decide)
  refine va_sld hx hb hX hbl hbA hS (by unfold vp_in; decide) dL_law_1173 ?_
  refine lv_aload_n hx hb dL_law_1174 rfl (lv_at hl 3 rfl) ?_
  have hPc := hP.sub (ws' := [(h0, .inr (11, zC a))]) [0] rfl
  have hDc := hD.sub (ws' := [(h0, .inr (11, zC a))]) [0] (by decide) rfl
  have hKc := hK.sub (tys' := []) [] rfl
  have hFc := va_free (wc := [(h0, .inr (11, zC a))]) hD hS hA [0] rfl
  have hEc := (hE.kept hS.2.1).narrow hFc
  refine vx_calli (vx_runSX (As := [.ref h0, .int (xs (1 : Int32).toNatClampNeg), .ref o]) (rest := []) ⟨hx, hb, hml, hown, hts⟩ (c_L_restMust l htr dC dI e0 H.size h0 a (xs (1 : Int32).toNatClampNeg) o) (vx_cwSW 3 hts gL_law_L_restMust rfl rfl rfl (by decide +kernel) ⟨Nat.le_of_ble_eq_true rfl, Nat.le_of_ble_eq_true rfl⟩) ⟨fun a U g mk q => by obtain ⟨q0, q1, qP, qK, qD, qE⟩ := q; exact ⟨q0, q1, qP, va_K.moved (u := U) (U := U.calling g mk a) (Vm.Alike.refl U.vm) qK, qD, zE.same rfl qE⟩, fun U hU hW => ⟨rfl, by rw [hU], by rw [hU]; exact hPc, va_K.moved hW.alike hKc, hDc.weaken (fun _ _ _ _ => trivial), by rw [hU]; exact zE.warm hW hEc⟩⟩ rfl rfl hl.1 rfl (lv_room (Nat.le_of_ble_eq_true rfl)) dL_law_1175 ⟨Nat.le_of_ble_eq_true rfl, Nat.le_of_ble_eq_true rfl⟩) hS (fun q _ h => hFc q h) hFc (fun q _ h => hFc q h) (fun E ce q9 u t H1 locs1 ht hvm hpx hBX hz1 hk1 hS hce hcv hcl => absurd hpx id) (fun r3 u t H1 locs ht hvm hw hB hz1 hk1 hS => ?_)
  have hP1 : va_P (dC, dI) vwCl [] H1 := fun k q h => by simp at h
  have hD1 : va_D (va_A [(h0, .inr (11, zC a))] H.size) [] := ⟨fun i j p q h => by simp at h, fun k q h => by simp at h⟩
  obtain ⟨hP, hD⟩ := va_join (wr := [((a 0), .inl (cL, 10, .inr (.inr (.inr (.inr (fun _ => none)))))), ((a 3), .inl (cT, 6, .inr (.inr (.inr (.inr (fun _ => none)))))), (g0, .inr (15, zM 0 bb)), ((bb 0), .inr (4, [.int 0, .ref e0, .int 0])), ((bb 1), .inr (4, [.int 0, .ref e0, .int 0])), ((bb 2), .inr (4, [.int 0, .ref e0, .int 0])), ((bb 3), .inr (4, [.int 0, .ref e0, .int 0])), (o, .inl (cO, 1, .inr (.inl (fun _ => 0)))), (od, .inl (cD, 1, .inr (.inr (.inr (.inl (fun _ => 0))))))]) (w1 := []) hP hD [0] [1, 2, 3, 4, 5, 6, 7, 8, 9] rfl rfl (by decide) (by decide) hk1 hFc hP1 hD1
  generalize H1 = H at hP hS ⊢
  have hP : va_P (dC, dI) vwCl [((a 0), .inl (cL, 10, .inr (.inr (.inr (.inr (fun _ => none)))))), ((a 3), .inl (cT, 6, .inr (.inr (.inr (.inr (fun _ => none)))))), (g0, .inr (15, zM 0 bb)), ((bb 0), .inr (4, [.int 0, .ref e0, .int 0])), ((bb 1), .inr (4, [.int 0, .ref e0, .int 0])), ((bb 2), .inr (4, [.int 0, .ref e0, .int 0])), ((bb 3), .inr (4, [.int 0, .ref e0, .int 0])), (o, .inl (cO, 1, .inr (.inl (fun _ => 0)))), (od, .inl (cD, 1, .inr (.inr (.inr (.inl (fun _ => 0))))))] H := hP
  have hD : va_D A [((a 0), .inl (cL, 10, .inr (.inr (.inr (.inr (fun _ => none)))))), ((a 3), .inl (cT, 6, .inr (.inr (.inr (.inr (fun _ => none)))))), (g0, .inr (15, zM 0 bb)), ((bb 0), .inr (4, [.int 0, .ref e0, .int 0])), ((bb 1), .inr (4, [.int 0, .ref e0, .int 0])), ((bb 2), .inr (4, [.int 0, .ref e0, .int 0])), ((bb 3), .inr (4, [.int 0, .ref e0, .int 0])), (o, .inl (cO, 1, .inr (.inl (fun _ => 0)))), (od, .inl (cD, 1, .inr (.inr (.inr (.inl (fun _ => 0))))))] := hD
  obtain rfl : r3 = 1 := hw
  refine lv_istore (lv' := [(6, .int 1), (0, .ref b), (1, .ref h0), (2, .ref g0), (3, .ref o), (4, .ref od), (5, .int 0)]) hx hb dL_law_1178 hl (by decide) rfl (fun ls hl => ?_)
  refine lv_aload_n hx hb dL_law_1180 rfl (lv_at hl 3 rfl) ?_
  refine lv_aload_n hx hb dL_law_1181 rfl (lv_at hl 1 rfl) ?_
  refine lv_iload hx hb dL_law_1182 (lv_at hl 6 rfl) ?_
  refine lv_iconst (v := 1) hx hb dL_law_1184 (by decide) ?_
  refine lv_iadd hx hb dL_law_1185 ?_
  refine lv_topi (fun y4 e5 => ?_)
  obtain rfl : y4 = 1 := e5.trans (by decide)
  refine va_sld hx hb hX hbl hbA hS (by unfold vp_in; decide) dL_law_1186 ?_
  have hPc := hP.sub (ws' := [(g0, .inr (15, zM 0 bb)), ((bb 0), .inr (4, [.int 0, .ref e0, .int 0])), ((bb 1), .inr (4, [.int 0, .ref e0, .int 0])), ((bb 2), .inr (4, [.int 0, .ref e0, .int 0])), ((bb 3), .inr (4, [.int 0, .ref e0, .int 0]))]) [2, 3, 4, 5, 6] rfl
  have hDc := hD.sub (ws' := [(g0, .inr (15, zM 0 bb)), ((bb 0), .inr (4, [.int 0, .ref e0, .int 0])), ((bb 1), .inr (4, [.int 0, .ref e0, .int 0])), ((bb 2), .inr (4, [.int 0, .ref e0, .int 0])), ((bb 3), .inr (4, [.int 0, .ref e0, .int 0]))]) [2, 3, 4, 5, 6] (by decide) rfl
  have hKc := hK.sub (tys' := []) [] rfl
  have hFc := va_free (wc := [(g0, .inr (15, zM 0 bb)), ((bb 0), .inr (4, [.int 0, .ref e0, .int 0])), ((bb 1), .inr (4, [.int 0, .ref e0, .int 0])), ((bb 2), .inr (4, [.int 0, .ref e0, .int 0])), ((bb 3), .inr (4, [.int 0, .ref e0, .int 0]))]) hD hS hA [2, 3, 4, 5, 6] rfl
  have hEc := (hE.kept hS.2.1).narrow hFc
  refine va_calli (va_runV (As := [.int (xs (1 : Int32).toNatClampNeg)]) (rest := []) ⟨hx, hb, hml, hown, hts⟩ (c_X10_restMust l htr dC dI e0 H.size g0 0 bb (xs (1 : Int32).toNatClampNeg)) (cwV 1 hts gL_law_X10_restMust rfl rfl rfl (by decide +kernel) ⟨Nat.le_of_ble_eq_true rfl, Nat.le_of_ble_eq_true rfl⟩) ⟨fun a U g mk q => by obtain ⟨q0, q1, qP, qK, qD, qE⟩ := q; exact ⟨q0, q1, qP, va_K.moved (u := U) (U := U.calling g mk a) (Vm.Alike.refl U.vm) qK, qD, zE.same rfl qE⟩, va_recv hKc hPc (ci := 15) (q0 := 0) rfl rfl, fun U hU hW => ⟨rfl, by rw [hU], by rw [hU]; exact hPc, va_K.moved hW.alike hKc, hDc.weaken (fun _ _ _ _ => trivial), by rw [hU]; exact zE.warm hW hEc⟩⟩ rfl rfl hl.1 rfl (lv_room (Nat.le_of_ble_eq_true rfl)) dL_law_1187 ⟨Nat.le_of_ble_eq_true rfl, Nat.le_of_ble_eq_true rfl⟩) hS (fun q _ h => hFc q h) hFc (fun r6 u t H1 locs ht hvm hw hB hz1 hk1 hS => ?_)
  obtain ⟨hP1, hK1, hD1⟩ := hB
  rw [ht] at hP1
  obtain ⟨hP, hD⟩ := va_join (wr := [((a 0), .inl (cL, 10, .inr (.inr (.inr (.inr (fun _ => none)))))), ((a 3), .inl (cT, 6, .inr (.inr (.inr (.inr (fun _ => none)))))), (o, .inl (cO, 1, .inr (.inl (fun _ => 0)))), (od, .inl (cD, 1, .inr (.inr (.inr (.inl (fun _ => 0))))))]) (w1 := [(g0, .inr (15, zM 1 bb))]) hP hD [2, 3, 4, 5, 6] [0, 1, 7, 8] rfl rfl (by decide) (by decide) hk1 hFc hP1 hD1
  generalize H1 = H at hP hS ⊢
  have hP : va_P (dC, dI) vwCl [((a 0), .inl (cL, 10, .inr (.inr (.inr (.inr (fun _ => none)))))), ((a 3), .inl (cT, 6, .inr (.inr (.inr (.inr (fun _ => none)))))), (o, .inl (cO, 1, .inr (.inl (fun _ => 0)))), (od, .inl (cD, 1, .inr (.inr (.inr (.inl (fun _ => 0)))))), (g0, .inr (15, zM 1 bb))] H := hP
  have hD : va_D A [((a 0), .inl (cL, 10, .inr (.inr (.inr (.inr (fun _ => none)))))), ((a 3), .inl (cT, 6, .inr (.inr (.inr (.inr (fun _ => none)))))), (o, .inl (cO, 1, .inr (.inl (fun _ => 0)))), (od, .inl (cD, 1, .inr (.inr (.inr (.inl (fun _ => 0)))))), (g0, .inr (15, zM 1 bb))] := hD
  obtain rfl : r6 = 0 := hw
  refine lv_istore (lv' := [(7, .int 0), (6, .int 1), (0, .ref b), (1, .ref h0), (2, .ref g0), (3, .ref o), (4, .ref od), (5, .int 0)]) hx hb dL_law_1190 hl (by decide) rfl (fun ls hl => ?_)
  refine lv_aload_n hx hb dL_law_1192 rfl (lv_at hl 4 rfl) ?_
  have hPc := hP.sub (ws' := [(g0, .inr (15, [.int 1, .ref (bb 0), .ref (bb 1), .ref (bb 2), .ref (bb 3), .int 0, .long 0, .int 0, .int 0, .int 0, .int 0]))]) [4] rfl
  have hDc := hD.sub (ws' := [(g0, .inr (15, [.int 1, .ref (bb 0), .ref (bb 1), .ref (bb 2), .ref (bb 3), .int 0, .long 0, .int 0, .int 0, .int 0, .int 0]))]) [4] (by decide) rfl
  have hKc := hK.sub (tys' := []) [] rfl
  have hFc := va_free (wc := [(g0, .inr (15, [.int 1, .ref (bb 0), .ref (bb 1), .ref (bb 2), .ref (bb 3), .int 0, .long 0, .int 0, .int 0, .int 0, .int 0]))]) hD hS hA [4] rfl
  refine va_calli (va_runV (As := []) (rest := []) ⟨hx, hb, hml, hown, hts⟩ (c_X10_thrown l htr dC dI e0 H.size g0 1 (bb 0) (bb 1) (bb 2) (bb 3) 0 0 0 0 0 0) (cwV 0 hts gL_law_X10_thrown rfl rfl rfl (by decide +kernel) ⟨Nat.le_of_ble_eq_true rfl, Nat.le_of_ble_eq_true rfl⟩) ⟨fun a U g mk q => by obtain ⟨q0, q1, qP, qK, qD⟩ := q; exact ⟨q0, q1, qP, va_K.moved (u := U) (U := U.calling g mk a) (Vm.Alike.refl U.vm) qK, qD⟩, va_recv hKc hPc (ci := 15) (q0 := 0) rfl rfl, fun U hU hW => ⟨rfl, by rw [hU], by rw [hU]; exact hPc, va_K.moved hW.alike hKc, hDc.weaken (fun _ _ _ _ => trivial)⟩⟩ rfl rfl hl.1 rfl (lv_room (Nat.le_of_ble_eq_true rfl)) dL_law_1193 ⟨Nat.le_of_ble_eq_true rfl, Nat.le_of_ble_eq_true rfl⟩) hS (fun q _ h => hFc q h) hFc (fun r7 u t H1 locs ht hvm hw hB hz1 hk1 hS => ?_)
  obtain ⟨hP1, hK1, hD1⟩ := hB
  rw [ht] at hP1
  obtain ⟨hP, hD⟩ := va_join (wr := [((a 0), .inl (cL, 10, .inr (.inr (.inr (.inr (fun _ => none)))))), ((a 3), .inl (cT, 6, .inr (.inr (.inr (.inr (fun _ => none)))))), (o, .inl (cO, 1, .inr (.inl (fun _ => 0)))), (od, .inl (cD, 1, .inr (.inr (.inr (.inl (fun _ => 0))))))]) (w1 := [(g0, .inr (15, [.int 1, .ref (bb 0), .ref (bb 1), .ref (bb 2), .ref (bb 3), .int 0, .long 0, .int 0, .int 0, .int 0, .int 0]))]) hP hD [4] [0, 1, 2, 3] rfl rfl (by decide) (by decide) hk1 hFc hP1 hD1
  generalize H1 = H at hP hS ⊢
  have hP : va_P (dC, dI) vwCl [((a 0), .inl (cL, 10, .inr (.inr (.inr (.inr (fun _ => none)))))), ((a 3), .inl (cT, 6, .inr (.inr (.inr (.inr (fun _ => none)))))), (o, .inl (cO, 1, .inr (.inl (fun _ => 0)))), (od, .inl (cD, 1, .inr (.inr (.inr (.inl (fun _ => 0)))))), (g0, .inr (15, [.int 1, .ref (bb 0), .ref (bb 1), .ref (bb 2), .ref (bb 3), .int 0, .long 0, .int 0, .int 0, .int 0, .int 0]))] H := hP
  have hD : va_D A [((a 0), .inl (cL, 10, .inr (.inr (.inr (.inr (fun _ => none)))))), ((a 3), .inl (cT, 6, .inr (.inr (.inr (.inr (fun _ => none)))))), (o, .inl (cO, 1, .inr (.inl (fun _ => 0)))), (od, .inl (cD, 1, .inr (.inr (.inr (.inl (fun _ => 0)))))), (g0, .inr (15, [.int 1, .ref (bb 0), .ref (bb 1), .ref (bb 2), .ref (bb 3), .int 0, .long 0, .int 0, .int 0, .int 0, .int 0]))] := hD
  obtain rfl : r7 = 1 := hw
  refine lv_iload hx hb dL_law_1196 (lv_at hl 1 rfl) ?_
  refine lv_icmp_eq (tgt := 1203) hx hb dL_law_1198 (by decide) (fun _ => ?_) (fun c8 => absurd (by decide) c8)
  refine lv_iload hx hb dL_law_1203 (lv_at hl 1 rfl) ?_
  refine lv_if_ne (tgt := 1220) hx hb dL_law_1205 (by decide) (fun _ => ?_) (fun c9 => absurd c9 (by decide))
  refine lv_goto (tgt := 3259) hx hb dL_law_1220 (by decide) ?_
  exact zl_end C0 hA2 (Nat.le_of_ble_eq_true rfl) (Nat.le_of_ble_eq_true rfl) hS (lv_sub hl [7, 2] rfl)
theorem dL_law_1223 : decode cL_law 1223 = .ok (.aload_n 1, 1) := by decide +kernel
theorem dL_law_1224 : decode cL_law 1224 = .ok (.aload_n 0, 1) := by decide +kernel
theorem dL_law_1225 : decode cL_law 1225 = .ok (.iload 5, 2) := by decide +kernel
theorem dL_law_1227 : decode cL_law 1227 = .ok (.iconst 1, 1) := by decide +kernel
theorem dL_law_1228 : decode cL_law 1228 = .ok (.iadd, 1) := by decide +kernel
theorem dL_law_1229 : decode cL_law 1229 = .ok (.iaload, 1) := by decide +kernel
theorem dL_law_1230 : decode cL_law 1230 = .ok (.aload_n 0, 1) := by decide +kernel
theorem dL_law_1231 : decode cL_law 1231 = .ok (.iload 5, 2) := by decide +kernel
theorem dL_law_1233 : decode cL_law 1233 = .ok (.iconst 2, 1) := by decide +kernel
theorem dL_law_1234 : decode cL_law 1234 = .ok (.iadd, 1) := by decide +kernel
theorem dL_law_1235 : decode cL_law 1235 = .ok (.iaload, 1) := by decide +kernel
theorem dL_law_1236 : decode cL_law 1236 = .ok (.aload_n 3, 1) := by decide +kernel
theorem dL_law_1237 : decode cL_law 1237 = .ok (.invokestatic 230, 3) := by decide +kernel
theorem dL_law_1240 : decode cL_law 1240 = .ok (.istore 6, 2) := by decide +kernel
theorem dL_law_1242 : decode cL_law 1242 = .ok (.aload_n 2, 1) := by decide +kernel
theorem dL_law_1243 : decode cL_law 1243 = .ok (.aload_n 0, 1) := by decide +kernel
theorem dL_law_1244 : decode cL_law 1244 = .ok (.iload 5, 2) := by decide +kernel
theorem dL_law_1246 : decode cL_law 1246 = .ok (.iconst 1, 1) := by decide +kernel
theorem dL_law_1247 : decode cL_law 1247 = .ok (.iadd, 1) := by decide +kernel
theorem dL_law_1248 : decode cL_law 1248 = .ok (.iaload, 1) := by decide +kernel
theorem dL_law_1249 : decode cL_law 1249 = .ok (.aload_n 0, 1) := by decide +kernel
theorem dL_law_1250 : decode cL_law 1250 = .ok (.iload 5, 2) := by decide +kernel
theorem dL_law_1252 : decode cL_law 1252 = .ok (.iconst 2, 1) := by decide +kernel
theorem dL_law_1253 : decode cL_law 1253 = .ok (.iadd, 1) := by decide +kernel
theorem dL_law_1254 : decode cL_law 1254 = .ok (.iaload, 1) := by decide +kernel
theorem dL_law_1255 : decode cL_law 1255 = .ok (.invokevirtual 232, 3) := by decide +kernel
theorem dL_law_1258 : decode cL_law 1258 = .ok (.istore 7, 2) := by decide +kernel
theorem dL_law_1260 : decode cL_law 1260 = .ok (.aload_n 2, 1) := by decide +kernel
theorem dL_law_1261 : decode cL_law 1261 = .ok (.invokevirtual 183, 3) := by decide +kernel
theorem dL_law_1264 : decode cL_law 1264 = .ok (.iload 6, 2) := by decide +kernel
theorem dL_law_1266 : decode cL_law 1266 = .ok (.if_icmp .eq 5, 3) := by decide +kernel
theorem dL_law_1271 : decode cL_law 1271 = .ok (.iload 6, 2) := by decide +kernel
theorem dL_law_1273 : decode cL_law 1273 = .ok (.ifCond .ne 15, 3) := by decide +kernel
theorem dL_law_1288 : decode cL_law 1288 = .ok (.goto 1971, 3) := by decide +kernel
set_option maxHeartbeats 4000000 in
set_option maxRecDepth 100000 in
/-- take, called on the two fresh objects -/
theorem zl_14 {p : Program} {l : Launch} {e : Env} {s : State} {m : MethodId} {below : List Frame} {meth : Method} {c : Code} {b : Nat} {xs : Nat → Int32} {A : Nat → Prop} (C0 : lw_At p s m meth c b 5 xs) (hA : ∀ q : Nat, s.heap.size ≤ q → A q) (hA2 : ∀ q : Nat, A q → s.heap.size ≤ q) (htr : l.stackTraces = false) (dC : Nat → ClassId) (dI : Nat → Nat → Nat) (e0 h0 g0 o od : Nat) (a bb : Nat → Nat) (cL cT cO cD : ClassId) (hE : zE e0 A s s.heap) (H : Heap) (locs : List Loc) (ls : Array Slot) (hK : va_K (dC, dI) vwCl [(cL, (.object RX1)), (cT, (.object RX5)), (cO, .long), (cD, .double)] s) (hP : va_P (dC, dI) vwCl [(h0, .inr (11, zC a)), ((a 0), .inl (cL, 10, .inr (.inr (.inr (.inr (fun _ => none)))))), ((a 3), .inl (cT, 6, .inr (.inr (.inr (.inr (fun _ => none)))))), (g0, .inr (15, zM 0 bb)), ((bb 0), .inr (4, [.int 0, .ref e0, .int 0])), ((bb 1), .inr (4, [.int 0, .ref e0, .int 0])), ((bb 2), .inr (4, [.int 0, .ref e0, .int 0])), ((bb 3), .inr (4, [.int 0, .ref e0, .int 0])), (o, .inl (cO, 1, .inr (.inl (fun _ => 0)))), (od, .inl (cD, 1, .inr (.inr (.inr (.inl (fun _ => 0))))))] H) (hD : va_D A [(h0, .inr (11, zC a)), ((a 0), .inl (cL, 10, .inr (.inr (.inr (.inr (fun _ => none)))))), ((a 3), .inl (cT, 6, .inr (.inr (.inr (.inr (fun _ => none)))))), (g0, .inr (15, zM 0 bb)), ((bb 0), .inr (4, [.int 0, .ref e0, .int 0])), ((bb 1), .inr (4, [.int 0, .ref e0, .int 0])), ((bb 2), .inr (4, [.int 0, .ref e0, .int 0])), ((bb 3), .inr (4, [.int 0, .ref e0, .int 0])), (o, .inl (cO, 1, .inr (.inl (fun _ => 0)))), (od, .inl (cD, 1, .inr (.inr (.inr (.inl (fun _ => 0))))))]) (hS : va_S A s.heap H locs) (hl : lv_has ls 9 [(0, .ref b), (1, .ref h0), (2, .ref g0), (3, .ref o), (4, .ref od), (5, .int 0)]) : W p l e room_1 s m #[Value.ref b] below meth c H locs (86) (1094) (lw_Z below #[Value.ref b] s) (F0 m 1223 ls []) := by
  obtain ⟨hx, hb, hr, hml, hown, ht0, hX, hbl, hlocks, hgv⟩ := id C0
  have hts := ht0
  have hbA : ¬ A b := fun h => absurd hbl (Nat.not_lt.mpr (hA2 b h))
  refine lv_aload_n hx hb dL_law_1223 rfl (lv_at hl 1 rfl) ?_
  refine lv_aload_n hx hb dL_law_1224 rfl (lv_at hl 0 rfl) ?_
  refine lv_iload hx hb dL_law_1225 (lv_at hl 5 rfl) ?_
  refine lv_iconst (v := 1) hx hb dL_law_1227 (by decide) ?_
  refine lv_iadd hx hb dL_law_1228 ?_
  refine lv_topi (fun y1 e2 => ?_)
  obtain rfl : y1 = 1 := e2.trans (by decide)
  refine va_sld hx hb hX hbl hbA hS (by unfold vp_in; decide) dL_law_1229 ?_
  refine lv_aload_n hx hb dL_law_1230 rfl (lv_at hl 0 rfl) ?_
  refine lv_iload hx hb dL_law_1231 (lv_at hl 5 rfl) ?_
  refine lv_iconst (v := 2) hx hb dL_law_1233 (by decide) ?_
  refine lv_iadd hx hb dL_law_1234 ?_
  refine lv_topi (fun y3 e4 => ?_)
  obtain rfl : y3 = 2 := e4.trans (by decide)
  refine va_sld hx hb hX hbl hbA hS (by unfold vp_in; decide) dL_law_1235 ?_
  refine lv_aload_n hx hb dL_law_1236 rfl (lv_at hl 3 rfl) ?_
  have hPc := hP.sub (ws' := [(h0, .inr (11, zC a))]) [0] rfl
  have hDc := hD.sub (ws' := [(h0, .inr (11, zC a))]) [0] (by decide) rfl
  have hKc := hK.sub (tys' := []) [] rfl
  have hFc := va_free (wc := [(h0, .inr (11, zC a))]) hD hS hA [0] rfl
  have hEc := (hE.kept hS.2.1).narrow hFc
  refine vx_calli (vx_runSX (As := [.ref h0, .int (xs (1 : Int32).toNatClampNeg), .int (xs (2 : Int32).toNatClampNeg), .ref o]) (rest := []) ⟨hx, hb, hml, hown, hts⟩ (c_L_take l htr dC dI e0 H.size h0 a (xs (1 : Int32).toNatClampNeg) (xs (2 : Int32).toNatClampNeg) o) (vx_cwSW 4 hts gL_law_L_take rfl rfl rfl (by decide +kernel) ⟨Nat.le_of_ble_eq_true rfl, Nat.le_of_ble_eq_true rfl⟩) ⟨fun a U g mk q => by obtain ⟨q0, q1, qP, qK, qD, qE⟩ := q; exact ⟨q0, q1, qP, va_K.moved (u := U) (U := U.calling g mk a) (Vm.Alike.refl U.vm) qK, qD, zE.same rfl qE⟩, fun U hU hW => ⟨rfl, by rw [hU], by rw [hU]; exact hPc, va_K.moved hW.alike hKc, hDc.weaken (fun _ _ _ _ => trivial), by rw [hU]; exact zE.warm hW hEc⟩⟩ rfl rfl hl.1 rfl (lv_room (Nat.le_of_ble_eq_true rfl)) dL_law_1237 ⟨Nat.le_of_ble_eq_true rfl, Nat.le_of_ble_eq_true rfl⟩) hS (fun q _ h => hFc q h) hFc (fun q _ h => hFc q h) (fun E ce q9 u t H1 locs1 ht hvm hpx hBX hz1 hk1 hS hce hcv hcl => absurd hpx id) (fun r5 u t H1 locs ht hvm hw hB hz1 hk1 hS => ?_)
  have hP1 : va_P (dC, dI) vwCl [] H1 := fun k q h => by simp at h
  have hD1 : va_D (va_A [(h0, .inr (11, zC a))] H.size) [] := ⟨fun i j p q h => by simp at h, fun k q h => by simp at h⟩
  obtain ⟨hP, hD⟩ := va_join (wr := [((a 0), .inl (cL, 10, .inr (.inr (.inr (.inr (fun _ => none)))))), ((a 3), .inl (cT, 6, .inr (.inr (.inr (.inr (fun _ => none)))))), (g0, .inr (15, zM 0 bb)), ((bb 0), .inr (4, [.int 0, .ref e0, .int 0])), ((bb 1), .inr (4, [.int 0, .ref e0, .int 0])), ((bb 2), .inr (4, [.int 0, .ref e0, .int 0])), ((bb 3), .inr (4, [.int 0, .ref e0, .int 0])), (o, .inl (cO, 1, .inr (.inl (fun _ => 0)))), (od, .inl (cD, 1, .inr (.inr (.inr (.inl (fun _ => 0))))))]) (w1 := []) hP hD [0] [1, 2, 3, 4, 5, 6, 7, 8, 9] rfl rfl (by decide) (by decide) hk1 hFc hP1 hD1
  generalize H1 = H at hP hS ⊢
  have hP : va_P (dC, dI) vwCl [((a 0), .inl (cL, 10, .inr (.inr (.inr (.inr (fun _ => none)))))), ((a 3), .inl (cT, 6, .inr (.inr (.inr (.inr (fun _ => none)))))), (g0, .inr (15, zM 0 bb)), ((bb 0), .inr (4, [.int 0, .ref e0, .int 0])), ((bb 1), .inr (4, [.int 0, .ref e0, .int 0])), ((bb 2), .inr (4, [.int 0, .ref e0, .int 0])), ((bb 3), .inr (4, [.int 0, .ref e0, .int 0])), (o, .inl (cO, 1, .inr (.inl (fun _ => 0)))), (od, .inl (cD, 1, .inr (.inr (.inr (.inl (fun _ => 0))))))] H := hP
  have hD : va_D A [((a 0), .inl (cL, 10, .inr (.inr (.inr (.inr (fun _ => none)))))), ((a 3), .inl (cT, 6, .inr (.inr (.inr (.inr (fun _ => none)))))), (g0, .inr (15, zM 0 bb)), ((bb 0), .inr (4, [.int 0, .ref e0, .int 0])), ((bb 1), .inr (4, [.int 0, .ref e0, .int 0])), ((bb 2), .inr (4, [.int 0, .ref e0, .int 0])), ((bb 3), .inr (4, [.int 0, .ref e0, .int 0])), (o, .inl (cO, 1, .inr (.inl (fun _ => 0)))), (od, .inl (cD, 1, .inr (.inr (.inr (.inl (fun _ => 0))))))] := hD
  obtain rfl : r5 = 1 := hw
  refine lv_istore (lv' := [(6, .int 1), (0, .ref b), (1, .ref h0), (2, .ref g0), (3, .ref o), (4, .ref od), (5, .int 0)]) hx hb dL_law_1240 hl (by decide) rfl (fun ls hl => ?_)
  refine lv_aload_n hx hb dL_law_1242 rfl (lv_at hl 3 rfl) ?_
  refine lv_aload_n hx hb dL_law_1243 rfl (lv_at hl 1 rfl) ?_
  refine lv_iload hx hb dL_law_1244 (lv_at hl 6 rfl) ?_
  refine lv_iconst (v := 1) hx hb dL_law_1246 (by decide) ?_
  refine lv_iadd hx hb dL_law_1247 ?_
  refine lv_topi (fun y6 e7 => ?_)
  obtain rfl : y6 = 1 := e7.trans (by decide)
  refine va_sld hx hb hX hbl hbA hS (by unfold vp_in; decide) dL_law_1248 ?_
  refine lv_aload_n hx hb dL_law_1249 rfl (lv_at hl 1 rfl) ?_
  refine lv_iload hx hb dL_law_1250 (lv_at hl 6 rfl) ?_
  refine lv_iconst (v := 2) hx hb dL_law_1252 (by decide) ?_
  refine lv_iadd hx hb dL_law_1253 ?_
  refine lv_topi (fun y8 e9 => ?_)
  obtain rfl : y8 = 2 := e9.trans (by decide)
  refine va_sld hx hb hX hbl hbA hS (by unfold vp_in; decide) dL_law_1254 ?_
  have hPc := hP.sub (ws' := [(g0, .inr (15, zM 0 bb)), ((bb 0), .inr (4, [.int 0, .ref e0, .int 0])), ((bb 1), .inr (4, [.int 0, .ref e0, .int 0])), ((bb 2), .inr (4, [.int 0, .ref e0, .int 0])), ((bb 3), .inr (4, [.int 0, .ref e0, .int 0]))]) [2, 3, 4, 5, 6] rfl
  have hDc := hD.sub (ws' := [(g0, .inr (15, zM 0 bb)), ((bb 0), .inr (4, [.int 0, .ref e0, .int 0])), ((bb 1), .inr (4, [.int 0, .ref e0, .int 0])), ((bb 2), .inr (4, [.int 0, .ref e0, .int 0])), ((bb 3), .inr (4, [.int 0, .ref e0, .int 0]))]) [2, 3, 4, 5, 6] (by decide) rfl
  have hKc := hK.sub (tys' := []) [] rfl
  have hFc := va_free (wc := [(g0, .inr (15, zM 0 bb)), ((bb 0), .inr (4, [.int 0, .ref e0, .int 0])), ((bb 1), .inr (4, [.int 0, .ref e0, .int 0])), ((bb 2), .inr (4, [.int 0, .ref e0, .int 0])), ((bb 3), .inr (4, [.int 0, .ref e0, .int 0]))]) hD hS hA [2, 3, 4, 5, 6] rfl
  have hEc := (hE.kept hS.2.1).narrow hFc
  refine va_calli (va_runV (As := [.int (xs (1 : Int32).toNatClampNeg), .int (xs (2 : Int32).toNatClampNeg)]) (rest := []) ⟨hx, hb, hml, hown, hts⟩ (c_X10_take l htr dC dI e0 H.size g0 0 bb (xs (1 : Int32).toNatClampNeg) (xs (2 : Int32).toNatClampNeg)) (cwV 2 hts gL_law_X10_take rfl rfl rfl (by decide +kernel) ⟨Nat.le_of_ble_eq_true rfl, Nat.le_of_ble_eq_true rfl⟩) ⟨fun a U g mk q => by obtain ⟨q0, q1, qP, qK, qD, qE⟩ := q; exact ⟨q0, q1, qP, va_K.moved (u := U) (U := U.calling g mk a) (Vm.Alike.refl U.vm) qK, qD, zE.same rfl qE⟩, va_recv hKc hPc (ci := 15) (q0 := 0) rfl rfl, fun U hU hW => ⟨rfl, by rw [hU], by rw [hU]; exact hPc, va_K.moved hW.alike hKc, hDc.weaken (fun _ _ _ _ => trivial), by rw [hU]; exact zE.warm hW hEc⟩⟩ rfl rfl hl.1 rfl (lv_room (Nat.le_of_ble_eq_true rfl)) dL_law_1255 ⟨Nat.le_of_ble_eq_true rfl, Nat.le_of_ble_eq_true rfl⟩) hS (fun q _ h => hFc q h) hFc (fun r10 u t H1 locs ht hvm hw hB hz1 hk1 hS => ?_)
  obtain ⟨hP1, hK1, hD1⟩ := hB
  rw [ht] at hP1
  obtain ⟨hP, hD⟩ := va_join (wr := [((a 0), .inl (cL, 10, .inr (.inr (.inr (.inr (fun _ => none)))))), ((a 3), .inl (cT, 6, .inr (.inr (.inr (.inr (fun _ => none)))))), (o, .inl (cO, 1, .inr (.inl (fun _ => 0)))), (od, .inl (cD, 1, .inr (.inr (.inr (.inl (fun _ => 0))))))]) (w1 := [(g0, .inr (15, zM 1 bb))]) hP hD [2, 3, 4, 5, 6] [0, 1, 7, 8] rfl rfl (by decide) (by decide) hk1 hFc hP1 hD1
  generalize H1 = H at hP hS ⊢
  have hP : va_P (dC, dI) vwCl [((a 0), .inl (cL, 10, .inr (.inr (.inr (.inr (fun _ => none)))))), ((a 3), .inl (cT, 6, .inr (.inr (.inr (.inr (fun _ => none)))))), (o, .inl (cO, 1, .inr (.inl (fun _ => 0)))), (od, .inl (cD, 1, .inr (.inr (.inr (.inl (fun _ => 0)))))), (g0, .inr (15, zM 1 bb))] H := hP
  have hD : va_D A [((a 0), .inl (cL, 10, .inr (.inr (.inr (.inr (fun _ => none)))))), ((a 3), .inl (cT, 6, .inr (.inr (.inr (.inr (fun _ => none)))))), (o, .inl (cO, 1, .inr (.inl (fun _ => 0)))), (od, .inl (cD, 1, .inr (.inr (.inr (.inl (fun _ => 0)))))), (g0, .inr (15, zM 1 bb))] := hD
  obtain rfl : r10 = 0 := hw
  refine lv_istore (lv' := [(7, .int 0), (6, .int 1), (0, .ref b), (1, .ref h0), (2, .ref g0), (3, .ref o), (4, .ref od), (5, .int 0)]) hx hb dL_law_1258 hl (by decide) rfl (fun ls hl => ?_)
  refine lv_aload_n hx hb dL_law_1260 rfl (lv_at hl 4 rfl) ?_
  have hPc := hP.sub (ws' := [(g0, .inr (15, [.int 1, .ref (bb 0), .ref (bb 1), .ref (bb 2), .ref (bb 3), .int 0, .long 0, .int 0, .int 0, .int 0, .int 0]))]) [4] rfl
  have hDc := hD.sub (ws' := [(g0, .inr (15, [.int 1, .ref (bb 0), .ref (bb 1), .ref (bb 2), .ref (bb 3), .int 0, .long 0, .int 0, .int 0, .int 0, .int 0]))]) [4] (by decide) rfl
  have hKc := hK.sub (tys' := []) [] rfl
  have hFc := va_free (wc := [(g0, .inr (15, [.int 1, .ref (bb 0), .ref (bb 1), .ref (bb 2), .ref (bb 3), .int 0, .long 0, .int 0, .int 0, .int 0, .int 0]))]) hD hS hA [4] rfl
  refine va_calli (va_runV (As := []) (rest := []) ⟨hx, hb, hml, hown, hts⟩ (c_X10_thrown l htr dC dI e0 H.size g0 1 (bb 0) (bb 1) (bb 2) (bb 3) 0 0 0 0 0 0) (cwV 0 hts gL_law_X10_thrown rfl rfl rfl (by decide +kernel) ⟨Nat.le_of_ble_eq_true rfl, Nat.le_of_ble_eq_true rfl⟩) ⟨fun a U g mk q => by obtain ⟨q0, q1, qP, qK, qD⟩ := q; exact ⟨q0, q1, qP, va_K.moved (u := U) (U := U.calling g mk a) (Vm.Alike.refl U.vm) qK, qD⟩, va_recv hKc hPc (ci := 15) (q0 := 0) rfl rfl, fun U hU hW => ⟨rfl, by rw [hU], by rw [hU]; exact hPc, va_K.moved hW.alike hKc, hDc.weaken (fun _ _ _ _ => trivial)⟩⟩ rfl rfl hl.1 rfl (lv_room (Nat.le_of_ble_eq_true rfl)) dL_law_1261 ⟨Nat.le_of_ble_eq_true rfl, Nat.le_of_ble_eq_true rfl⟩) hS (fun q _ h => hFc q h) hFc (fun r11 u t H1 locs ht hvm hw hB hz1 hk1 hS => ?_)
  obtain ⟨hP1, hK1, hD1⟩ := hB
  rw [ht] at hP1
  obtain ⟨hP, hD⟩ := va_join (wr := [((a 0), .inl (cL, 10, .inr (.inr (.inr (.inr (fun _ => none)))))), ((a 3), .inl (cT, 6, .inr (.inr (.inr (.inr (fun _ => none)))))), (o, .inl (cO, 1, .inr (.inl (fun _ => 0)))), (od, .inl (cD, 1, .inr (.inr (.inr (.inl (fun _ => 0))))))]) (w1 := [(g0, .inr (15, [.int 1, .ref (bb 0), .ref (bb 1), .ref (bb 2), .ref (bb 3), .int 0, .long 0, .int 0, .int 0, .int 0, .int 0]))]) hP hD [4] [0, 1, 2, 3] rfl rfl (by decide) (by decide) hk1 hFc hP1 hD1
  generalize H1 = H at hP hS ⊢
  have hP : va_P (dC, dI) vwCl [((a 0), .inl (cL, 10, .inr (.inr (.inr (.inr (fun _ => none)))))), ((a 3), .inl (cT, 6, .inr (.inr (.inr (.inr (fun _ => none)))))), (o, .inl (cO, 1, .inr (.inl (fun _ => 0)))), (od, .inl (cD, 1, .inr (.inr (.inr (.inl (fun _ => 0)))))), (g0, .inr (15, [.int 1, .ref (bb 0), .ref (bb 1), .ref (bb 2), .ref (bb 3), .int 0, .long 0, .int 0, .int 0, .int 0, .int 0]))] H := hP
  have hD : va_D A [((a 0), .inl (cL, 10, .inr (.inr (.inr (.inr (fun _ => none)))))), ((a 3), .inl (cT, 6, .inr (.inr (.inr (.inr (fun _ => none)))))), (o, .inl (cO, 1, .inr (.inl (fun _ => 0)))), (od, .inl (cD, 1, .inr (.inr (.inr (.inl (fun _ => 0)))))), (g0, .inr (15, [.int 1, .ref (bb 0), .ref (bb 1), .ref (bb 2), .ref (bb 3), .int 0, .long 0, .int 0, .int 0, .int 0, .int 0]))] := hD
  obtain rfl : r11 = 1 := hw
  refine lv_iload hx hb dL_law_1264 (lv_at hl 1 rfl) ?_
  refine lv_icmp_eq (tgt := 1271) hx hb dL_law_1266 (by decide) (fun _ => ?_) (fun c12 => absurd (by decide) c12)
  refine lv_iload hx hb dL_law_1271 (lv_at hl 1 rfl) ?_
  refine lv_if_ne (tgt := 1288) hx hb dL_law_1273 (by decide) (fun _ => ?_) (fun c13 => absurd c13 (by decide))
  refine lv_goto (tgt := 3259) hx hb dL_law_1288 (by decide) ?_
  exact zl_end C0 hA2 (Nat.le_of_ble_eq_true rfl) (Nat.le_of_ble_eq_true rfl) hS (lv_sub hl [7, 2] rfl)
theorem dL_law_1291 : decode cL_law 1291 = .ok (.aload_n 1, 1) := by decide +kernel
theorem dL_law_1292 : decode cL_law 1292 = .ok (.aload_n 0, 1) := by decide +kernel
theorem dL_law_1293 : decode cL_law 1293 = .ok (.iload 5, 2) := by decide +kernel
theorem dL_law_1295 : decode cL_law 1295 = .ok (.iconst 1, 1) := by decide +kernel
theorem dL_law_1296 : decode cL_law 1296 = .ok (.iadd, 1) := by decide +kernel
theorem dL_law_1297 : decode cL_law 1297 = .ok (.iaload, 1) := by decide +kernel
theorem dL_law_1298 : decode cL_law 1298 = .ok (.aload_n 0, 1) := by decide +kernel
theorem dL_law_1299 : decode cL_law 1299 = .ok (.iload 5, 2) := by decide +kernel
theorem dL_law_1301 : decode cL_law 1301 = .ok (.iconst 2, 1) := by decide +kernel
theorem dL_law_1302 : decode cL_law 1302 = .ok (.iadd, 1) := by decide +kernel
theorem dL_law_1303 : decode cL_law 1303 = .ok (.iaload, 1) := by decide +kernel
theorem dL_law_1304 : decode cL_law 1304 = .ok (.aload_n 3, 1) := by decide +kernel
theorem dL_law_1305 : decode cL_law 1305 = .ok (.invokestatic 233, 3) := by decide +kernel
theorem dL_law_1308 : decode cL_law 1308 = .ok (.istore 6, 2) := by decide +kernel
theorem dL_law_1310 : decode cL_law 1310 = .ok (.aload_n 2, 1) := by decide +kernel
theorem dL_law_1311 : decode cL_law 1311 = .ok (.aload_n 0, 1) := by decide +kernel
theorem dL_law_1312 : decode cL_law 1312 = .ok (.iload 5, 2) := by decide +kernel
theorem dL_law_1314 : decode cL_law 1314 = .ok (.iconst 1, 1) := by decide +kernel
theorem dL_law_1315 : decode cL_law 1315 = .ok (.iadd, 1) := by decide +kernel
theorem dL_law_1316 : decode cL_law 1316 = .ok (.iaload, 1) := by decide +kernel
theorem dL_law_1317 : decode cL_law 1317 = .ok (.aload_n 0, 1) := by decide +kernel
theorem dL_law_1318 : decode cL_law 1318 = .ok (.iload 5, 2) := by decide +kernel
theorem dL_law_1320 : decode cL_law 1320 = .ok (.iconst 2, 1) := by decide +kernel
theorem dL_law_1321 : decode cL_law 1321 = .ok (.iadd, 1) := by decide +kernel
theorem dL_law_1322 : decode cL_law 1322 = .ok (.iaload, 1) := by decide +kernel
theorem dL_law_1323 : decode cL_law 1323 = .ok (.invokevirtual 235, 3) := by decide +kernel
theorem dL_law_1326 : decode cL_law 1326 = .ok (.istore 7, 2) := by decide +kernel
theorem dL_law_1328 : decode cL_law 1328 = .ok (.aload_n 2, 1) := by decide +kernel
theorem dL_law_1329 : decode cL_law 1329 = .ok (.invokevirtual 183, 3) := by decide +kernel
theorem dL_law_1332 : decode cL_law 1332 = .ok (.iload 6, 2) := by decide +kernel
theorem dL_law_1334 : decode cL_law 1334 = .ok (.if_icmp .eq 5, 3) := by decide +kernel
theorem dL_law_1339 : decode cL_law 1339 = .ok (.iload 6, 2) := by decide +kernel
theorem dL_law_1341 : decode cL_law 1341 = .ok (.ifCond .ne 15, 3) := by decide +kernel
theorem dL_law_1356 : decode cL_law 1356 = .ok (.goto 1903, 3) := by decide +kernel
set_option maxHeartbeats 4000000 in
set_option maxRecDepth 100000 in
/-- feed, called on the two fresh objects -/
theorem zl_15 {p : Program} {l : Launch} {e : Env} {s : State} {m : MethodId} {below : List Frame} {meth : Method} {c : Code} {b : Nat} {xs : Nat → Int32} {A : Nat → Prop} (C0 : lw_At p s m meth c b 5 xs) (hA : ∀ q : Nat, s.heap.size ≤ q → A q) (hA2 : ∀ q : Nat, A q → s.heap.size ≤ q) (htr : l.stackTraces = false) (dC : Nat → ClassId) (dI : Nat → Nat → Nat) (e0 h0 g0 o od : Nat) (a bb : Nat → Nat) (cL cT cO cD : ClassId) (hE : zE e0 A s s.heap) (H : Heap) (locs : List Loc) (ls : Array Slot) (hK : va_K (dC, dI) vwCl [(cL, (.object RX1)), (cT, (.object RX5)), (cO, .long), (cD, .double)] s) (hP : va_P (dC, dI) vwCl [(h0, .inr (11, zC a)), ((a 0), .inl (cL, 10, .inr (.inr (.inr (.inr (fun _ => none)))))), ((a 3), .inl (cT, 6, .inr (.inr (.inr (.inr (fun _ => none)))))), (g0, .inr (15, zM 0 bb)), ((bb 0), .inr (4, [.int 0, .ref e0, .int 0])), ((bb 1), .inr (4, [.int 0, .ref e0, .int 0])), ((bb 2), .inr (4, [.int 0, .ref e0, .int 0])), ((bb 3), .inr (4, [.int 0, .ref e0, .int 0])), (o, .inl (cO, 1, .inr (.inl (fun _ => 0)))), (od, .inl (cD, 1, .inr (.inr (.inr (.inl (fun _ => 0))))))] H) (hD : va_D A [(h0, .inr (11, zC a)), ((a 0), .inl (cL, 10, .inr (.inr (.inr (.inr (fun _ => none)))))), ((a 3), .inl (cT, 6, .inr (.inr (.inr (.inr (fun _ => none)))))), (g0, .inr (15, zM 0 bb)), ((bb 0), .inr (4, [.int 0, .ref e0, .int 0])), ((bb 1), .inr (4, [.int 0, .ref e0, .int 0])), ((bb 2), .inr (4, [.int 0, .ref e0, .int 0])), ((bb 3), .inr (4, [.int 0, .ref e0, .int 0])), (o, .inl (cO, 1, .inr (.inl (fun _ => 0)))), (od, .inl (cD, 1, .inr (.inr (.inr (.inl (fun _ => 0))))))]) (hS : va_S A s.heap H locs) (hl : lv_has ls 9 [(0, .ref b), (1, .ref h0), (2, .ref g0), (3, .ref o), (4, .ref od), (5, .int 0)]) : W p l e room_1 s m #[Value.ref b] below meth c H locs (86) (1094) (lw_Z below #[Value.ref b] s) (F0 m 1291 ls []) := by
  obtain ⟨hx, hb, hr, hml, hown, ht0, hX, hbl, hlocks, hgv⟩ := id C0
  have hts := ht0
  have hbA : ¬ A b := fun h => absurd hbl (Nat.not_lt.mpr (hA2 b h))
  refine lv_aload_n hx hb dL_law_1291 rfl (lv_at hl 1 rfl) ?_
  refine lv_aload_n hx hb dL_law_1292 rfl (lv_at hl 0 rfl) ?_
  refine lv_iload hx hb dL_law_1293 (lv_at hl 5 rfl) ?_
  refine lv_iconst (v := 1) hx hb dL_law_1295 (by decide) ?_
  refine lv_iadd hx hb dL_law_1296 ?_
  refine lv_topi (fun y1 e2 => ?_)
  obtain rfl : y1 = 1 := e2.trans (by decide)
  refine va_sld hx hb hX hbl hbA hS (by unfold vp_in; decide) dL_law_1297 ?_
  refine lv_aload_n hx hb dL_law_1298 rfl (lv_at hl 0 rfl) ?_
  refine lv_iload hx hb dL_law_1299 (lv_at hl 5 rfl) ?_
  refine lv_iconst (v := 2) hx hb dL_law_1301 (by decide) ?_
  refine lv_iadd hx hb dL_law_1302 ?_
  refine lv_topi (fun y3 e4 => ?_)
  obtain rfl : y3 = 2 := e4.trans (by decide)
  refine va_sld hx hb hX hbl hbA hS (by unfold vp_in; decide) dL_law_1303 ?_
  refine lv_aload_n hx hb dL_law_1304 rfl (lv_at hl 3 rfl) ?_
  have hPc := hP.sub (ws' := [(h0, .inr (11, zC a))]) [0] rfl
  have hDc := hD.sub (ws' := [(h0, .inr (11, zC a))]) [0] (by decide) rfl
  have hKc := hK.sub (tys' := []) [] rfl
  have hFc := va_free (wc := [(h0, .inr (11, zC a))]) hD hS hA [0] rfl
  have hEc := (hE.kept hS.2.1).narrow hFc
  refine vx_calli (vx_runSX (As := [.ref h0, .int (xs (1 : Int32).toNatClampNeg), .int (xs (2 : Int32).toNatClampNeg), .ref o]) (rest := []) ⟨hx, hb, hml, hown, hts⟩ (c_L_feed l htr dC dI e0 H.size h0 a (xs (1 : Int32).toNatClampNeg) (xs (2 : Int32).toNatClampNeg) o) (vx_cwSW 4 hts gL_law_L_feed rfl rfl rfl (by decide +kernel) ⟨Nat.le_of_ble_eq_true rfl, Nat.le_of_ble_eq_true rfl⟩) ⟨fun a U g mk q => by obtain ⟨q0, q1, qP, qK, qD, qE⟩ := q; exact ⟨q0, q1, qP, va_K.moved (u := U) (U := U.calling g mk a) (Vm.Alike.refl U.vm) qK, qD, zE.same rfl qE⟩, fun U hU hW => ⟨rfl, by rw [hU], by rw [hU]; exact hPc, va_K.moved hW.alike hKc, hDc.weaken (fun _ _ _ _ => trivial), by rw [hU]; exact zE.warm hW hEc⟩⟩ rfl rfl hl.1 rfl (lv_room (Nat.le_of_ble_eq_true rfl)) dL_law_1305 ⟨Nat.le_of_ble_eq_true rfl, Nat.le_of_ble_eq_true rfl⟩) hS (fun q _ h => hFc q h) hFc (fun q _ h => hFc q h) (fun E ce q9 u t H1 locs1 ht hvm hpx hBX hz1 hk1 hS hce hcv hcl => absurd hpx id) (fun r5 u t H1 locs ht hvm hw hB hz1 hk1 hS => ?_)
  have hP1 : va_P (dC, dI) vwCl [] H1 := fun k q h => by simp at h
  have hD1 : va_D (va_A [(h0, .inr (11, zC a))] H.size) [] := ⟨fun i j p q h => by simp at h, fun k q h => by simp at h⟩
  obtain ⟨hP, hD⟩ := va_join (wr := [((a 0), .inl (cL, 10, .inr (.inr (.inr (.inr (fun _ => none)))))), ((a 3), .inl (cT, 6, .inr (.inr (.inr (.inr (fun _ => none)))))), (g0, .inr (15, zM 0 bb)), ((bb 0), .inr (4, [.int 0, .ref e0, .int 0])), ((bb 1), .inr (4, [.int 0, .ref e0, .int 0])), ((bb 2), .inr (4, [.int 0, .ref e0, .int 0])), ((bb 3), .inr (4, [.int 0, .ref e0, .int 0])), (o, .inl (cO, 1, .inr (.inl (fun _ => 0)))), (od, .inl (cD, 1, .inr (.inr (.inr (.inl (fun _ => 0))))))]) (w1 := []) hP hD [0] [1, 2, 3, 4, 5, 6, 7, 8, 9] rfl rfl (by decide) (by decide) hk1 hFc hP1 hD1
  generalize H1 = H at hP hS ⊢
  have hP : va_P (dC, dI) vwCl [((a 0), .inl (cL, 10, .inr (.inr (.inr (.inr (fun _ => none)))))), ((a 3), .inl (cT, 6, .inr (.inr (.inr (.inr (fun _ => none)))))), (g0, .inr (15, zM 0 bb)), ((bb 0), .inr (4, [.int 0, .ref e0, .int 0])), ((bb 1), .inr (4, [.int 0, .ref e0, .int 0])), ((bb 2), .inr (4, [.int 0, .ref e0, .int 0])), ((bb 3), .inr (4, [.int 0, .ref e0, .int 0])), (o, .inl (cO, 1, .inr (.inl (fun _ => 0)))), (od, .inl (cD, 1, .inr (.inr (.inr (.inl (fun _ => 0))))))] H := hP
  have hD : va_D A [((a 0), .inl (cL, 10, .inr (.inr (.inr (.inr (fun _ => none)))))), ((a 3), .inl (cT, 6, .inr (.inr (.inr (.inr (fun _ => none)))))), (g0, .inr (15, zM 0 bb)), ((bb 0), .inr (4, [.int 0, .ref e0, .int 0])), ((bb 1), .inr (4, [.int 0, .ref e0, .int 0])), ((bb 2), .inr (4, [.int 0, .ref e0, .int 0])), ((bb 3), .inr (4, [.int 0, .ref e0, .int 0])), (o, .inl (cO, 1, .inr (.inl (fun _ => 0)))), (od, .inl (cD, 1, .inr (.inr (.inr (.inl (fun _ => 0))))))] := hD
  obtain rfl : r5 = 1 := hw
  refine lv_istore (lv' := [(6, .int 1), (0, .ref b), (1, .ref h0), (2, .ref g0), (3, .ref o), (4, .ref od), (5, .int 0)]) hx hb dL_law_1308 hl (by decide) rfl (fun ls hl => ?_)
  refine lv_aload_n hx hb dL_law_1310 rfl (lv_at hl 3 rfl) ?_
  refine lv_aload_n hx hb dL_law_1311 rfl (lv_at hl 1 rfl) ?_
  refine lv_iload hx hb dL_law_1312 (lv_at hl 6 rfl) ?_
  refine lv_iconst (v := 1) hx hb dL_law_1314 (by decide) ?_
  refine lv_iadd hx hb dL_law_1315 ?_
  refine lv_topi (fun y6 e7 => ?_)
  obtain rfl : y6 = 1 := e7.trans (by decide)
  refine va_sld hx hb hX hbl hbA hS (by unfold vp_in; decide) dL_law_1316 ?_
  refine lv_aload_n hx hb dL_law_1317 rfl (lv_at hl 1 rfl) ?_
  refine lv_iload hx hb dL_law_1318 (lv_at hl 6 rfl) ?_
  refine lv_iconst (v := 2) hx hb dL_law_1320 (by decide) ?_
  refine lv_iadd hx hb dL_law_1321 ?_
  refine lv_topi (fun y8 e9 => ?_)
  obtain rfl : y8 = 2 := e9.trans (by decide)
  refine va_sld hx hb hX hbl hbA hS (by unfold vp_in; decide) dL_law_1322 ?_
  have hPc := hP.sub (ws' := [(g0, .inr (15, zM 0 bb)), ((bb 0), .inr (4, [.int 0, .ref e0, .int 0])), ((bb 1), .inr (4, [.int 0, .ref e0, .int 0])), ((bb 2), .inr (4, [.int 0, .ref e0, .int 0])), ((bb 3), .inr (4, [.int 0, .ref e0, .int 0]))]) [2, 3, 4, 5, 6] rfl
  have hDc := hD.sub (ws' := [(g0, .inr (15, zM 0 bb)), ((bb 0), .inr (4, [.int 0, .ref e0, .int 0])), ((bb 1), .inr (4, [.int 0, .ref e0, .int 0])), ((bb 2), .inr (4, [.int 0, .ref e0, .int 0])), ((bb 3), .inr (4, [.int 0, .ref e0, .int 0]))]) [2, 3, 4, 5, 6] (by decide) rfl
  have hKc := hK.sub (tys' := []) [] rfl
  have hFc := va_free (wc := [(g0, .inr (15, zM 0 bb)), ((bb 0), .inr (4, [.int 0, .ref e0, .int 0])), ((bb 1), .inr (4, [.int 0, .ref e0, .int 0])), ((bb 2), .inr (4, [.int 0, .ref e0, .int 0])), ((bb 3), .inr (4, [.int 0, .ref e0, .int 0]))]) hD hS hA [2, 3, 4, 5, 6] rfl
  have hEc := (hE.kept hS.2.1).narrow hFc
  refine va_calli (va_runV (As := [.int (xs (1 : Int32).toNatClampNeg), .int (xs (2 : Int32).toNatClampNeg)]) (rest := []) ⟨hx, hb, hml, hown, hts⟩ (c_X10_feed l htr dC dI e0 H.size g0 0 bb (xs (1 : Int32).toNatClampNeg) (xs (2 : Int32).toNatClampNeg)) (cwV 2 hts gL_law_X10_feed rfl rfl rfl (by decide +kernel) ⟨Nat.le_of_ble_eq_true rfl, Nat.le_of_ble_eq_true rfl⟩) ⟨fun a U g mk q => by obtain ⟨q0, q1, qP, qK, qD, qE⟩ := q; exact ⟨q0, q1, qP, va_K.moved (u := U) (U := U.calling g mk a) (Vm.Alike.refl U.vm) qK, qD, zE.same rfl qE⟩, va_recv hKc hPc (ci := 15) (q0 := 0) rfl rfl, fun U hU hW => ⟨rfl, by rw [hU], by rw [hU]; exact hPc, va_K.moved hW.alike hKc, hDc.weaken (fun _ _ _ _ => trivial), by rw [hU]; exact zE.warm hW hEc⟩⟩ rfl rfl hl.1 rfl (lv_room (Nat.le_of_ble_eq_true rfl)) dL_law_1323 ⟨Nat.le_of_ble_eq_true rfl, Nat.le_of_ble_eq_true rfl⟩) hS (fun q _ h => hFc q h) hFc (fun r10 u t H1 locs ht hvm hw hB hz1 hk1 hS => ?_)
  obtain ⟨hP1, hK1, hD1⟩ := hB
  rw [ht] at hP1
  obtain ⟨hP, hD⟩ := va_join (wr := [((a 0), .inl (cL, 10, .inr (.inr (.inr (.inr (fun _ => none)))))), ((a 3), .inl (cT, 6, .inr (.inr (.inr (.inr (fun _ => none)))))), (o, .inl (cO, 1, .inr (.inl (fun _ => 0)))), (od, .inl (cD, 1, .inr (.inr (.inr (.inl (fun _ => 0))))))]) (w1 := [(g0, .inr (15, zM 1 bb))]) hP hD [2, 3, 4, 5, 6] [0, 1, 7, 8] rfl rfl (by decide) (by decide) hk1 hFc hP1 hD1
  generalize H1 = H at hP hS ⊢
  have hP : va_P (dC, dI) vwCl [((a 0), .inl (cL, 10, .inr (.inr (.inr (.inr (fun _ => none)))))), ((a 3), .inl (cT, 6, .inr (.inr (.inr (.inr (fun _ => none)))))), (o, .inl (cO, 1, .inr (.inl (fun _ => 0)))), (od, .inl (cD, 1, .inr (.inr (.inr (.inl (fun _ => 0)))))), (g0, .inr (15, zM 1 bb))] H := hP
  have hD : va_D A [((a 0), .inl (cL, 10, .inr (.inr (.inr (.inr (fun _ => none)))))), ((a 3), .inl (cT, 6, .inr (.inr (.inr (.inr (fun _ => none)))))), (o, .inl (cO, 1, .inr (.inl (fun _ => 0)))), (od, .inl (cD, 1, .inr (.inr (.inr (.inl (fun _ => 0)))))), (g0, .inr (15, zM 1 bb))] := hD
  obtain rfl : r10 = 0 := hw
  refine lv_istore (lv' := [(7, .int 0), (6, .int 1), (0, .ref b), (1, .ref h0), (2, .ref g0), (3, .ref o), (4, .ref od), (5, .int 0)]) hx hb dL_law_1326 hl (by decide) rfl (fun ls hl => ?_)
  refine lv_aload_n hx hb dL_law_1328 rfl (lv_at hl 4 rfl) ?_
  have hPc := hP.sub (ws' := [(g0, .inr (15, [.int 1, .ref (bb 0), .ref (bb 1), .ref (bb 2), .ref (bb 3), .int 0, .long 0, .int 0, .int 0, .int 0, .int 0]))]) [4] rfl
  have hDc := hD.sub (ws' := [(g0, .inr (15, [.int 1, .ref (bb 0), .ref (bb 1), .ref (bb 2), .ref (bb 3), .int 0, .long 0, .int 0, .int 0, .int 0, .int 0]))]) [4] (by decide) rfl
  have hKc := hK.sub (tys' := []) [] rfl
  have hFc := va_free (wc := [(g0, .inr (15, [.int 1, .ref (bb 0), .ref (bb 1), .ref (bb 2), .ref (bb 3), .int 0, .long 0, .int 0, .int 0, .int 0, .int 0]))]) hD hS hA [4] rfl
  refine va_calli (va_runV (As := []) (rest := []) ⟨hx, hb, hml, hown, hts⟩ (c_X10_thrown l htr dC dI e0 H.size g0 1 (bb 0) (bb 1) (bb 2) (bb 3) 0 0 0 0 0 0) (cwV 0 hts gL_law_X10_thrown rfl rfl rfl (by decide +kernel) ⟨Nat.le_of_ble_eq_true rfl, Nat.le_of_ble_eq_true rfl⟩) ⟨fun a U g mk q => by obtain ⟨q0, q1, qP, qK, qD⟩ := q; exact ⟨q0, q1, qP, va_K.moved (u := U) (U := U.calling g mk a) (Vm.Alike.refl U.vm) qK, qD⟩, va_recv hKc hPc (ci := 15) (q0 := 0) rfl rfl, fun U hU hW => ⟨rfl, by rw [hU], by rw [hU]; exact hPc, va_K.moved hW.alike hKc, hDc.weaken (fun _ _ _ _ => trivial)⟩⟩ rfl rfl hl.1 rfl (lv_room (Nat.le_of_ble_eq_true rfl)) dL_law_1329 ⟨Nat.le_of_ble_eq_true rfl, Nat.le_of_ble_eq_true rfl⟩) hS (fun q _ h => hFc q h) hFc (fun r11 u t H1 locs ht hvm hw hB hz1 hk1 hS => ?_)
  obtain ⟨hP1, hK1, hD1⟩ := hB
  rw [ht] at hP1
  obtain ⟨hP, hD⟩ := va_join (wr := [((a 0), .inl (cL, 10, .inr (.inr (.inr (.inr (fun _ => none)))))), ((a 3), .inl (cT, 6, .inr (.inr (.inr (.inr (fun _ => none)))))), (o, .inl (cO, 1, .inr (.inl (fun _ => 0)))), (od, .inl (cD, 1, .inr (.inr (.inr (.inl (fun _ => 0))))))]) (w1 := [(g0, .inr (15, [.int 1, .ref (bb 0), .ref (bb 1), .ref (bb 2), .ref (bb 3), .int 0, .long 0, .int 0, .int 0, .int 0, .int 0]))]) hP hD [4] [0, 1, 2, 3] rfl rfl (by decide) (by decide) hk1 hFc hP1 hD1
  generalize H1 = H at hP hS ⊢
  have hP : va_P (dC, dI) vwCl [((a 0), .inl (cL, 10, .inr (.inr (.inr (.inr (fun _ => none)))))), ((a 3), .inl (cT, 6, .inr (.inr (.inr (.inr (fun _ => none)))))), (o, .inl (cO, 1, .inr (.inl (fun _ => 0)))), (od, .inl (cD, 1, .inr (.inr (.inr (.inl (fun _ => 0)))))), (g0, .inr (15, [.int 1, .ref (bb 0), .ref (bb 1), .ref (bb 2), .ref (bb 3), .int 0, .long 0, .int 0, .int 0, .int 0, .int 0]))] H := hP
  have hD : va_D A [((a 0), .inl (cL, 10, .inr (.inr (.inr (.inr (fun _ => none)))))), ((a 3), .inl (cT, 6, .inr (.inr (.inr (.inr (fun _ => none)))))), (o, .inl (cO, 1, .inr (.inl (fun _ => 0)))), (od, .inl (cD, 1, .inr (.inr (.inr (.inl (fun _ => 0)))))), (g0, .inr (15, [.int 1, .ref (bb 0), .ref (bb 1), .ref (bb 2), .ref (bb 3), .int 0, .long 0, .int 0, .int 0, .int 0, .int 0]))] := hD
  obtain rfl : r11 = 1 := hw
  refine lv_iload hx hb dL_law_1332 (lv_at hl 1 rfl) ?_
  refine lv_icmp_eq (tgt := 1339) hx hb dL_law_1334 (by decide) (fun _ => ?_) (fun c12 => absurd (by decide) c12)
  refine lv_iload hx hb dL_law_1339 (lv_at hl 1 rfl) ?_
  refine lv_if_ne (tgt := 1356) hx hb dL_law_1341 (by decide) (fun _ => ?_) (fun c13 => absurd c13 (by decide))
  refine lv_goto (tgt := 3259) hx hb dL_law_1356 (by decide) ?_
  exact zl_end C0 hA2 (Nat.le_of_ble_eq_true rfl) (Nat.le_of_ble_eq_true rfl) hS (lv_sub hl [7, 2] rfl)
