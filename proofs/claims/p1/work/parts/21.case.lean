theorem dL_law_248 : decode cL_law 248 = .ok (.aload_n 1, 1) := by decide +kernel
theorem dL_law_249 : decode cL_law 249 = .ok (.aload_n 0, 1) := by decide +kernel
theorem dL_law_250 : decode cL_law 250 = .ok (.iload 5, 2) := by decide +kernel
theorem dL_law_252 : decode cL_law 252 = .ok (.iconst 1, 1) := by decide +kernel
theorem dL_law_253 : decode cL_law 253 = .ok (.iadd, 1) := by decide +kernel
theorem dL_law_254 : decode cL_law 254 = .ok (.iaload, 1) := by decide +kernel
theorem dL_law_255 : decode cL_law 255 = .ok (.aload_n 0, 1) := by decide +kernel
theorem dL_law_256 : decode cL_law 256 = .ok (.iload 5, 2) := by decide +kernel
theorem dL_law_258 : decode cL_law 258 = .ok (.iconst 2, 1) := by decide +kernel
theorem dL_law_259 : decode cL_law 259 = .ok (.iadd, 1) := by decide +kernel
theorem dL_law_260 : decode cL_law 260 = .ok (.iaload, 1) := by decide +kernel
theorem dL_law_261 : decode cL_law 261 = .ok (.aload_n 0, 1) := by decide +kernel
theorem dL_law_262 : decode cL_law 262 = .ok (.iload 5, 2) := by decide +kernel
theorem dL_law_264 : decode cL_law 264 = .ok (.iconst 3, 1) := by decide +kernel
theorem dL_law_265 : decode cL_law 265 = .ok (.iadd, 1) := by decide +kernel
theorem dL_law_266 : decode cL_law 266 = .ok (.iaload, 1) := by decide +kernel
theorem dL_law_267 : decode cL_law 267 = .ok (.aload_n 3, 1) := by decide +kernel
theorem dL_law_268 : decode cL_law 268 = .ok (.invokestatic 177, 3) := by decide +kernel
theorem dL_law_271 : decode cL_law 271 = .ok (.istore 6, 2) := by decide +kernel
theorem dL_law_273 : decode cL_law 273 = .ok (.aload_n 2, 1) := by decide +kernel
theorem dL_law_274 : decode cL_law 274 = .ok (.aload_n 0, 1) := by decide +kernel
theorem dL_law_275 : decode cL_law 275 = .ok (.iload 5, 2) := by decide +kernel
theorem dL_law_277 : decode cL_law 277 = .ok (.iconst 1, 1) := by decide +kernel
theorem dL_law_278 : decode cL_law 278 = .ok (.iadd, 1) := by decide +kernel
theorem dL_law_279 : decode cL_law 279 = .ok (.iaload, 1) := by decide +kernel
theorem dL_law_280 : decode cL_law 280 = .ok (.aload_n 0, 1) := by decide +kernel
theorem dL_law_281 : decode cL_law 281 = .ok (.iload 5, 2) := by decide +kernel
theorem dL_law_283 : decode cL_law 283 = .ok (.iconst 2, 1) := by decide +kernel
theorem dL_law_284 : decode cL_law 284 = .ok (.iadd, 1) := by decide +kernel
theorem dL_law_285 : decode cL_law 285 = .ok (.iaload, 1) := by decide +kernel
theorem dL_law_286 : decode cL_law 286 = .ok (.aload_n 0, 1) := by decide +kernel
theorem dL_law_287 : decode cL_law 287 = .ok (.iload 5, 2) := by decide +kernel
theorem dL_law_289 : decode cL_law 289 = .ok (.iconst 3, 1) := by decide +kernel
theorem dL_law_290 : decode cL_law 290 = .ok (.iadd, 1) := by decide +kernel
theorem dL_law_291 : decode cL_law 291 = .ok (.iaload, 1) := by decide +kernel
theorem dL_law_292 : decode cL_law 292 = .ok (.invokevirtual 182, 3) := by decide +kernel
theorem dL_law_295 : decode cL_law 295 = .ok (.istore 7, 2) := by decide +kernel
theorem dL_law_297 : decode cL_law 297 = .ok (.aload_n 2, 1) := by decide +kernel
theorem dL_law_298 : decode cL_law 298 = .ok (.invokevirtual 183, 3) := by decide +kernel
theorem dL_law_301 : decode cL_law 301 = .ok (.iload 6, 2) := by decide +kernel
theorem dL_law_303 : decode cL_law 303 = .ok (.if_icmp .eq 5, 3) := by decide +kernel
theorem dL_law_308 : decode cL_law 308 = .ok (.iload 6, 2) := by decide +kernel
theorem dL_law_310 : decode cL_law 310 = .ok (.ifCond .ne 15, 3) := by decide +kernel
theorem dL_law_313 : decode cL_law 313 = .ok (.aload_n 3, 1) := by decide +kernel
theorem dL_law_314 : decode cL_law 314 = .ok (.iconst 0, 1) := by decide +kernel
theorem dL_law_315 : decode cL_law 315 = .ok (.laload, 1) := by decide +kernel
theorem dL_law_316 : decode cL_law 316 = .ok (.iload 7, 2) := by decide +kernel
theorem dL_law_318 : decode cL_law 318 = .ok (.i2l, 1) := by decide +kernel
theorem dL_law_319 : decode cL_law 319 = .ok (.lcmp, 1) := by decide +kernel
theorem dL_law_320 : decode cL_law 320 = .ok (.ifCond .eq 5, 3) := by decide +kernel
theorem dL_law_325 : decode cL_law 325 = .ok (.goto 2934, 3) := by decide +kernel
set_option maxHeartbeats 4000000 in
set_option maxRecDepth 100000 in
/-- leg, called on the two fresh objects -/
theorem zl_0_in {p : Program} {l : Launch} {e : Env} {s : State} {m : MethodId} {below : List Frame} {meth : Method} {c : Code} {b : Nat} {xs : Nat → Int32} {A : Nat → Prop} (C0 : lw_At p s m meth c b 5 xs) (hA : ∀ q : Nat, s.heap.size ≤ q → A q) (hA2 : ∀ q : Nat, A q → s.heap.size ≤ q) (htr : l.stackTraces = false) (dC : Nat → ClassId) (dI : Nat → Nat → Nat) (e0 h0 g0 o od : Nat) (a bb : Nat → Nat) (cL cT cO cD : ClassId) (hE : zE e0 A s s.heap) (H : Heap) (locs : List Loc) (ls : Array Slot) (hK : va_K (dC, dI) vwCl [(cL, (.object RX1)), (cT, (.object RX5)), (cO, .long), (cD, .double)] s) (hP : va_P (dC, dI) vwCl [(h0, .inr (11, zC a)), ((a 0), .inl (cL, 10, .inr (.inr (.inr (.inr (fun _ => none)))))), ((a 3), .inl (cT, 6, .inr (.inr (.inr (.inr (fun _ => none)))))), (g0, .inr (15, zM 0 bb)), ((bb 0), .inr (4, [.int 0, .ref e0, .int 0])), ((bb 1), .inr (4, [.int 0, .ref e0, .int 0])), ((bb 2), .inr (4, [.int 0, .ref e0, .int 0])), ((bb 3), .inr (4, [.int 0, .ref e0, .int 0])), (o, .inl (cO, 1, .inr (.inl (fun _ => 0)))), (od, .inl (cD, 1, .inr (.inr (.inr (.inl (fun _ => 0))))))] H) (hD : va_D A [(h0, .inr (11, zC a)), ((a 0), .inl (cL, 10, .inr (.inr (.inr (.inr (fun _ => none)))))), ((a 3), .inl (cT, 6, .inr (.inr (.inr (.inr (fun _ => none)))))), (g0, .inr (15, zM 0 bb)), ((bb 0), .inr (4, [.int 0, .ref e0, .int 0])), ((bb 1), .inr (4, [.int 0, .ref e0, .int 0])), ((bb 2), .inr (4, [.int 0, .ref e0, .int 0])), ((bb 3), .inr (4, [.int 0, .ref e0, .int 0])), (o, .inl (cO, 1, .inr (.inl (fun _ => 0)))), (od, .inl (cD, 1, .inr (.inr (.inr (.inl (fun _ => 0))))))]) (hS : va_S A s.heap H locs) (hl : lv_has ls 9 [(0, .ref b), (1, .ref h0), (2, .ref g0), (3, .ref o), (4, .ref od), (5, .int 0)]) (hin : ((5 ≤ (xs (1 : Int32).toNatClampNeg) ∧ (xs (1 : Int32).toNatClampNeg) ≤ 120) ∧ (0 ≤ (xs (2 : Int32).toNatClampNeg) ∧ (xs (2 : Int32).toNatClampNeg) ≤ 9) ∧ ((-9) ≤ (xs (3 : Int32).toNatClampNeg) ∧ (xs (3 : Int32).toNatClampNeg) ≤ 9))) : W p l e room_1 s m #[Value.ref b] below meth c H locs (86) (1094) (lw_Z below #[Value.ref b] s) (F0 m 248 ls []) := by
  obtain ⟨hx, hb, hr, hml, hown, ht0, hX, hbl, hlocks, hgv⟩ := id C0
  have hts := ht0
  have hbA : ¬ A b := fun h => absurd hbl (Nat.not_lt.mpr (hA2 b h))
  have h64 : ((5 ≤ ((xs (1 : Int32).toNatClampNeg)).toInt64 ∧ ((xs (1 : Int32).toNatClampNeg)).toInt64 ≤ 120) ∧ (0 ≤ ((xs (2 : Int32).toNatClampNeg)).toInt64 ∧ ((xs (2 : Int32).toNatClampNeg)).toInt64 ≤ 9) ∧ ((-9) ≤ ((xs (3 : Int32).toNatClampNeg)).toInt64 ∧ ((xs (3 : Int32).toNatClampNeg)).toInt64 ≤ 9)) := zb_leg.mpr hin
  refine lv_aload_n hx hb dL_law_248 rfl (lv_at hl 1 rfl) ?_
  refine lv_aload_n hx hb dL_law_249 rfl (lv_at hl 0 rfl) ?_
  refine lv_iload hx hb dL_law_250 (lv_at hl 5 rfl) ?_
  refine lv_iconst (v := 1) hx hb dL_law_252 (by decide) ?_
  refine lv_iadd hx hb dL_law_253 ?_
  refine lv_topi (fun y1 e2 => ?_)
  obtain rfl : y1 = 1 := e2.trans (by decide)
  refine va_sld hx hb hX hbl hbA hS (by unfold vp_in; decide) dL_law_254 ?_
  refine lv_aload_n hx hb dL_law_255 rfl (lv_at hl 0 rfl) ?_
  refine lv_iload hx hb dL_law_256 (lv_at hl 5 rfl) ?_
  refine lv_iconst (v := 2) hx hb dL_law_258 (by decide) ?_
  refine lv_iadd hx hb dL_law_259 ?_
  refine lv_topi (fun y3 e4 => ?_)
  obtain rfl : y3 = 2 := e4.trans (by decide)
  refine va_sld hx hb hX hbl hbA hS (by unfold vp_in; decide) dL_law_260 ?_
  refine lv_aload_n hx hb dL_law_261 rfl (lv_at hl 0 rfl) ?_
  refine lv_iload hx hb dL_law_262 (lv_at hl 5 rfl) ?_
  refine lv_iconst (v := 3) hx hb dL_law_264 (by decide) ?_
  refine lv_iadd hx hb dL_law_265 ?_
  refine lv_topi (fun y5 e6 => ?_)
  obtain rfl : y5 = 3 := e6.trans (by decide)
  refine va_sld hx hb hX hbl hbA hS (by unfold vp_in; decide) dL_law_266 ?_
  refine lv_aload_n hx hb dL_law_267 rfl (lv_at hl 3 rfl) ?_
  have hPc := hP.sub (ws' := [(h0, .inr (11, zC a)), ((a 0), .inl (cL, 10, .inr (.inr (.inr (.inr (fun _ => none)))))), (o, .inl (cO, 1, .inr (.inl (fun _ => 0))))]) [0, 1, 8] rfl
  have hDc := hD.sub (ws' := [(h0, .inr (11, zC a)), ((a 0), .inl (cL, 10, .inr (.inr (.inr (.inr (fun _ => none)))))), (o, .inl (cO, 1, .inr (.inl (fun _ => 0))))]) [0, 1, 8] (by decide) rfl
  have hKc := hK.sub (tys' := [(cL, (.object RX1)), (cO, .long)]) [0, 2] rfl
  have hFc := va_free (wc := [(h0, .inr (11, zC a)), ((a 0), .inl (cL, 10, .inr (.inr (.inr (.inr (fun _ => none)))))), (o, .inl (cO, 1, .inr (.inl (fun _ => 0))))]) hD hS hA [0, 1, 8] rfl
  have hEc := (hE.kept hS.2.1).narrow hFc
  refine vx_calli (vx_runSX (As := [.ref h0, .int (xs (1 : Int32).toNatClampNeg), .int (xs (2 : Int32).toNatClampNeg), .int (xs (3 : Int32).toNatClampNeg), .ref o]) (rest := []) ⟨hx, hb, hml, hown, hts⟩ (c_L_leg_in l htr dC dI e0 H.size h0 a cL (xs (1 : Int32).toNatClampNeg) (xs (2 : Int32).toNatClampNeg) (xs (3 : Int32).toNatClampNeg) o cO (fun _ => 0) hin) (vx_cwSW 5 hts gL_law_L_leg rfl rfl rfl (by decide +kernel) ⟨Nat.le_of_ble_eq_true rfl, Nat.le_of_ble_eq_true rfl⟩) ⟨fun a U g mk q => by obtain ⟨q0, q1, qP, qK, qD, qE⟩ := q; exact ⟨q0, q1, qP, va_K.moved (u := U) (U := U.calling g mk a) (Vm.Alike.refl U.vm) qK, qD, zE.same rfl qE⟩, fun U hU hW => ⟨rfl, by rw [hU], by rw [hU]; exact hPc, va_K.moved hW.alike hKc, hDc.weaken (fun _ _ _ _ => trivial), by rw [hU]; exact zE.warm hW hEc⟩⟩ rfl rfl hl.1 rfl (lv_room (Nat.le_of_ble_eq_true rfl)) dL_law_268 ⟨Nat.le_of_ble_eq_true rfl, Nat.le_of_ble_eq_true rfl⟩) hS (fun q _ h => hFc q h) hFc (fun q _ h => hFc q h) (fun E ce q9 u t H1 locs1 ht hvm hpx hBX hz1 hk1 hS hce hcv hcl => absurd hpx id) (fun r7 u t H1 locs ht hvm hw hB hz1 hk1 hS => ?_)
  obtain ⟨hP1, hK1, hD1⟩ := hB
  rw [ht] at hP1
  obtain ⟨hP, hD⟩ := va_join (wr := [((a 3), .inl (cT, 6, .inr (.inr (.inr (.inr (fun _ => none)))))), (g0, .inr (15, zM 0 bb)), ((bb 0), .inr (4, [.int 0, .ref e0, .int 0])), ((bb 1), .inr (4, [.int 0, .ref e0, .int 0])), ((bb 2), .inr (4, [.int 0, .ref e0, .int 0])), ((bb 3), .inr (4, [.int 0, .ref e0, .int 0])), (od, .inl (cD, 1, .inr (.inr (.inr (.inl (fun _ => 0))))))]) (w1 := [(o, .inl (cO, 1, .inr (.inl (vp_updL (fun _ => 0) (0 : Int32).toNatClampNeg 0))))]) hP hD [0, 1, 8] [2, 3, 4, 5, 6, 7, 9] rfl rfl (by decide) (by decide) hk1 hFc hP1 hD1
  generalize H1 = H at hP hS ⊢
  have hP : va_P (dC, dI) vwCl [((a 3), .inl (cT, 6, .inr (.inr (.inr (.inr (fun _ => none)))))), (g0, .inr (15, zM 0 bb)), ((bb 0), .inr (4, [.int 0, .ref e0, .int 0])), ((bb 1), .inr (4, [.int 0, .ref e0, .int 0])), ((bb 2), .inr (4, [.int 0, .ref e0, .int 0])), ((bb 3), .inr (4, [.int 0, .ref e0, .int 0])), (od, .inl (cD, 1, .inr (.inr (.inr (.inl (fun _ => 0)))))), (o, .inl (cO, 1, .inr (.inl (vp_updL (fun _ => 0) (0 : Int32).toNatClampNeg 0))))] H := hP
  have hD : va_D A [((a 3), .inl (cT, 6, .inr (.inr (.inr (.inr (fun _ => none)))))), (g0, .inr (15, zM 0 bb)), ((bb 0), .inr (4, [.int 0, .ref e0, .int 0])), ((bb 1), .inr (4, [.int 0, .ref e0, .int 0])), ((bb 2), .inr (4, [.int 0, .ref e0, .int 0])), ((bb 3), .inr (4, [.int 0, .ref e0, .int 0])), (od, .inl (cD, 1, .inr (.inr (.inr (.inl (fun _ => 0)))))), (o, .inl (cO, 1, .inr (.inl (vp_updL (fun _ => 0) (0 : Int32).toNatClampNeg 0))))] := hD
  obtain rfl : r7 = 0 := hw
  refine lv_istore (lv' := [(6, .int 0), (0, .ref b), (1, .ref h0), (2, .ref g0), (3, .ref o), (4, .ref od), (5, .int 0)]) hx hb dL_law_271 hl (by decide) rfl (fun ls hl => ?_)
  refine lv_aload_n hx hb dL_law_273 rfl (lv_at hl 3 rfl) ?_
  refine lv_aload_n hx hb dL_law_274 rfl (lv_at hl 1 rfl) ?_
  refine lv_iload hx hb dL_law_275 (lv_at hl 6 rfl) ?_
  refine lv_iconst (v := 1) hx hb dL_law_277 (by decide) ?_
  refine lv_iadd hx hb dL_law_278 ?_
  refine lv_topi (fun y8 e9 => ?_)
  obtain rfl : y8 = 1 := e9.trans (by decide)
  refine va_sld hx hb hX hbl hbA hS (by unfold vp_in; decide) dL_law_279 ?_
  refine lv_aload_n hx hb dL_law_280 rfl (lv_at hl 1 rfl) ?_
  refine lv_iload hx hb dL_law_281 (lv_at hl 6 rfl) ?_
  refine lv_iconst (v := 2) hx hb dL_law_283 (by decide) ?_
  refine lv_iadd hx hb dL_law_284 ?_
  refine lv_topi (fun y10 e11 => ?_)
  obtain rfl : y10 = 2 := e11.trans (by decide)
  refine va_sld hx hb hX hbl hbA hS (by unfold vp_in; decide) dL_law_285 ?_
  refine lv_aload_n hx hb dL_law_286 rfl (lv_at hl 1 rfl) ?_
  refine lv_iload hx hb dL_law_287 (lv_at hl 6 rfl) ?_
  refine lv_iconst (v := 3) hx hb dL_law_289 (by decide) ?_
  refine lv_iadd hx hb dL_law_290 ?_
  refine lv_topi (fun y12 e13 => ?_)
  obtain rfl : y12 = 3 := e13.trans (by decide)
  refine va_sld hx hb hX hbl hbA hS (by unfold vp_in; decide) dL_law_291 ?_
  have hPc := hP.sub (ws' := [(g0, .inr (15, zM 0 bb)), ((bb 0), .inr (4, [.int 0, .ref e0, .int 0])), ((bb 1), .inr (4, [.int 0, .ref e0, .int 0])), ((bb 2), .inr (4, [.int 0, .ref e0, .int 0])), ((bb 3), .inr (4, [.int 0, .ref e0, .int 0]))]) [1, 2, 3, 4, 5] rfl
  have hDc := hD.sub (ws' := [(g0, .inr (15, zM 0 bb)), ((bb 0), .inr (4, [.int 0, .ref e0, .int 0])), ((bb 1), .inr (4, [.int 0, .ref e0, .int 0])), ((bb 2), .inr (4, [.int 0, .ref e0, .int 0])), ((bb 3), .inr (4, [.int 0, .ref e0, .int 0]))]) [1, 2, 3, 4, 5] (by decide) rfl
  have hKc := hK.sub (tys' := []) [] rfl
  have hFc := va_free (wc := [(g0, .inr (15, zM 0 bb)), ((bb 0), .inr (4, [.int 0, .ref e0, .int 0])), ((bb 1), .inr (4, [.int 0, .ref e0, .int 0])), ((bb 2), .inr (4, [.int 0, .ref e0, .int 0])), ((bb 3), .inr (4, [.int 0, .ref e0, .int 0]))]) hD hS hA [1, 2, 3, 4, 5] rfl
  have hEc := (hE.kept hS.2.1).narrow hFc
  refine va_calli (va_runV (As := [.int (xs (1 : Int32).toNatClampNeg), .int (xs (2 : Int32).toNatClampNeg), .int (xs (3 : Int32).toNatClampNeg)]) (rest := []) ⟨hx, hb, hml, hown, hts⟩ (c_X10_leg_in l htr dC dI e0 H.size g0 0 bb (xs (1 : Int32).toNatClampNeg) (xs (2 : Int32).toNatClampNeg) (xs (3 : Int32).toNatClampNeg) h64) (cwV 3 hts gL_law_X10_leg rfl rfl rfl (by decide +kernel) ⟨Nat.le_of_ble_eq_true rfl, Nat.le_of_ble_eq_true rfl⟩) ⟨fun a U g mk q => by obtain ⟨q0, q1, qP, qK, qD, qE⟩ := q; exact ⟨q0, q1, qP, va_K.moved (u := U) (U := U.calling g mk a) (Vm.Alike.refl U.vm) qK, qD, zE.same rfl qE⟩, va_recv hKc hPc (ci := 15) (q0 := 0) rfl rfl, fun U hU hW => ⟨rfl, by rw [hU], by rw [hU]; exact hPc, va_K.moved hW.alike hKc, hDc.weaken (fun _ _ _ _ => trivial), by rw [hU]; exact zE.warm hW hEc⟩⟩ rfl rfl hl.1 rfl (lv_room (Nat.le_of_ble_eq_true rfl)) dL_law_292 ⟨Nat.le_of_ble_eq_true rfl, Nat.le_of_ble_eq_true rfl⟩) hS (fun q _ h => hFc q h) hFc (fun r14 u t H1 locs ht hvm hw hB hz1 hk1 hS => ?_)
  obtain ⟨hP1, hK1, hD1⟩ := hB
  rw [ht] at hP1
  obtain ⟨hP, hD⟩ := va_join (wr := [((a 3), .inl (cT, 6, .inr (.inr (.inr (.inr (fun _ => none)))))), (od, .inl (cD, 1, .inr (.inr (.inr (.inl (fun _ => 0)))))), (o, .inl (cO, 1, .inr (.inl (vp_updL (fun _ => 0) (0 : Int32).toNatClampNeg 0))))]) (w1 := [(g0, .inr (15, zM 0 bb))]) hP hD [1, 2, 3, 4, 5] [0, 6, 7] rfl rfl (by decide) (by decide) hk1 hFc hP1 hD1
  generalize H1 = H at hP hS ⊢
  have hP : va_P (dC, dI) vwCl [((a 3), .inl (cT, 6, .inr (.inr (.inr (.inr (fun _ => none)))))), (od, .inl (cD, 1, .inr (.inr (.inr (.inl (fun _ => 0)))))), (o, .inl (cO, 1, .inr (.inl (vp_updL (fun _ => 0) (0 : Int32).toNatClampNeg 0)))), (g0, .inr (15, zM 0 bb))] H := hP
  have hD : va_D A [((a 3), .inl (cT, 6, .inr (.inr (.inr (.inr (fun _ => none)))))), (od, .inl (cD, 1, .inr (.inr (.inr (.inl (fun _ => 0)))))), (o, .inl (cO, 1, .inr (.inl (vp_updL (fun _ => 0) (0 : Int32).toNatClampNeg 0)))), (g0, .inr (15, zM 0 bb))] := hD
  obtain rfl : r14 = 0 := hw
  refine lv_istore (lv' := [(7, .int 0), (6, .int 0), (0, .ref b), (1, .ref h0), (2, .ref g0), (3, .ref o), (4, .ref od), (5, .int 0)]) hx hb dL_law_295 hl (by decide) rfl (fun ls hl => ?_)
  refine lv_aload_n hx hb dL_law_297 rfl (lv_at hl 4 rfl) ?_
  have hPc := hP.sub (ws' := [(g0, .inr (15, [.int 0, .ref (bb 0), .ref (bb 1), .ref (bb 2), .ref (bb 3), .int 0, .long 0, .int 0, .int 0, .int 0, .int 0]))]) [3] rfl
  have hDc := hD.sub (ws' := [(g0, .inr (15, [.int 0, .ref (bb 0), .ref (bb 1), .ref (bb 2), .ref (bb 3), .int 0, .long 0, .int 0, .int 0, .int 0, .int 0]))]) [3] (by decide) rfl
  have hKc := hK.sub (tys' := []) [] rfl
  have hFc := va_free (wc := [(g0, .inr (15, [.int 0, .ref (bb 0), .ref (bb 1), .ref (bb 2), .ref (bb 3), .int 0, .long 0, .int 0, .int 0, .int 0, .int 0]))]) hD hS hA [3] rfl
  refine va_calli (va_runV (As := []) (rest := []) ⟨hx, hb, hml, hown, hts⟩ (c_X10_thrown l htr dC dI e0 H.size g0 0 (bb 0) (bb 1) (bb 2) (bb 3) 0 0 0 0 0 0) (cwV 0 hts gL_law_X10_thrown rfl rfl rfl (by decide +kernel) ⟨Nat.le_of_ble_eq_true rfl, Nat.le_of_ble_eq_true rfl⟩) ⟨fun a U g mk q => by obtain ⟨q0, q1, qP, qK, qD⟩ := q; exact ⟨q0, q1, qP, va_K.moved (u := U) (U := U.calling g mk a) (Vm.Alike.refl U.vm) qK, qD⟩, va_recv hKc hPc (ci := 15) (q0 := 0) rfl rfl, fun U hU hW => ⟨rfl, by rw [hU], by rw [hU]; exact hPc, va_K.moved hW.alike hKc, hDc.weaken (fun _ _ _ _ => trivial)⟩⟩ rfl rfl hl.1 rfl (lv_room (Nat.le_of_ble_eq_true rfl)) dL_law_298 ⟨Nat.le_of_ble_eq_true rfl, Nat.le_of_ble_eq_true rfl⟩) hS (fun q _ h => hFc q h) hFc (fun r15 u t H1 locs ht hvm hw hB hz1 hk1 hS => ?_)
  obtain ⟨hP1, hK1, hD1⟩ := hB
  rw [ht] at hP1
  obtain ⟨hP, hD⟩ := va_join (wr := [((a 3), .inl (cT, 6, .inr (.inr (.inr (.inr (fun _ => none)))))), (od, .inl (cD, 1, .inr (.inr (.inr (.inl (fun _ => 0)))))), (o, .inl (cO, 1, .inr (.inl (vp_updL (fun _ => 0) (0 : Int32).toNatClampNeg 0))))]) (w1 := [(g0, .inr (15, [.int 0, .ref (bb 0), .ref (bb 1), .ref (bb 2), .ref (bb 3), .int 0, .long 0, .int 0, .int 0, .int 0, .int 0]))]) hP hD [3] [0, 1, 2] rfl rfl (by decide) (by decide) hk1 hFc hP1 hD1
  generalize H1 = H at hP hS ⊢
  have hP : va_P (dC, dI) vwCl [((a 3), .inl (cT, 6, .inr (.inr (.inr (.inr (fun _ => none)))))), (od, .inl (cD, 1, .inr (.inr (.inr (.inl (fun _ => 0)))))), (o, .inl (cO, 1, .inr (.inl (vp_updL (fun _ => 0) (0 : Int32).toNatClampNeg 0)))), (g0, .inr (15, [.int 0, .ref (bb 0), .ref (bb 1), .ref (bb 2), .ref (bb 3), .int 0, .long 0, .int 0, .int 0, .int 0, .int 0]))] H := hP
  have hD : va_D A [((a 3), .inl (cT, 6, .inr (.inr (.inr (.inr (fun _ => none)))))), (od, .inl (cD, 1, .inr (.inr (.inr (.inl (fun _ => 0)))))), (o, .inl (cO, 1, .inr (.inl (vp_updL (fun _ => 0) (0 : Int32).toNatClampNeg 0)))), (g0, .inr (15, [.int 0, .ref (bb 0), .ref (bb 1), .ref (bb 2), .ref (bb 3), .int 0, .long 0, .int 0, .int 0, .int 0, .int 0]))] := hD
  obtain rfl : r15 = 0 := hw
  refine lv_iload hx hb dL_law_301 (lv_at hl 1 rfl) ?_
  refine lv_icmp_eq (tgt := 308) hx hb dL_law_303 (by decide) (fun _ => ?_) (fun c16 => absurd (by decide) c16)
  refine lv_iload hx hb dL_law_308 (lv_at hl 1 rfl) ?_
  refine lv_if_ne (tgt := 325) hx hb dL_law_310 (by decide) (fun c17 => absurd (by decide) c17) (fun _ => ?_)
  refine lv_aload_n hx hb dL_law_313 rfl (lv_at hl 5 rfl) ?_
  refine lv_iconst (v := 0) hx hb dL_law_314 (by decide) ?_
  refine va_lald hx hb hK hP 2 2 rfl rfl (by unfold vp_in; decide) dL_law_315 ?_
  rw [show (vp_updL (fun _ => 0) (0 : Int32).toNatClampNeg 0) (0 : Int32).toNatClampNeg = 0 from by simp [vp_updL]]
  refine lv_iload hx hb dL_law_316 (lv_at hl 0 rfl) ?_
  refine lv_i2l (v := 0) hx hb dL_law_318 (by decide) ?_
  refine W.lcmp hx hb dL_law_319 ?_
  rw [zl_cmp 0]
  refine lv_if_eq (tgt := 325) hx hb dL_law_320 (by decide) (fun _ => ?_) (fun c18 => absurd (by decide) c18)
  refine lv_goto (tgt := 3259) hx hb dL_law_325 (by decide) ?_
  exact zl_end C0 hA2 (Nat.le_of_ble_eq_true rfl) (Nat.le_of_ble_eq_true rfl) hS (lv_sub hl [7, 2] rfl)
set_option maxHeartbeats 4000000 in
set_option maxRecDepth 100000 in
/-- leg, called on the two fresh objects -/
theorem zl_0_no {p : Program} {l : Launch} {e : Env} {s : State} {m : MethodId} {below : List Frame} {meth : Method} {c : Code} {b : Nat} {xs : Nat → Int32} {A : Nat → Prop} (C0 : lw_At p s m meth c b 5 xs) (hA : ∀ q : Nat, s.heap.size ≤ q → A q) (hA2 : ∀ q : Nat, A q → s.heap.size ≤ q) (htr : l.stackTraces = false) (dC : Nat → ClassId) (dI : Nat → Nat → Nat) (e0 h0 g0 o od : Nat) (a bb : Nat → Nat) (cL cT cO cD : ClassId) (hE : zE e0 A s s.heap) (H : Heap) (locs : List Loc) (ls : Array Slot) (hK : va_K (dC, dI) vwCl [(cL, (.object RX1)), (cT, (.object RX5)), (cO, .long), (cD, .double)] s) (hP : va_P (dC, dI) vwCl [(h0, .inr (11, zC a)), ((a 0), .inl (cL, 10, .inr (.inr (.inr (.inr (fun _ => none)))))), ((a 3), .inl (cT, 6, .inr (.inr (.inr (.inr (fun _ => none)))))), (g0, .inr (15, zM 0 bb)), ((bb 0), .inr (4, [.int 0, .ref e0, .int 0])), ((bb 1), .inr (4, [.int 0, .ref e0, .int 0])), ((bb 2), .inr (4, [.int 0, .ref e0, .int 0])), ((bb 3), .inr (4, [.int 0, .ref e0, .int 0])), (o, .inl (cO, 1, .inr (.inl (fun _ => 0)))), (od, .inl (cD, 1, .inr (.inr (.inr (.inl (fun _ => 0))))))] H) (hD : va_D A [(h0, .inr (11, zC a)), ((a 0), .inl (cL, 10, .inr (.inr (.inr (.inr (fun _ => none)))))), ((a 3), .inl (cT, 6, .inr (.inr (.inr (.inr (fun _ => none)))))), (g0, .inr (15, zM 0 bb)), ((bb 0), .inr (4, [.int 0, .ref e0, .int 0])), ((bb 1), .inr (4, [.int 0, .ref e0, .int 0])), ((bb 2), .inr (4, [.int 0, .ref e0, .int 0])), ((bb 3), .inr (4, [.int 0, .ref e0, .int 0])), (o, .inl (cO, 1, .inr (.inl (fun _ => 0)))), (od, .inl (cD, 1, .inr (.inr (.inr (.inl (fun _ => 0))))))]) (hS : va_S A s.heap H locs) (hl : lv_has ls 9 [(0, .ref b), (1, .ref h0), (2, .ref g0), (3, .ref o), (4, .ref od), (5, .int 0)]) (hnot : ¬ ((5 ≤ (xs (1 : Int32).toNatClampNeg) ∧ (xs (1 : Int32).toNatClampNeg) ≤ 120) ∧ (0 ≤ (xs (2 : Int32).toNatClampNeg) ∧ (xs (2 : Int32).toNatClampNeg) ≤ 9) ∧ ((-9) ≤ (xs (3 : Int32).toNatClampNeg) ∧ (xs (3 : Int32).toNatClampNeg) ≤ 9))) : W p l e room_1 s m #[Value.ref b] below meth c H locs (86) (1094) (lw_Z below #[Value.ref b] s) (F0 m 248 ls []) := by
  obtain ⟨hx, hb, hr, hml, hown, ht0, hX, hbl, hlocks, hgv⟩ := id C0
  have hts := ht0
  have hbA : ¬ A b := fun h => absurd hbl (Nat.not_lt.mpr (hA2 b h))
  have h64 : ¬ ((5 ≤ ((xs (1 : Int32).toNatClampNeg)).toInt64 ∧ ((xs (1 : Int32).toNatClampNeg)).toInt64 ≤ 120) ∧ (0 ≤ ((xs (2 : Int32).toNatClampNeg)).toInt64 ∧ ((xs (2 : Int32).toNatClampNeg)).toInt64 ≤ 9) ∧ ((-9) ≤ ((xs (3 : Int32).toNatClampNeg)).toInt64 ∧ ((xs (3 : Int32).toNatClampNeg)).toInt64 ≤ 9)) := fun h => hnot (zb_leg.mp h)
  refine lv_aload_n hx hb dL_law_248 rfl (lv_at hl 1 rfl) ?_
  refine lv_aload_n hx hb dL_law_249 rfl (lv_at hl 0 rfl) ?_
  refine lv_iload hx hb dL_law_250 (lv_at hl 5 rfl) ?_
  refine lv_iconst (v := 1) hx hb dL_law_252 (by decide) ?_
  refine lv_iadd hx hb dL_law_253 ?_
  refine lv_topi (fun y1 e2 => ?_)
  obtain rfl : y1 = 1 := e2.trans (by decide)
  refine va_sld hx hb hX hbl hbA hS (by unfold vp_in; decide) dL_law_254 ?_
  refine lv_aload_n hx hb dL_law_255 rfl (lv_at hl 0 rfl) ?_
  refine lv_iload hx hb dL_law_256 (lv_at hl 5 rfl) ?_
  refine lv_iconst (v := 2) hx hb dL_law_258 (by decide) ?_
  refine lv_iadd hx hb dL_law_259 ?_
  refine lv_topi (fun y3 e4 => ?_)
  obtain rfl : y3 = 2 := e4.trans (by decide)
  refine va_sld hx hb hX hbl hbA hS (by unfold vp_in; decide) dL_law_260 ?_
  refine lv_aload_n hx hb dL_law_261 rfl (lv_at hl 0 rfl) ?_
  refine lv_iload hx hb dL_law_262 (lv_at hl 5 rfl) ?_
  refine lv_iconst (v := 3) hx hb dL_law_264 (by decide) ?_
  refine lv_iadd hx hb dL_law_265 ?_
  refine lv_topi (fun y5 e6 => ?_)
  obtain rfl : y5 = 3 := e6.trans (by decide)
  refine va_sld hx hb hX hbl hbA hS (by unfold vp_in; decide) dL_law_266 ?_
  refine lv_aload_n hx hb dL_law_267 rfl (lv_at hl 3 rfl) ?_
  have hPc := hP.sub (ws' := [(h0, .inr (11, zC a))]) [0] rfl
  have hDc := hD.sub (ws' := [(h0, .inr (11, zC a))]) [0] (by decide) rfl
  have hKc := hK.sub (tys' := []) [] rfl
  have hFc := va_free (wc := [(h0, .inr (11, zC a))]) hD hS hA [0] rfl
  have hEc := (hE.kept hS.2.1).narrow hFc
  refine vx_calli (vx_runSX (As := [.ref h0, .int (xs (1 : Int32).toNatClampNeg), .int (xs (2 : Int32).toNatClampNeg), .int (xs (3 : Int32).toNatClampNeg), .ref o]) (rest := []) ⟨hx, hb, hml, hown, hts⟩ (c_L_leg_no l htr dC dI e0 H.size h0 a (xs (1 : Int32).toNatClampNeg) (xs (2 : Int32).toNatClampNeg) (xs (3 : Int32).toNatClampNeg) o hnot) (vx_cwSW 5 hts gL_law_L_leg rfl rfl rfl (by decide +kernel) ⟨Nat.le_of_ble_eq_true rfl, Nat.le_of_ble_eq_true rfl⟩) ⟨fun a U g mk q => by obtain ⟨q0, q1, qP, qK, qD, qE⟩ := q; exact ⟨q0, q1, qP, va_K.moved (u := U) (U := U.calling g mk a) (Vm.Alike.refl U.vm) qK, qD, zE.same rfl qE⟩, fun U hU hW => ⟨rfl, by rw [hU], by rw [hU]; exact hPc, va_K.moved hW.alike hKc, hDc.weaken (fun _ _ _ _ => trivial), by rw [hU]; exact zE.warm hW hEc⟩⟩ rfl rfl hl.1 rfl (lv_room (Nat.le_of_ble_eq_true rfl)) dL_law_268 ⟨Nat.le_of_ble_eq_true rfl, Nat.le_of_ble_eq_true rfl⟩) hS (fun q _ h => hFc q h) hFc (fun q _ h => hFc q h) (fun E ce q9 u t H1 locs1 ht hvm hpx hBX hz1 hk1 hS hce hcv hcl => absurd hpx id) (fun r7 u t H1 locs ht hvm hw hB hz1 hk1 hS => ?_)
  have hP1 : va_P (dC, dI) vwCl [] H1 := fun k q h => by simp at h
  have hD1 : va_D (va_A [(h0, .inr (11, zC a))] H.size) [] := ⟨fun i j p q h => by simp at h, fun k q h => by simp at h⟩
  obtain ⟨hP, hD⟩ := va_join (wr := [((a 0), .inl (cL, 10, .inr (.inr (.inr (.inr (fun _ => none)))))), ((a 3), .inl (cT, 6, .inr (.inr (.inr (.inr (fun _ => none)))))), (g0, .inr (15, zM 0 bb)), ((bb 0), .inr (4, [.int 0, .ref e0, .int 0])), ((bb 1), .inr (4, [.int 0, .ref e0, .int 0])), ((bb 2), .inr (4, [.int 0, .ref e0, .int 0])), ((bb 3), .inr (4, [.int 0, .ref e0, .int 0])), (o, .inl (cO, 1, .inr (.inl (fun _ => 0)))), (od, .inl (cD, 1, .inr (.inr (.inr (.inl (fun _ => 0))))))]) (w1 := []) hP hD [0] [1, 2, 3, 4, 5, 6, 7, 8, 9] rfl rfl (by decide) (by decide) hk1 hFc hP1 hD1
  generalize H1 = H at hP hS ⊢
  have hP : va_P (dC, dI) vwCl [((a 0), .inl (cL, 10, .inr (.inr (.inr (.inr (fun _ => none)))))), ((a 3), .inl (cT, 6, .inr (.inr (.inr (.inr (fun _ => none)))))), (g0, .inr (15, zM 0 bb)), ((bb 0), .inr (4, [.int 0, .ref e0, .int 0])), ((bb 1), .inr (4, [.int 0, .ref e0, .int 0])), ((bb 2), .inr (4, [.int 0, .ref e0, .int 0])), ((bb 3), .inr (4, [.int 0, .ref e0, .int 0])), (o, .inl (cO, 1, .inr (.inl (fun _ => 0)))), (od, .inl (cD, 1, .inr (.inr (.inr (.inl (fun _ => 0))))))] H := hP
  have hD : va_D A [((a 0), .inl (cL, 10, .inr (.inr (.inr (.inr (fun _ => none)))))), ((a 3), .inl (cT, 6, .inr (.inr (.inr (.inr (fun _ => none)))))), (g0, .inr (15, zM 0 bb)), ((bb 0), .inr (4, [.int 0, .ref e0, .int 0])), ((bb 1), .inr (4, [.int 0, .ref e0, .int 0])), ((bb 2), .inr (4, [.int 0, .ref e0, .int 0])), ((bb 3), .inr (4, [.int 0, .ref e0, .int 0])), (o, .inl (cO, 1, .inr (.inl (fun _ => 0)))), (od, .inl (cD, 1, .inr (.inr (.inr (.inl (fun _ => 0))))))] := hD
  obtain rfl : r7 = 1 := hw
  refine lv_istore (lv' := [(6, .int 1), (0, .ref b), (1, .ref h0), (2, .ref g0), (3, .ref o), (4, .ref od), (5, .int 0)]) hx hb dL_law_271 hl (by decide) rfl (fun ls hl => ?_)
  refine lv_aload_n hx hb dL_law_273 rfl (lv_at hl 3 rfl) ?_
  refine lv_aload_n hx hb dL_law_274 rfl (lv_at hl 1 rfl) ?_
  refine lv_iload hx hb dL_law_275 (lv_at hl 6 rfl) ?_
  refine lv_iconst (v := 1) hx hb dL_law_277 (by decide) ?_
  refine lv_iadd hx hb dL_law_278 ?_
  refine lv_topi (fun y8 e9 => ?_)
  obtain rfl : y8 = 1 := e9.trans (by decide)
  refine va_sld hx hb hX hbl hbA hS (by unfold vp_in; decide) dL_law_279 ?_
  refine lv_aload_n hx hb dL_law_280 rfl (lv_at hl 1 rfl) ?_
  refine lv_iload hx hb dL_law_281 (lv_at hl 6 rfl) ?_
  refine lv_iconst (v := 2) hx hb dL_law_283 (by decide) ?_
  refine lv_iadd hx hb dL_law_284 ?_
  refine lv_topi (fun y10 e11 => ?_)
  obtain rfl : y10 = 2 := e11.trans (by decide)
  refine va_sld hx hb hX hbl hbA hS (by unfold vp_in; decide) dL_law_285 ?_
  refine lv_aload_n hx hb dL_law_286 rfl (lv_at hl 1 rfl) ?_
  refine lv_iload hx hb dL_law_287 (lv_at hl 6 rfl) ?_
  refine lv_iconst (v := 3) hx hb dL_law_289 (by decide) ?_
  refine lv_iadd hx hb dL_law_290 ?_
  refine lv_topi (fun y12 e13 => ?_)
  obtain rfl : y12 = 3 := e13.trans (by decide)
  refine va_sld hx hb hX hbl hbA hS (by unfold vp_in; decide) dL_law_291 ?_
  have hPc := hP.sub (ws' := [(g0, .inr (15, zM 0 bb)), ((bb 0), .inr (4, [.int 0, .ref e0, .int 0])), ((bb 1), .inr (4, [.int 0, .ref e0, .int 0])), ((bb 2), .inr (4, [.int 0, .ref e0, .int 0])), ((bb 3), .inr (4, [.int 0, .ref e0, .int 0]))]) [2, 3, 4, 5, 6] rfl
  have hDc := hD.sub (ws' := [(g0, .inr (15, zM 0 bb)), ((bb 0), .inr (4, [.int 0, .ref e0, .int 0])), ((bb 1), .inr (4, [.int 0, .ref e0, .int 0])), ((bb 2), .inr (4, [.int 0, .ref e0, .int 0])), ((bb 3), .inr (4, [.int 0, .ref e0, .int 0]))]) [2, 3, 4, 5, 6] (by decide) rfl
  have hKc := hK.sub (tys' := []) [] rfl
  have hFc := va_free (wc := [(g0, .inr (15, zM 0 bb)), ((bb 0), .inr (4, [.int 0, .ref e0, .int 0])), ((bb 1), .inr (4, [.int 0, .ref e0, .int 0])), ((bb 2), .inr (4, [.int 0, .ref e0, .int 0])), ((bb 3), .inr (4, [.int 0, .ref e0, .int 0]))]) hD hS hA [2, 3, 4, 5, 6] rfl
  have hEc := (hE.kept hS.2.1).narrow hFc
  refine va_calli (va_runV (As := [.int (xs (1 : Int32).toNatClampNeg), .int (xs (2 : Int32).toNatClampNeg), .int (xs (3 : Int32).toNatClampNeg)]) (rest := []) ⟨hx, hb, hml, hown, hts⟩ (c_X10_leg_no l htr dC dI e0 H.size g0 0 bb (xs (1 : Int32).toNatClampNeg) (xs (2 : Int32).toNatClampNeg) (xs (3 : Int32).toNatClampNeg) h64) (cwV 3 hts gL_law_X10_leg rfl rfl rfl (by decide +kernel) ⟨Nat.le_of_ble_eq_true rfl, Nat.le_of_ble_eq_true rfl⟩) ⟨fun a U g mk q => by obtain ⟨q0, q1, qP, qK, qD, qE⟩ := q; exact ⟨q0, q1, qP, va_K.moved (u := U) (U := U.calling g mk a) (Vm.Alike.refl U.vm) qK, qD, zE.same rfl qE⟩, va_recv hKc hPc (ci := 15) (q0 := 0) rfl rfl, fun U hU hW => ⟨rfl, by rw [hU], by rw [hU]; exact hPc, va_K.moved hW.alike hKc, hDc.weaken (fun _ _ _ _ => trivial), by rw [hU]; exact zE.warm hW hEc⟩⟩ rfl rfl hl.1 rfl (lv_room (Nat.le_of_ble_eq_true rfl)) dL_law_292 ⟨Nat.le_of_ble_eq_true rfl, Nat.le_of_ble_eq_true rfl⟩) hS (fun q _ h => hFc q h) hFc (fun r14 u t H1 locs ht hvm hw hB hz1 hk1 hS => ?_)
  obtain ⟨hP1, hK1, hD1⟩ := hB
  rw [ht] at hP1
  obtain ⟨hP, hD⟩ := va_join (wr := [((a 0), .inl (cL, 10, .inr (.inr (.inr (.inr (fun _ => none)))))), ((a 3), .inl (cT, 6, .inr (.inr (.inr (.inr (fun _ => none)))))), (o, .inl (cO, 1, .inr (.inl (fun _ => 0)))), (od, .inl (cD, 1, .inr (.inr (.inr (.inl (fun _ => 0))))))]) (w1 := [(g0, .inr (15, zM 1 bb))]) hP hD [2, 3, 4, 5, 6] [0, 1, 7, 8] rfl rfl (by decide) (by decide) hk1 hFc hP1 hD1
  generalize H1 = H at hP hS ⊢
  have hP : va_P (dC, dI) vwCl [((a 0), .inl (cL, 10, .inr (.inr (.inr (.inr (fun _ => none)))))), ((a 3), .inl (cT, 6, .inr (.inr (.inr (.inr (fun _ => none)))))), (o, .inl (cO, 1, .inr (.inl (fun _ => 0)))), (od, .inl (cD, 1, .inr (.inr (.inr (.inl (fun _ => 0)))))), (g0, .inr (15, zM 1 bb))] H := hP
  have hD : va_D A [((a 0), .inl (cL, 10, .inr (.inr (.inr (.inr (fun _ => none)))))), ((a 3), .inl (cT, 6, .inr (.inr (.inr (.inr (fun _ => none)))))), (o, .inl (cO, 1, .inr (.inl (fun _ => 0)))), (od, .inl (cD, 1, .inr (.inr (.inr (.inl (fun _ => 0)))))), (g0, .inr (15, zM 1 bb))] := hD
  obtain rfl : r14 = 0 := hw
  refine lv_istore (lv' := [(7, .int 0), (6, .int 1), (0, .ref b), (1, .ref h0), (2, .ref g0), (3, .ref o), (4, .ref od), (5, .int 0)]) hx hb dL_law_295 hl (by decide) rfl (fun ls hl => ?_)
  refine lv_aload_n hx hb dL_law_297 rfl (lv_at hl 4 rfl) ?_
  have hPc := hP.sub (ws' := [(g0, .inr (15, [.int 1, .ref (bb 0), .ref (bb 1), .ref (bb 2), .ref (bb 3), .int 0, .long 0, .int 0, .int 0, .int 0, .int 0]))]) [4] rfl
  have hDc := hD.sub (ws' := [(g0, .inr (15, [.int 1, .ref (bb 0), .ref (bb 1), .ref (bb 2), .ref (bb 3), .int 0, .long 0, .int 0, .int 0, .int 0, .int 0]))]) [4] (by decide) rfl
  have hKc := hK.sub (tys' := []) [] rfl
  have hFc := va_free (wc := [(g0, .inr (15, [.int 1, .ref (bb 0), .ref (bb 1), .ref (bb 2), .ref (bb 3), .int 0, .long 0, .int 0, .int 0, .int 0, .int 0]))]) hD hS hA [4] rfl
  refine va_calli (va_runV (As := []) (rest := []) ⟨hx, hb, hml, hown, hts⟩ (c_X10_thrown l htr dC dI e0 H.size g0 1 (bb 0) (bb 1) (bb 2) (bb 3) 0 0 0 0 0 0) (cwV 0 hts gL_law_X10_thrown rfl rfl rfl (by decide +kernel) ⟨Nat.le_of_ble_eq_true rfl, Nat.le_of_ble_eq_true rfl⟩) ⟨fun a U g mk q => by obtain ⟨q0, q1, qP, qK, qD⟩ := q; exact ⟨q0, q1, qP, va_K.moved (u := U) (U := U.calling g mk a) (Vm.Alike.refl U.vm) qK, qD⟩, va_recv hKc hPc (ci := 15) (q0 := 0) rfl rfl, fun U hU hW => ⟨rfl, by rw [hU], by rw [hU]; exact hPc, va_K.moved hW.alike hKc, hDc.weaken (fun _ _ _ _ => trivial)⟩⟩ rfl rfl hl.1 rfl (lv_room (Nat.le_of_ble_eq_true rfl)) dL_law_298 ⟨Nat.le_of_ble_eq_true rfl, Nat.le_of_ble_eq_true rfl⟩) hS (fun q _ h => hFc q h) hFc (fun r15 u t H1 locs ht hvm hw hB hz1 hk1 hS => ?_)
  obtain ⟨hP1, hK1, hD1⟩ := hB
  rw [ht] at hP1
  obtain ⟨hP, hD⟩ := va_join (wr := [((a 0), .inl (cL, 10, .inr (.inr (.inr (.inr (fun _ => none)))))), ((a 3), .inl (cT, 6, .inr (.inr (.inr (.inr (fun _ => none)))))), (o, .inl (cO, 1, .inr (.inl (fun _ => 0)))), (od, .inl (cD, 1, .inr (.inr (.inr (.inl (fun _ => 0))))))]) (w1 := [(g0, .inr (15, [.int 1, .ref (bb 0), .ref (bb 1), .ref (bb 2), .ref (bb 3), .int 0, .long 0, .int 0, .int 0, .int 0, .int 0]))]) hP hD [4] [0, 1, 2, 3] rfl rfl (by decide) (by decide) hk1 hFc hP1 hD1
  generalize H1 = H at hP hS ⊢
  have hP : va_P (dC, dI) vwCl [((a 0), .inl (cL, 10, .inr (.inr (.inr (.inr (fun _ => none)))))), ((a 3), .inl (cT, 6, .inr (.inr (.inr (.inr (fun _ => none)))))), (o, .inl (cO, 1, .inr (.inl (fun _ => 0)))), (od, .inl (cD, 1, .inr (.inr (.inr (.inl (fun _ => 0)))))), (g0, .inr (15, [.int 1, .ref (bb 0), .ref (bb 1), .ref (bb 2), .ref (bb 3), .int 0, .long 0, .int 0, .int 0, .int 0, .int 0]))] H := hP
  have hD : va_D A [((a 0), .inl (cL, 10, .inr (.inr (.inr (.inr (fun _ => none)))))), ((a 3), .inl (cT, 6, .inr (.inr (.inr (.inr (fun _ => none)))))), (o, .inl (cO, 1, .inr (.inl (fun _ => 0)))), (od, .inl (cD, 1, .inr (.inr (.inr (.inl (fun _ => 0)))))), (g0, .inr (15, [.int 1, .ref (bb 0), .ref (bb 1), .ref (bb 2), .ref (bb 3), .int 0, .long 0, .int 0, .int 0, .int 0, .int 0]))] := hD
  obtain rfl : r15 = 1 := hw
  refine lv_iload hx hb dL_law_301 (lv_at hl 1 rfl) ?_
  refine lv_icmp_eq (tgt := 308) hx hb dL_law_303 (by decide) (fun _ => ?_) (fun c16 => absurd (by decide) c16)
  refine lv_iload hx hb dL_law_308 (lv_at hl 1 rfl) ?_
  refine lv_if_ne (tgt := 325) hx hb dL_law_310 (by decide) (fun _ => ?_) (fun c17 => absurd c17 (by decide))
  refine lv_goto (tgt := 3259) hx hb dL_law_325 (by decide) ?_
  exact zl_end C0 hA2 (Nat.le_of_ble_eq_true rfl) (Nat.le_of_ble_eq_true rfl) hS (lv_sub hl [7, 2] rfl)
theorem zl_0 {p : Program} {l : Launch} {e : Env} {s : State} {m : MethodId} {below : List Frame} {meth : Method} {c : Code} {b : Nat} {xs : Nat → Int32} {A : Nat → Prop} (C0 : lw_At p s m meth c b 5 xs) (hA : ∀ q : Nat, s.heap.size ≤ q → A q) (hA2 : ∀ q : Nat, A q → s.heap.size ≤ q) (htr : l.stackTraces = false) (dC : Nat → ClassId) (dI : Nat → Nat → Nat) (e0 h0 g0 o od : Nat) (a bb : Nat → Nat) (cL cT cO cD : ClassId) (hE : zE e0 A s s.heap) (H : Heap) (locs : List Loc) (ls : Array Slot) (hK : va_K (dC, dI) vwCl [(cL, (.object RX1)), (cT, (.object RX5)), (cO, .long), (cD, .double)] s) (hP : va_P (dC, dI) vwCl [(h0, .inr (11, zC a)), ((a 0), .inl (cL, 10, .inr (.inr (.inr (.inr (fun _ => none)))))), ((a 3), .inl (cT, 6, .inr (.inr (.inr (.inr (fun _ => none)))))), (g0, .inr (15, zM 0 bb)), ((bb 0), .inr (4, [.int 0, .ref e0, .int 0])), ((bb 1), .inr (4, [.int 0, .ref e0, .int 0])), ((bb 2), .inr (4, [.int 0, .ref e0, .int 0])), ((bb 3), .inr (4, [.int 0, .ref e0, .int 0])), (o, .inl (cO, 1, .inr (.inl (fun _ => 0)))), (od, .inl (cD, 1, .inr (.inr (.inr (.inl (fun _ => 0))))))] H) (hD : va_D A [(h0, .inr (11, zC a)), ((a 0), .inl (cL, 10, .inr (.inr (.inr (.inr (fun _ => none)))))), ((a 3), .inl (cT, 6, .inr (.inr (.inr (.inr (fun _ => none)))))), (g0, .inr (15, zM 0 bb)), ((bb 0), .inr (4, [.int 0, .ref e0, .int 0])), ((bb 1), .inr (4, [.int 0, .ref e0, .int 0])), ((bb 2), .inr (4, [.int 0, .ref e0, .int 0])), ((bb 3), .inr (4, [.int 0, .ref e0, .int 0])), (o, .inl (cO, 1, .inr (.inl (fun _ => 0)))), (od, .inl (cD, 1, .inr (.inr (.inr (.inl (fun _ => 0))))))]) (hS : va_S A s.heap H locs) (hl : lv_has ls 9 [(0, .ref b), (1, .ref h0), (2, .ref g0), (3, .ref o), (4, .ref od), (5, .int 0)]) : W p l e room_1 s m #[Value.ref b] below meth c H locs (86) (1094) (lw_Z below #[Value.ref b] s) (F0 m 248 ls []) :=
  (Classical.em ((5 ≤ (xs (1 : Int32).toNatClampNeg) ∧ (xs (1 : Int32).toNatClampNeg) ≤ 120) ∧ (0 ≤ (xs (2 : Int32).toNatClampNeg) ∧ (xs (2 : Int32).toNatClampNeg) ≤ 9) ∧ ((-9) ≤ (xs (3 : Int32).toNatClampNeg) ∧ (xs (3 : Int32).toNatClampNeg) ≤ 9))).elim (fun h => zl_0_in C0 hA hA2 htr dC dI e0 h0 g0 o od a bb cL cT cO cD hE H locs ls hK hP hD hS hl h) (fun h => zl_0_no C0 hA hA2 htr dC dI e0 h0 g0 o od a bb cL cT cO cD hE H locs ls hK hP hD hS hl h)
theorem dL_law_328 : decode cL_law 328 = .ok (.aload_n 1, 1) := by decide +kernel
theorem dL_law_329 : decode cL_law 329 = .ok (.aload_n 0, 1) := by decide +kernel
theorem dL_law_330 : decode cL_law 330 = .ok (.iload 5, 2) := by decide +kernel
theorem dL_law_332 : decode cL_law 332 = .ok (.iconst 1, 1) := by decide +kernel
theorem dL_law_333 : decode cL_law 333 = .ok (.iadd, 1) := by decide +kernel
theorem dL_law_334 : decode cL_law 334 = .ok (.iaload, 1) := by decide +kernel
theorem dL_law_335 : decode cL_law 335 = .ok (.aload_n 0, 1) := by decide +kernel
theorem dL_law_336 : decode cL_law 336 = .ok (.iload 5, 2) := by decide +kernel
theorem dL_law_338 : decode cL_law 338 = .ok (.iconst 2, 1) := by decide +kernel
theorem dL_law_339 : decode cL_law 339 = .ok (.iadd, 1) := by decide +kernel
theorem dL_law_340 : decode cL_law 340 = .ok (.iaload, 1) := by decide +kernel
theorem dL_law_341 : decode cL_law 341 = .ok (.aload_n 3, 1) := by decide +kernel
theorem dL_law_342 : decode cL_law 342 = .ok (.invokestatic 186, 3) := by decide +kernel
theorem dL_law_345 : decode cL_law 345 = .ok (.istore 6, 2) := by decide +kernel
theorem dL_law_347 : decode cL_law 347 = .ok (.aload_n 2, 1) := by decide +kernel
theorem dL_law_348 : decode cL_law 348 = .ok (.aload_n 0, 1) := by decide +kernel
theorem dL_law_349 : decode cL_law 349 = .ok (.iload 5, 2) := by decide +kernel
theorem dL_law_351 : decode cL_law 351 = .ok (.iconst 1, 1) := by decide +kernel
theorem dL_law_352 : decode cL_law 352 = .ok (.iadd, 1) := by decide +kernel
theorem dL_law_353 : decode cL_law 353 = .ok (.iaload, 1) := by decide +kernel
theorem dL_law_354 : decode cL_law 354 = .ok (.aload_n 0, 1) := by decide +kernel
theorem dL_law_355 : decode cL_law 355 = .ok (.iload 5, 2) := by decide +kernel
theorem dL_law_357 : decode cL_law 357 = .ok (.iconst 2, 1) := by decide +kernel
theorem dL_law_358 : decode cL_law 358 = .ok (.iadd, 1) := by decide +kernel
theorem dL_law_359 : decode cL_law 359 = .ok (.iaload, 1) := by decide +kernel
theorem dL_law_360 : decode cL_law 360 = .ok (.invokevirtual 189, 3) := by decide +kernel
theorem dL_law_363 : decode cL_law 363 = .ok (.istore 7, 2) := by decide +kernel
theorem dL_law_365 : decode cL_law 365 = .ok (.aload_n 2, 1) := by decide +kernel
theorem dL_law_366 : decode cL_law 366 = .ok (.invokevirtual 183, 3) := by decide +kernel
theorem dL_law_369 : decode cL_law 369 = .ok (.iload 6, 2) := by decide +kernel
theorem dL_law_371 : decode cL_law 371 = .ok (.if_icmp .eq 5, 3) := by decide +kernel
theorem dL_law_376 : decode cL_law 376 = .ok (.iload 6, 2) := by decide +kernel
theorem dL_law_378 : decode cL_law 378 = .ok (.ifCond .ne 15, 3) := by decide +kernel
theorem dL_law_393 : decode cL_law 393 = .ok (.goto 2866, 3) := by decide +kernel
set_option maxHeartbeats 4000000 in
set_option maxRecDepth 100000 in
/-- cold, called on the two fresh objects -/
theorem zl_1 {p : Program} {l : Launch} {e : Env} {s : State} {m : MethodId} {below : List Frame} {meth : Method} {c : Code} {b : Nat} {xs : Nat → Int32} {A : Nat → Prop} (C0 : lw_At p s m meth c b 5 xs) (hA : ∀ q : Nat, s.heap.size ≤ q → A q) (hA2 : ∀ q : Nat, A q → s.heap.size ≤ q) (htr : l.stackTraces = false) (dC : Nat → ClassId) (dI : Nat → Nat → Nat) (e0 h0 g0 o od : Nat) (a bb : Nat → Nat) (cL cT cO cD : ClassId) (hE : zE e0 A s s.heap) (H : Heap) (locs : List Loc) (ls : Array Slot) (hK : va_K (dC, dI) vwCl [(cL, (.object RX1)), (cT, (.object RX5)), (cO, .long), (cD, .double)] s) (hP : va_P (dC, dI) vwCl [(h0, .inr (11, zC a)), ((a 0), .inl (cL, 10, .inr (.inr (.inr (.inr (fun _ => none)))))), ((a 3), .inl (cT, 6, .inr (.inr (.inr (.inr (fun _ => none)))))), (g0, .inr (15, zM 0 bb)), ((bb 0), .inr (4, [.int 0, .ref e0, .int 0])), ((bb 1), .inr (4, [.int 0, .ref e0, .int 0])), ((bb 2), .inr (4, [.int 0, .ref e0, .int 0])), ((bb 3), .inr (4, [.int 0, .ref e0, .int 0])), (o, .inl (cO, 1, .inr (.inl (fun _ => 0)))), (od, .inl (cD, 1, .inr (.inr (.inr (.inl (fun _ => 0))))))] H) (hD : va_D A [(h0, .inr (11, zC a)), ((a 0), .inl (cL, 10, .inr (.inr (.inr (.inr (fun _ => none)))))), ((a 3), .inl (cT, 6, .inr (.inr (.inr (.inr (fun _ => none)))))), (g0, .inr (15, zM 0 bb)), ((bb 0), .inr (4, [.int 0, .ref e0, .int 0])), ((bb 1), .inr (4, [.int 0, .ref e0, .int 0])), ((bb 2), .inr (4, [.int 0, .ref e0, .int 0])), ((bb 3), .inr (4, [.int 0, .ref e0, .int 0])), (o, .inl (cO, 1, .inr (.inl (fun _ => 0)))), (od, .inl (cD, 1, .inr (.inr (.inr (.inl (fun _ => 0))))))]) (hS : va_S A s.heap H locs) (hl : lv_has ls 9 [(0, .ref b), (1, .ref h0), (2, .ref g0), (3, .ref o), (4, .ref od), (5, .int 0)]) : W p l e room_1 s m #[Value.ref b] below meth c H locs (86) (1094) (lw_Z below #[Value.ref b] s) (F0 m 328 ls []) := by
  obtain ⟨hx, hb, hr, hml, hown, ht0, hX, hbl, hlocks, hgv⟩ := id C0
  have hts := ht0
  have hbA : ¬ A b := fun h => absurd hbl (Nat.not_lt.mpr (hA2 b h))
  refine lv_aload_n hx hb dL_law_328 rfl (lv_at hl 1 rfl) ?_
  refine lv_aload_n hx hb dL_law_329 rfl (lv_at hl 0 rfl) ?_
  refine lv_iload hx hb dL_law_330 (lv_at hl 5 rfl) ?_
  refine lv_iconst (v := 1) hx hb dL_law_332 (by decide) ?_
  refine lv_iadd hx hb dL_law_333 ?_
  refine lv_topi (fun y1 e2 => ?_)
  obtain rfl : y1 = 1 := e2.trans (by decide)
  refine va_sld hx hb hX hbl hbA hS (by unfold vp_in; decide) dL_law_334 ?_
  refine lv_aload_n hx hb dL_law_335 rfl (lv_at hl 0 rfl) ?_
  refine lv_iload hx hb dL_law_336 (lv_at hl 5 rfl) ?_
  refine lv_iconst (v := 2) hx hb dL_law_338 (by decide) ?_
  refine lv_iadd hx hb dL_law_339 ?_
  refine lv_topi (fun y3 e4 => ?_)
  obtain rfl : y3 = 2 := e4.trans (by decide)
  refine va_sld hx hb hX hbl hbA hS (by unfold vp_in; decide) dL_law_340 ?_
  refine lv_aload_n hx hb dL_law_341 rfl (lv_at hl 3 rfl) ?_
  have hPc := hP.sub (ws' := [(h0, .inr (11, zC a))]) [0] rfl
  have hDc := hD.sub (ws' := [(h0, .inr (11, zC a))]) [0] (by decide) rfl
  have hKc := hK.sub (tys' := []) [] rfl
  have hFc := va_free (wc := [(h0, .inr (11, zC a))]) hD hS hA [0] rfl
  have hEc := (hE.kept hS.2.1).narrow hFc
  refine vx_calli (vx_runSX (As := [.ref h0, .int (xs (1 : Int32).toNatClampNeg), .int (xs (2 : Int32).toNatClampNeg), .ref o]) (rest := []) ⟨hx, hb, hml, hown, hts⟩ (c_L_cold l htr dC dI e0 H.size h0 a (xs (1 : Int32).toNatClampNeg) (xs (2 : Int32).toNatClampNeg) o) (vx_cwSW 4 hts gL_law_L_cold rfl rfl rfl (by decide +kernel) ⟨Nat.le_of_ble_eq_true rfl, Nat.le_of_ble_eq_true rfl⟩) ⟨fun a U g mk q => by obtain ⟨q0, q1, qP, qK, qD, qE⟩ := q; exact ⟨q0, q1, qP, va_K.moved (u := U) (U := U.calling g mk a) (Vm.Alike.refl U.vm) qK, qD, zE.same rfl qE⟩, fun U hU hW => ⟨rfl, by rw [hU], by rw [hU]; exact hPc, va_K.moved hW.alike hKc, hDc.weaken (fun _ _ _ _ => trivial), by rw [hU]; exact zE.warm hW hEc⟩⟩ rfl rfl hl.1 rfl (lv_room (Nat.le_of_ble_eq_true rfl)) dL_law_342 ⟨Nat.le_of_ble_eq_true rfl, Nat.le_of_ble_eq_true rfl⟩) hS (fun q _ h => hFc q h) hFc (fun q _ h => hFc q h) (fun E ce q9 u t H1 locs1 ht hvm hpx hBX hz1 hk1 hS hce hcv hcl => absurd hpx id) (fun r5 u t H1 locs ht hvm hw hB hz1 hk1 hS => ?_)
  have hP1 : va_P (dC, dI) vwCl [] H1 := fun k q h => by simp at h
  have hD1 : va_D (va_A [(h0, .inr (11, zC a))] H.size) [] := ⟨fun i j p q h => by simp at h, fun k q h => by simp at h⟩
  obtain ⟨hP, hD⟩ := va_join (wr := [((a 0), .inl (cL, 10, .inr (.inr (.inr (.inr (fun _ => none)))))), ((a 3), .inl (cT, 6, .inr (.inr (.inr (.inr (fun _ => none)))))), (g0, .inr (15, zM 0 bb)), ((bb 0), .inr (4, [.int 0, .ref e0, .int 0])), ((bb 1), .inr (4, [.int 0, .ref e0, .int 0])), ((bb 2), .inr (4, [.int 0, .ref e0, .int 0])), ((bb 3), .inr (4, [.int 0, .ref e0, .int 0])), (o, .inl (cO, 1, .inr (.inl (fun _ => 0)))), (od, .inl (cD, 1, .inr (.inr (.inr (.inl (fun _ => 0))))))]) (w1 := []) hP hD [0] [1, 2, 3, 4, 5, 6, 7, 8, 9] rfl rfl (by decide) (by decide) hk1 hFc hP1 hD1
  generalize H1 = H at hP hS ⊢
  have hP : va_P (dC, dI) vwCl [((a 0), .inl (cL, 10, .inr (.inr (.inr (.inr (fun _ => none)))))), ((a 3), .inl (cT, 6, .inr (.inr (.inr (.inr (fun _ => none)))))), (g0, .inr (15, zM 0 bb)), ((bb 0), .inr (4, [.int 0, .ref e0, .int 0])), ((bb 1), .inr (4, [.int 0, .ref e0, .int 0])), ((bb 2), .inr (4, [.int 0, .ref e0, .int 0])), ((bb 3), .inr (4, [.int 0, .ref e0, .int 0])), (o, .inl (cO, 1, .inr (.inl (fun _ => 0)))), (od, .inl (cD, 1, .inr (.inr (.inr (.inl (fun _ => 0))))))] H := hP
  have hD : va_D A [((a 0), .inl (cL, 10, .inr (.inr (.inr (.inr (fun _ => none)))))), ((a 3), .inl (cT, 6, .inr (.inr (.inr (.inr (fun _ => none)))))), (g0, .inr (15, zM 0 bb)), ((bb 0), .inr (4, [.int 0, .ref e0, .int 0])), ((bb 1), .inr (4, [.int 0, .ref e0, .int 0])), ((bb 2), .inr (4, [.int 0, .ref e0, .int 0])), ((bb 3), .inr (4, [.int 0, .ref e0, .int 0])), (o, .inl (cO, 1, .inr (.inl (fun _ => 0)))), (od, .inl (cD, 1, .inr (.inr (.inr (.inl (fun _ => 0))))))] := hD
  obtain rfl : r5 = 1 := hw
  refine lv_istore (lv' := [(6, .int 1), (0, .ref b), (1, .ref h0), (2, .ref g0), (3, .ref o), (4, .ref od), (5, .int 0)]) hx hb dL_law_345 hl (by decide) rfl (fun ls hl => ?_)
  refine lv_aload_n hx hb dL_law_347 rfl (lv_at hl 3 rfl) ?_
  refine lv_aload_n hx hb dL_law_348 rfl (lv_at hl 1 rfl) ?_
  refine lv_iload hx hb dL_law_349 (lv_at hl 6 rfl) ?_
  refine lv_iconst (v := 1) hx hb dL_law_351 (by decide) ?_
  refine lv_iadd hx hb dL_law_352 ?_
  refine lv_topi (fun y6 e7 => ?_)
  obtain rfl : y6 = 1 := e7.trans (by decide)
  refine va_sld hx hb hX hbl hbA hS (by unfold vp_in; decide) dL_law_353 ?_
  refine lv_aload_n hx hb dL_law_354 rfl (lv_at hl 1 rfl) ?_
  refine lv_iload hx hb dL_law_355 (lv_at hl 6 rfl) ?_
  refine lv_iconst (v := 2) hx hb dL_law_357 (by decide) ?_
  refine lv_iadd hx hb dL_law_358 ?_
  refine lv_topi (fun y8 e9 => ?_)
  obtain rfl : y8 = 2 := e9.trans (by decide)
  refine va_sld hx hb hX hbl hbA hS (by unfold vp_in; decide) dL_law_359 ?_
  have hPc := hP.sub (ws' := [(g0, .inr (15, zM 0 bb)), ((bb 0), .inr (4, [.int 0, .ref e0, .int 0])), ((bb 1), .inr (4, [.int 0, .ref e0, .int 0])), ((bb 2), .inr (4, [.int 0, .ref e0, .int 0])), ((bb 3), .inr (4, [.int 0, .ref e0, .int 0]))]) [2, 3, 4, 5, 6] rfl
  have hDc := hD.sub (ws' := [(g0, .inr (15, zM 0 bb)), ((bb 0), .inr (4, [.int 0, .ref e0, .int 0])), ((bb 1), .inr (4, [.int 0, .ref e0, .int 0])), ((bb 2), .inr (4, [.int 0, .ref e0, .int 0])), ((bb 3), .inr (4, [.int 0, .ref e0, .int 0]))]) [2, 3, 4, 5, 6] (by decide) rfl
  have hKc := hK.sub (tys' := []) [] rfl
  have hFc := va_free (wc := [(g0, .inr (15, zM 0 bb)), ((bb 0), .inr (4, [.int 0, .ref e0, .int 0])), ((bb 1), .inr (4, [.int 0, .ref e0, .int 0])), ((bb 2), .inr (4, [.int 0, .ref e0, .int 0])), ((bb 3), .inr (4, [.int 0, .ref e0, .int 0]))]) hD hS hA [2, 3, 4, 5, 6] rfl
  have hEc := (hE.kept hS.2.1).narrow hFc
  refine va_calli (va_runV (As := [.int (xs (1 : Int32).toNatClampNeg), .int (xs (2 : Int32).toNatClampNeg)]) (rest := []) ⟨hx, hb, hml, hown, hts⟩ (c_X10_cold l htr dC dI e0 H.size g0 0 bb (xs (1 : Int32).toNatClampNeg) (xs (2 : Int32).toNatClampNeg)) (cwV 2 hts gL_law_X10_cold rfl rfl rfl (by decide +kernel) ⟨Nat.le_of_ble_eq_true rfl, Nat.le_of_ble_eq_true rfl⟩) ⟨fun a U g mk q => by obtain ⟨q0, q1, qP, qK, qD, qE⟩ := q; exact ⟨q0, q1, qP, va_K.moved (u := U) (U := U.calling g mk a) (Vm.Alike.refl U.vm) qK, qD, zE.same rfl qE⟩, va_recv hKc hPc (ci := 15) (q0 := 0) rfl rfl, fun U hU hW => ⟨rfl, by rw [hU], by rw [hU]; exact hPc, va_K.moved hW.alike hKc, hDc.weaken (fun _ _ _ _ => trivial), by rw [hU]; exact zE.warm hW hEc⟩⟩ rfl rfl hl.1 rfl (lv_room (Nat.le_of_ble_eq_true rfl)) dL_law_360 ⟨Nat.le_of_ble_eq_true rfl, Nat.le_of_ble_eq_true rfl⟩) hS (fun q _ h => hFc q h) hFc (fun r10 u t H1 locs ht hvm hw hB hz1 hk1 hS => ?_)
  obtain ⟨hP1, hK1, hD1⟩ := hB
  rw [ht] at hP1
  obtain ⟨hP, hD⟩ := va_join (wr := [((a 0), .inl (cL, 10, .inr (.inr (.inr (.inr (fun _ => none)))))), ((a 3), .inl (cT, 6, .inr (.inr (.inr (.inr (fun _ => none)))))), (o, .inl (cO, 1, .inr (.inl (fun _ => 0)))), (od, .inl (cD, 1, .inr (.inr (.inr (.inl (fun _ => 0))))))]) (w1 := [(g0, .inr (15, zM 1 bb))]) hP hD [2, 3, 4, 5, 6] [0, 1, 7, 8] rfl rfl (by decide) (by decide) hk1 hFc hP1 hD1
  generalize H1 = H at hP hS ⊢
  have hP : va_P (dC, dI) vwCl [((a 0), .inl (cL, 10, .inr (.inr (.inr (.inr (fun _ => none)))))), ((a 3), .inl (cT, 6, .inr (.inr (.inr (.inr (fun _ => none)))))), (o, .inl (cO, 1, .inr (.inl (fun _ => 0)))), (od, .inl (cD, 1, .inr (.inr (.inr (.inl (fun _ => 0)))))), (g0, .inr (15, zM 1 bb))] H := hP
  have hD : va_D A [((a 0), .inl (cL, 10, .inr (.inr (.inr (.inr (fun _ => none)))))), ((a 3), .inl (cT, 6, .inr (.inr (.inr (.inr (fun _ => none)))))), (o, .inl (cO, 1, .inr (.inl (fun _ => 0)))), (od, .inl (cD, 1, .inr (.inr (.inr (.inl (fun _ => 0)))))), (g0, .inr (15, zM 1 bb))] := hD
  obtain rfl : r10 = 0 := hw
  refine lv_istore (lv' := [(7, .int 0), (6, .int 1), (0, .ref b), (1, .ref h0), (2, .ref g0), (3, .ref o), (4, .ref od), (5, .int 0)]) hx hb dL_law_363 hl (by decide) rfl (fun ls hl => ?_)
  refine lv_aload_n hx hb dL_law_365 rfl (lv_at hl 4 rfl) ?_
  have hPc := hP.sub (ws' := [(g0, .inr (15, [.int 1, .ref (bb 0), .ref (bb 1), .ref (bb 2), .ref (bb 3), .int 0, .long 0, .int 0, .int 0, .int 0, .int 0]))]) [4] rfl
  have hDc := hD.sub (ws' := [(g0, .inr (15, [.int 1, .ref (bb 0), .ref (bb 1), .ref (bb 2), .ref (bb 3), .int 0, .long 0, .int 0, .int 0, .int 0, .int 0]))]) [4] (by decide) rfl
  have hKc := hK.sub (tys' := []) [] rfl
  have hFc := va_free (wc := [(g0, .inr (15, [.int 1, .ref (bb 0), .ref (bb 1), .ref (bb 2), .ref (bb 3), .int 0, .long 0, .int 0, .int 0, .int 0, .int 0]))]) hD hS hA [4] rfl
  refine va_calli (va_runV (As := []) (rest := []) ⟨hx, hb, hml, hown, hts⟩ (c_X10_thrown l htr dC dI e0 H.size g0 1 (bb 0) (bb 1) (bb 2) (bb 3) 0 0 0 0 0 0) (cwV 0 hts gL_law_X10_thrown rfl rfl rfl (by decide +kernel) ⟨Nat.le_of_ble_eq_true rfl, Nat.le_of_ble_eq_true rfl⟩) ⟨fun a U g mk q => by obtain ⟨q0, q1, qP, qK, qD⟩ := q; exact ⟨q0, q1, qP, va_K.moved (u := U) (U := U.calling g mk a) (Vm.Alike.refl U.vm) qK, qD⟩, va_recv hKc hPc (ci := 15) (q0 := 0) rfl rfl, fun U hU hW => ⟨rfl, by rw [hU], by rw [hU]; exact hPc, va_K.moved hW.alike hKc, hDc.weaken (fun _ _ _ _ => trivial)⟩⟩ rfl rfl hl.1 rfl (lv_room (Nat.le_of_ble_eq_true rfl)) dL_law_366 ⟨Nat.le_of_ble_eq_true rfl, Nat.le_of_ble_eq_true rfl⟩) hS (fun q _ h => hFc q h) hFc (fun r11 u t H1 locs ht hvm hw hB hz1 hk1 hS => ?_)
  obtain ⟨hP1, hK1, hD1⟩ := hB
  rw [ht] at hP1
  obtain ⟨hP, hD⟩ := va_join (wr := [((a 0), .inl (cL, 10, .inr (.inr (.inr (.inr (fun _ => none)))))), ((a 3), .inl (cT, 6, .inr (.inr (.inr (.inr (fun _ => none)))))), (o, .inl (cO, 1, .inr (.inl (fun _ => 0)))), (od, .inl (cD, 1, .inr (.inr (.inr (.inl (fun _ => 0))))))]) (w1 := [(g0, .inr (15, [.int 1, .ref (bb 0), .ref (bb 1), .ref (bb 2), .ref (bb 3), .int 0, .long 0, .int 0, .int 0, .int 0, .int 0]))]) hP hD [4] [0, 1, 2, 3] rfl rfl (by decide) (by decide) hk1 hFc hP1 hD1
  generalize H1 = H at hP hS ⊢
  have hP : va_P (dC, dI) vwCl [((a 0), .inl (cL, 10, .inr (.inr (.inr (.inr (fun _ => none)))))), ((a 3), .inl (cT, 6, .inr (.inr (.inr (.inr (fun _ => none)))))), (o, .inl (cO, 1, .inr (.inl (fun _ => 0)))), (od, .inl (cD, 1, .inr (.inr (.inr (.inl (fun _ => 0)))))), (g0, .inr (15, [.int 1, .ref (bb 0), .ref (bb 1), .ref (bb 2), .ref (bb 3), .int 0, .long 0, .int 0, .int 0, .int 0, .int 0]))] H := hP
  have hD : va_D A [((a 0), .inl (cL, 10, .inr (.inr (.inr (.inr (fun _ => none)))))), ((a 3), .inl (cT, 6, .inr (.inr (.inr (.inr (fun _ => none)))))), (o, .inl (cO, 1, .inr (.inl (fun _ => 0)))), (od, .inl (cD, 1, .inr (.inr (.inr (.inl (fun _ => 0)))))), (g0, .inr (15, [.int 1, .ref (bb 0), .ref (bb 1), .ref (bb 2), .ref (bb 3), .int 0, .long 0, .int 0, .int 0, .int 0, .int 0]))] := hD
  obtain rfl : r11 = 1 := hw
  refine lv_iload hx hb dL_law_369 (lv_at hl 1 rfl) ?_
  refine lv_icmp_eq (tgt := 376) hx hb dL_law_371 (by decide) (fun _ => ?_) (fun c12 => absurd (by decide) c12)
  refine lv_iload hx hb dL_law_376 (lv_at hl 1 rfl) ?_
  refine lv_if_ne (tgt := 393) hx hb dL_law_378 (by decide) (fun _ => ?_) (fun c13 => absurd c13 (by decide))
  refine lv_goto (tgt := 3259) hx hb dL_law_393 (by decide) ?_
  exact zl_end C0 hA2 (Nat.le_of_ble_eq_true rfl) (Nat.le_of_ble_eq_true rfl) hS (lv_sub hl [7, 2] rfl)
theorem dL_law_396 : decode cL_law 396 = .ok (.aload_n 1, 1) := by decide +kernel
theorem dL_law_397 : decode cL_law 397 = .ok (.aload_n 0, 1) := by decide +kernel
theorem dL_law_398 : decode cL_law 398 = .ok (.iload 5, 2) := by decide +kernel
theorem dL_law_400 : decode cL_law 400 = .ok (.iconst 1, 1) := by decide +kernel
theorem dL_law_401 : decode cL_law 401 = .ok (.iadd, 1) := by decide +kernel
theorem dL_law_402 : decode cL_law 402 = .ok (.iaload, 1) := by decide +kernel
theorem dL_law_403 : decode cL_law 403 = .ok (.aload_n 0, 1) := by decide +kernel
theorem dL_law_404 : decode cL_law 404 = .ok (.iload 5, 2) := by decide +kernel
theorem dL_law_406 : decode cL_law 406 = .ok (.iconst 2, 1) := by decide +kernel
theorem dL_law_407 : decode cL_law 407 = .ok (.iadd, 1) := by decide +kernel
theorem dL_law_408 : decode cL_law 408 = .ok (.iaload, 1) := by decide +kernel
theorem dL_law_409 : decode cL_law 409 = .ok (.aload_n 0, 1) := by decide +kernel
theorem dL_law_410 : decode cL_law 410 = .ok (.iload 5, 2) := by decide +kernel
theorem dL_law_412 : decode cL_law 412 = .ok (.iconst 3, 1) := by decide +kernel
theorem dL_law_413 : decode cL_law 413 = .ok (.iadd, 1) := by decide +kernel
theorem dL_law_414 : decode cL_law 414 = .ok (.iaload, 1) := by decide +kernel
theorem dL_law_415 : decode cL_law 415 = .ok (.aload_n 0, 1) := by decide +kernel
theorem dL_law_416 : decode cL_law 416 = .ok (.iload 5, 2) := by decide +kernel
theorem dL_law_418 : decode cL_law 418 = .ok (.iconst 4, 1) := by decide +kernel
theorem dL_law_419 : decode cL_law 419 = .ok (.iadd, 1) := by decide +kernel
theorem dL_law_420 : decode cL_law 420 = .ok (.iaload, 1) := by decide +kernel
theorem dL_law_421 : decode cL_law 421 = .ok (.aload_n 3, 1) := by decide +kernel
theorem dL_law_422 : decode cL_law 422 = .ok (.invokestatic 190, 3) := by decide +kernel
theorem dL_law_425 : decode cL_law 425 = .ok (.istore 6, 2) := by decide +kernel
theorem dL_law_427 : decode cL_law 427 = .ok (.aload_n 2, 1) := by decide +kernel
theorem dL_law_428 : decode cL_law 428 = .ok (.aload_n 0, 1) := by decide +kernel
theorem dL_law_429 : decode cL_law 429 = .ok (.iload 5, 2) := by decide +kernel
theorem dL_law_431 : decode cL_law 431 = .ok (.iconst 1, 1) := by decide +kernel
theorem dL_law_432 : decode cL_law 432 = .ok (.iadd, 1) := by decide +kernel
theorem dL_law_433 : decode cL_law 433 = .ok (.iaload, 1) := by decide +kernel
theorem dL_law_434 : decode cL_law 434 = .ok (.aload_n 0, 1) := by decide +kernel
theorem dL_law_435 : decode cL_law 435 = .ok (.iload 5, 2) := by decide +kernel
theorem dL_law_437 : decode cL_law 437 = .ok (.iconst 2, 1) := by decide +kernel
theorem dL_law_438 : decode cL_law 438 = .ok (.iadd, 1) := by decide +kernel
theorem dL_law_439 : decode cL_law 439 = .ok (.iaload, 1) := by decide +kernel
theorem dL_law_440 : decode cL_law 440 = .ok (.aload_n 0, 1) := by decide +kernel
theorem dL_law_441 : decode cL_law 441 = .ok (.iload 5, 2) := by decide +kernel
theorem dL_law_443 : decode cL_law 443 = .ok (.iconst 3, 1) := by decide +kernel
theorem dL_law_444 : decode cL_law 444 = .ok (.iadd, 1) := by decide +kernel
theorem dL_law_445 : decode cL_law 445 = .ok (.iaload, 1) := by decide +kernel
theorem dL_law_446 : decode cL_law 446 = .ok (.aload_n 0, 1) := by decide +kernel
theorem dL_law_447 : decode cL_law 447 = .ok (.iload 5, 2) := by decide +kernel
theorem dL_law_449 : decode cL_law 449 = .ok (.iconst 4, 1) := by decide +kernel
theorem dL_law_450 : decode cL_law 450 = .ok (.iadd, 1) := by decide +kernel
theorem dL_law_451 : decode cL_law 451 = .ok (.iaload, 1) := by decide +kernel
theorem dL_law_452 : decode cL_law 452 = .ok (.invokevirtual 193, 3) := by decide +kernel
theorem dL_law_455 : decode cL_law 455 = .ok (.istore 7, 2) := by decide +kernel
theorem dL_law_457 : decode cL_law 457 = .ok (.aload_n 2, 1) := by decide +kernel
theorem dL_law_458 : decode cL_law 458 = .ok (.invokevirtual 183, 3) := by decide +kernel
theorem dL_law_461 : decode cL_law 461 = .ok (.iload 6, 2) := by decide +kernel
theorem dL_law_463 : decode cL_law 463 = .ok (.if_icmp .eq 5, 3) := by decide +kernel
theorem dL_law_468 : decode cL_law 468 = .ok (.iload 6, 2) := by decide +kernel
theorem dL_law_470 : decode cL_law 470 = .ok (.ifCond .ne 15, 3) := by decide +kernel
theorem dL_law_485 : decode cL_law 485 = .ok (.goto 2774, 3) := by decide +kernel
set_option maxHeartbeats 4000000 in
set_option maxRecDepth 100000 in
/-- storm, called on the two fresh objects -/
theorem zl_2 {p : Program} {l : Launch} {e : Env} {s : State} {m : MethodId} {below : List Frame} {meth : Method} {c : Code} {b : Nat} {xs : Nat → Int32} {A : Nat → Prop} (C0 : lw_At p s m meth c b 5 xs) (hA : ∀ q : Nat, s.heap.size ≤ q → A q) (hA2 : ∀ q : Nat, A q → s.heap.size ≤ q) (htr : l.stackTraces = false) (dC : Nat → ClassId) (dI : Nat → Nat → Nat) (e0 h0 g0 o od : Nat) (a bb : Nat → Nat) (cL cT cO cD : ClassId) (hE : zE e0 A s s.heap) (H : Heap) (locs : List Loc) (ls : Array Slot) (hK : va_K (dC, dI) vwCl [(cL, (.object RX1)), (cT, (.object RX5)), (cO, .long), (cD, .double)] s) (hP : va_P (dC, dI) vwCl [(h0, .inr (11, zC a)), ((a 0), .inl (cL, 10, .inr (.inr (.inr (.inr (fun _ => none)))))), ((a 3), .inl (cT, 6, .inr (.inr (.inr (.inr (fun _ => none)))))), (g0, .inr (15, zM 0 bb)), ((bb 0), .inr (4, [.int 0, .ref e0, .int 0])), ((bb 1), .inr (4, [.int 0, .ref e0, .int 0])), ((bb 2), .inr (4, [.int 0, .ref e0, .int 0])), ((bb 3), .inr (4, [.int 0, .ref e0, .int 0])), (o, .inl (cO, 1, .inr (.inl (fun _ => 0)))), (od, .inl (cD, 1, .inr (.inr (.inr (.inl (fun _ => 0))))))] H) (hD : va_D A [(h0, .inr (11, zC a)), ((a 0), .inl (cL, 10, .inr (.inr (.inr (.inr (fun _ => none)))))), ((a 3), .inl (cT, 6, .inr (.inr (.inr (.inr (fun _ => none)))))), (g0, .inr (15, zM 0 bb)), ((bb 0), .inr (4, [.int 0, .ref e0, .int 0])), ((bb 1), .inr (4, [.int 0, .ref e0, .int 0])), ((bb 2), .inr (4, [.int 0, .ref e0, .int 0])), ((bb 3), .inr (4, [.int 0, .ref e0, .int 0])), (o, .inl (cO, 1, .inr (.inl (fun _ => 0)))), (od, .inl (cD, 1, .inr (.inr (.inr (.inl (fun _ => 0))))))]) (hS : va_S A s.heap H locs) (hl : lv_has ls 9 [(0, .ref b), (1, .ref h0), (2, .ref g0), (3, .ref o), (4, .ref od), (5, .int 0)]) : W p l e room_1 s m #[Value.ref b] below meth c H locs (86) (1094) (lw_Z below #[Value.ref b] s) (F0 m 396 ls []) := by
  obtain ⟨hx, hb, hr, hml, hown, ht0, hX, hbl, hlocks, hgv⟩ := id C0
  have hts := ht0
  have hbA : ¬ A b := fun h => absurd hbl (Nat.not_lt.mpr (hA2 b h))
  refine lv_aload_n hx hb dL_law_396 rfl (lv_at hl 1 rfl) ?_
  refine lv_aload_n hx hb dL_law_397 rfl (lv_at hl 0 rfl) ?_
  refine lv_iload hx hb dL_law_398 (lv_at hl 5 rfl) ?_
  refine lv_iconst (v := 1) hx hb dL_law_400 (by decide) ?_
  refine lv_iadd hx hb dL_law_401 ?_
  refine lv_topi (fun y1 e2 => ?_)
  obtain rfl : y1 = 1 := e2.trans (by decide)
  refine va_sld hx hb hX hbl hbA hS (by unfold vp_in; decide) dL_law_402 ?_
  refine lv_aload_n hx hb dL_law_403 rfl (lv_at hl 0 rfl) ?_
  refine lv_iload hx hb dL_law_404 (lv_at hl 5 rfl) ?_
  refine lv_iconst (v := 2) hx hb dL_law_406 (by decide) ?_
  refine lv_iadd hx hb dL_law_407 ?_
  refine lv_topi (fun y3 e4 => ?_)
  obtain rfl : y3 = 2 := e4.trans (by decide)
  refine va_sld hx hb hX hbl hbA hS (by unfold vp_in; decide) dL_law_408 ?_
  refine lv_aload_n hx hb dL_law_409 rfl (lv_at hl 0 rfl) ?_
  refine lv_iload hx hb dL_law_410 (lv_at hl 5 rfl) ?_
  refine lv_iconst (v := 3) hx hb dL_law_412 (by decide) ?_
  refine lv_iadd hx hb dL_law_413 ?_
  refine lv_topi (fun y5 e6 => ?_)
  obtain rfl : y5 = 3 := e6.trans (by decide)
  refine va_sld hx hb hX hbl hbA hS (by unfold vp_in; decide) dL_law_414 ?_
  refine lv_aload_n hx hb dL_law_415 rfl (lv_at hl 0 rfl) ?_
  refine lv_iload hx hb dL_law_416 (lv_at hl 5 rfl) ?_
  refine lv_iconst (v := 4) hx hb dL_law_418 (by decide) ?_
  refine lv_iadd hx hb dL_law_419 ?_
  refine lv_topi (fun y7 e8 => ?_)
  obtain rfl : y7 = 4 := e8.trans (by decide)
  refine va_sld hx hb hX hbl hbA hS (by unfold vp_in; decide) dL_law_420 ?_
  refine lv_aload_n hx hb dL_law_421 rfl (lv_at hl 3 rfl) ?_
  have hPc := hP.sub (ws' := [(h0, .inr (11, zC a))]) [0] rfl
  have hDc := hD.sub (ws' := [(h0, .inr (11, zC a))]) [0] (by decide) rfl
  have hKc := hK.sub (tys' := []) [] rfl
  have hFc := va_free (wc := [(h0, .inr (11, zC a))]) hD hS hA [0] rfl
  have hEc := (hE.kept hS.2.1).narrow hFc
  refine vx_calli (vx_runSX (As := [.ref h0, .int (xs (1 : Int32).toNatClampNeg), .int (xs (2 : Int32).toNatClampNeg), .int (xs (3 : Int32).toNatClampNeg), .int (xs (4 : Int32).toNatClampNeg), .ref o]) (rest := []) ⟨hx, hb, hml, hown, hts⟩ (c_L_storm l htr dC dI e0 H.size h0 a (xs (1 : Int32).toNatClampNeg) (xs (2 : Int32).toNatClampNeg) (xs (3 : Int32).toNatClampNeg) (xs (4 : Int32).toNatClampNeg) o) (vx_cwSW 6 hts gL_law_L_storm rfl rfl rfl (by decide +kernel) ⟨Nat.le_of_ble_eq_true rfl, Nat.le_of_ble_eq_true rfl⟩) ⟨fun a U g mk q => by obtain ⟨q0, q1, qP, qK, qD, qE⟩ := q; exact ⟨q0, q1, qP, va_K.moved (u := U) (U := U.calling g mk a) (Vm.Alike.refl U.vm) qK, qD, zE.same rfl qE⟩, fun U hU hW => ⟨rfl, by rw [hU], by rw [hU]; exact hPc, va_K.moved hW.alike hKc, hDc.weaken (fun _ _ _ _ => trivial), by rw [hU]; exact zE.warm hW hEc⟩⟩ rfl rfl hl.1 rfl (lv_room (Nat.le_of_ble_eq_true rfl)) dL_law_422 ⟨Nat.le_of_ble_eq_true rfl, Nat.le_of_ble_eq_true rfl⟩) hS (fun q _ h => hFc q h) hFc (fun q _ h => hFc q h) (fun E ce q9 u t H1 locs1 ht hvm hpx hBX hz1 hk1 hS hce hcv hcl => absurd hpx id) (fun r9 u t H1 locs ht hvm hw hB hz1 hk1 hS => ?_)
  have hP1 : va_P (dC, dI) vwCl [] H1 := fun k q h => by simp at h
  have hD1 : va_D (va_A [(h0, .inr (11, zC a))] H.size) [] := ⟨fun i j p q h => by simp at h, fun k q h => by simp at h⟩
  obtain ⟨hP, hD⟩ := va_join (wr := [((a 0), .inl (cL, 10, .inr (.inr (.inr (.inr (fun _ => none)))))), ((a 3), .inl (cT, 6, .inr (.inr (.inr (.inr (fun _ => none)))))), (g0, .inr (15, zM 0 bb)), ((bb 0), .inr (4, [.int 0, .ref e0, .int 0])), ((bb 1), .inr (4, [.int 0, .ref e0, .int 0])), ((bb 2), .inr (4, [.int 0, .ref e0, .int 0])), ((bb 3), .inr (4, [.int 0, .ref e0, .int 0])), (o, .inl (cO, 1, .inr (.inl (fun _ => 0)))), (od, .inl (cD, 1, .inr (.inr (.inr (.inl (fun _ => 0))))))]) (w1 := []) hP hD [0] [1, 2, 3, 4, 5, 6, 7, 8, 9] rfl rfl (by decide) (by decide) hk1 hFc hP1 hD1
  generalize H1 = H at hP hS ⊢
  have hP : va_P (dC, dI) vwCl [((a 0), .inl (cL, 10, .inr (.inr (.inr (.inr (fun _ => none)))))), ((a 3), .inl (cT, 6, .inr (.inr (.inr (.inr (fun _ => none)))))), (g0, .inr (15, zM 0 bb)), ((bb 0), .inr (4, [.int 0, .ref e0, .int 0])), ((bb 1), .inr (4, [.int 0, .ref e0, .int 0])), ((bb 2), .inr (4, [.int 0, .ref e0, .int 0])), ((bb 3), .inr (4, [.int 0, .ref e0, .int 0])), (o, .inl (cO, 1, .inr (.inl (fun _ => 0)))), (od, .inl (cD, 1, .inr (.inr (.inr (.inl (fun _ => 0))))))] H := hP
  have hD : va_D A [((a 0), .inl (cL, 10, .inr (.inr (.inr (.inr (fun _ => none)))))), ((a 3), .inl (cT, 6, .inr (.inr (.inr (.inr (fun _ => none)))))), (g0, .inr (15, zM 0 bb)), ((bb 0), .inr (4, [.int 0, .ref e0, .int 0])), ((bb 1), .inr (4, [.int 0, .ref e0, .int 0])), ((bb 2), .inr (4, [.int 0, .ref e0, .int 0])), ((bb 3), .inr (4, [.int 0, .ref e0, .int 0])), (o, .inl (cO, 1, .inr (.inl (fun _ => 0)))), (od, .inl (cD, 1, .inr (.inr (.inr (.inl (fun _ => 0))))))] := hD
  obtain rfl : r9 = 1 := hw
  refine lv_istore (lv' := [(6, .int 1), (0, .ref b), (1, .ref h0), (2, .ref g0), (3, .ref o), (4, .ref od), (5, .int 0)]) hx hb dL_law_425 hl (by decide) rfl (fun ls hl => ?_)
  refine lv_aload_n hx hb dL_law_427 rfl (lv_at hl 3 rfl) ?_
  refine lv_aload_n hx hb dL_law_428 rfl (lv_at hl 1 rfl) ?_
  refine lv_iload hx hb dL_law_429 (lv_at hl 6 rfl) ?_
  refine lv_iconst (v := 1) hx hb dL_law_431 (by decide) ?_
  refine lv_iadd hx hb dL_law_432 ?_
  refine lv_topi (fun y10 e11 => ?_)
  obtain rfl : y10 = 1 := e11.trans (by decide)
  refine va_sld hx hb hX hbl hbA hS (by unfold vp_in; decide) dL_law_433 ?_
  refine lv_aload_n hx hb dL_law_434 rfl (lv_at hl 1 rfl) ?_
  refine lv_iload hx hb dL_law_435 (lv_at hl 6 rfl) ?_
  refine lv_iconst (v := 2) hx hb dL_law_437 (by decide) ?_
  refine lv_iadd hx hb dL_law_438 ?_
  refine lv_topi (fun y12 e13 => ?_)
  obtain rfl : y12 = 2 := e13.trans (by decide)
  refine va_sld hx hb hX hbl hbA hS (by unfold vp_in; decide) dL_law_439 ?_
  refine lv_aload_n hx hb dL_law_440 rfl (lv_at hl 1 rfl) ?_
  refine lv_iload hx hb dL_law_441 (lv_at hl 6 rfl) ?_
  refine lv_iconst (v := 3) hx hb dL_law_443 (by decide) ?_
  refine lv_iadd hx hb dL_law_444 ?_
  refine lv_topi (fun y14 e15 => ?_)
  obtain rfl : y14 = 3 := e15.trans (by decide)
  refine va_sld hx hb hX hbl hbA hS (by unfold vp_in; decide) dL_law_445 ?_
  refine lv_aload_n hx hb dL_law_446 rfl (lv_at hl 1 rfl) ?_
  refine lv_iload hx hb dL_law_447 (lv_at hl 6 rfl) ?_
  refine lv_iconst (v := 4) hx hb dL_law_449 (by decide) ?_
  refine lv_iadd hx hb dL_law_450 ?_
  refine lv_topi (fun y16 e17 => ?_)
  obtain rfl : y16 = 4 := e17.trans (by decide)
  refine va_sld hx hb hX hbl hbA hS (by unfold vp_in; decide) dL_law_451 ?_
  have hPc := hP.sub (ws' := [(g0, .inr (15, zM 0 bb)), ((bb 0), .inr (4, [.int 0, .ref e0, .int 0])), ((bb 1), .inr (4, [.int 0, .ref e0, .int 0])), ((bb 2), .inr (4, [.int 0, .ref e0, .int 0])), ((bb 3), .inr (4, [.int 0, .ref e0, .int 0]))]) [2, 3, 4, 5, 6] rfl
  have hDc := hD.sub (ws' := [(g0, .inr (15, zM 0 bb)), ((bb 0), .inr (4, [.int 0, .ref e0, .int 0])), ((bb 1), .inr (4, [.int 0, .ref e0, .int 0])), ((bb 2), .inr (4, [.int 0, .ref e0, .int 0])), ((bb 3), .inr (4, [.int 0, .ref e0, .int 0]))]) [2, 3, 4, 5, 6] (by decide) rfl
  have hKc := hK.sub (tys' := []) [] rfl
  have hFc := va_free (wc := [(g0, .inr (15, zM 0 bb)), ((bb 0), .inr (4, [.int 0, .ref e0, .int 0])), ((bb 1), .inr (4, [.int 0, .ref e0, .int 0])), ((bb 2), .inr (4, [.int 0, .ref e0, .int 0])), ((bb 3), .inr (4, [.int 0, .ref e0, .int 0]))]) hD hS hA [2, 3, 4, 5, 6] rfl
  have hEc := (hE.kept hS.2.1).narrow hFc
  refine va_calli (va_runV (As := [.int (xs (1 : Int32).toNatClampNeg), .int (xs (2 : Int32).toNatClampNeg), .int (xs (3 : Int32).toNatClampNeg), .int (xs (4 : Int32).toNatClampNeg)]) (rest := []) ⟨hx, hb, hml, hown, hts⟩ (c_X10_storm l htr dC dI e0 H.size g0 0 bb (xs (1 : Int32).toNatClampNeg) (xs (2 : Int32).toNatClampNeg) (xs (3 : Int32).toNatClampNeg) (xs (4 : Int32).toNatClampNeg)) (cwV 4 hts gL_law_X10_storm rfl rfl rfl (by decide +kernel) ⟨Nat.le_of_ble_eq_true rfl, Nat.le_of_ble_eq_true rfl⟩) ⟨fun a U g mk q => by obtain ⟨q0, q1, qP, qK, qD, qE⟩ := q; exact ⟨q0, q1, qP, va_K.moved (u := U) (U := U.calling g mk a) (Vm.Alike.refl U.vm) qK, qD, zE.same rfl qE⟩, va_recv hKc hPc (ci := 15) (q0 := 0) rfl rfl, fun U hU hW => ⟨rfl, by rw [hU], by rw [hU]; exact hPc, va_K.moved hW.alike hKc, hDc.weaken (fun _ _ _ _ => trivial), by rw [hU]; exact zE.warm hW hEc⟩⟩ rfl rfl hl.1 rfl (lv_room (Nat.le_of_ble_eq_true rfl)) dL_law_452 ⟨Nat.le_of_ble_eq_true rfl, Nat.le_of_ble_eq_true rfl⟩) hS (fun q _ h => hFc q h) hFc (fun r18 u t H1 locs ht hvm hw hB hz1 hk1 hS => ?_)
  obtain ⟨hP1, hK1, hD1⟩ := hB
  rw [ht] at hP1
  obtain ⟨hP, hD⟩ := va_join (wr := [((a 0), .inl (cL, 10, .inr (.inr (.inr (.inr (fun _ => none)))))), ((a 3), .inl (cT, 6, .inr (.inr (.inr (.inr (fun _ => none)))))), (o, .inl (cO, 1, .inr (.inl (fun _ => 0)))), (od, .inl (cD, 1, .inr (.inr (.inr (.inl (fun _ => 0))))))]) (w1 := [(g0, .inr (15, zM 1 bb))]) hP hD [2, 3, 4, 5, 6] [0, 1, 7, 8] rfl rfl (by decide) (by decide) hk1 hFc hP1 hD1
  generalize H1 = H at hP hS ⊢
  have hP : va_P (dC, dI) vwCl [((a 0), .inl (cL, 10, .inr (.inr (.inr (.inr (fun _ => none)))))), ((a 3), .inl (cT, 6, .inr (.inr (.inr (.inr (fun _ => none)))))), (o, .inl (cO, 1, .inr (.inl (fun _ => 0)))), (od, .inl (cD, 1, .inr (.inr (.inr (.inl (fun _ => 0)))))), (g0, .inr (15, zM 1 bb))] H := hP
  have hD : va_D A [((a 0), .inl (cL, 10, .inr (.inr (.inr (.inr (fun _ => none)))))), ((a 3), .inl (cT, 6, .inr (.inr (.inr (.inr (fun _ => none)))))), (o, .inl (cO, 1, .inr (.inl (fun _ => 0)))), (od, .inl (cD, 1, .inr (.inr (.inr (.inl (fun _ => 0)))))), (g0, .inr (15, zM 1 bb))] := hD
  obtain rfl : r18 = 0 := hw
  refine lv_istore (lv' := [(7, .int 0), (6, .int 1), (0, .ref b), (1, .ref h0), (2, .ref g0), (3, .ref o), (4, .ref od), (5, .int 0)]) hx hb dL_law_455 hl (by decide) rfl (fun ls hl => ?_)
  refine lv_aload_n hx hb dL_law_457 rfl (lv_at hl 4 rfl) ?_
  have hPc := hP.sub (ws' := [(g0, .inr (15, [.int 1, .ref (bb 0), .ref (bb 1), .ref (bb 2), .ref (bb 3), .int 0, .long 0, .int 0, .int 0, .int 0, .int 0]))]) [4] rfl
  have hDc := hD.sub (ws' := [(g0, .inr (15, [.int 1, .ref (bb 0), .ref (bb 1), .ref (bb 2), .ref (bb 3), .int 0, .long 0, .int 0, .int 0, .int 0, .int 0]))]) [4] (by decide) rfl
  have hKc := hK.sub (tys' := []) [] rfl
  have hFc := va_free (wc := [(g0, .inr (15, [.int 1, .ref (bb 0), .ref (bb 1), .ref (bb 2), .ref (bb 3), .int 0, .long 0, .int 0, .int 0, .int 0, .int 0]))]) hD hS hA [4] rfl
  refine va_calli (va_runV (As := []) (rest := []) ⟨hx, hb, hml, hown, hts⟩ (c_X10_thrown l htr dC dI e0 H.size g0 1 (bb 0) (bb 1) (bb 2) (bb 3) 0 0 0 0 0 0) (cwV 0 hts gL_law_X10_thrown rfl rfl rfl (by decide +kernel) ⟨Nat.le_of_ble_eq_true rfl, Nat.le_of_ble_eq_true rfl⟩) ⟨fun a U g mk q => by obtain ⟨q0, q1, qP, qK, qD⟩ := q; exact ⟨q0, q1, qP, va_K.moved (u := U) (U := U.calling g mk a) (Vm.Alike.refl U.vm) qK, qD⟩, va_recv hKc hPc (ci := 15) (q0 := 0) rfl rfl, fun U hU hW => ⟨rfl, by rw [hU], by rw [hU]; exact hPc, va_K.moved hW.alike hKc, hDc.weaken (fun _ _ _ _ => trivial)⟩⟩ rfl rfl hl.1 rfl (lv_room (Nat.le_of_ble_eq_true rfl)) dL_law_458 ⟨Nat.le_of_ble_eq_true rfl, Nat.le_of_ble_eq_true rfl⟩) hS (fun q _ h => hFc q h) hFc (fun r19 u t H1 locs ht hvm hw hB hz1 hk1 hS => ?_)
  obtain ⟨hP1, hK1, hD1⟩ := hB
  rw [ht] at hP1
  obtain ⟨hP, hD⟩ := va_join (wr := [((a 0), .inl (cL, 10, .inr (.inr (.inr (.inr (fun _ => none)))))), ((a 3), .inl (cT, 6, .inr (.inr (.inr (.inr (fun _ => none)))))), (o, .inl (cO, 1, .inr (.inl (fun _ => 0)))), (od, .inl (cD, 1, .inr (.inr (.inr (.inl (fun _ => 0))))))]) (w1 := [(g0, .inr (15, [.int 1, .ref (bb 0), .ref (bb 1), .ref (bb 2), .ref (bb 3), .int 0, .long 0, .int 0, .int 0, .int 0, .int 0]))]) hP hD [4] [0, 1, 2, 3] rfl rfl (by decide) (by decide) hk1 hFc hP1 hD1
  generalize H1 = H at hP hS ⊢
  have hP : va_P (dC, dI) vwCl [((a 0), .inl (cL, 10, .inr (.inr (.inr (.inr (fun _ => none)))))), ((a 3), .inl (cT, 6, .inr (.inr (.inr (.inr (fun _ => none)))))), (o, .inl (cO, 1, .inr (.inl (fun _ => 0)))), (od, .inl (cD, 1, .inr (.inr (.inr (.inl (fun _ => 0)))))), (g0, .inr (15, [.int 1, .ref (bb 0), .ref (bb 1), .ref (bb 2), .ref (bb 3), .int 0, .long 0, .int 0, .int 0, .int 0, .int 0]))] H := hP
  have hD : va_D A [((a 0), .inl (cL, 10, .inr (.inr (.inr (.inr (fun _ => none)))))), ((a 3), .inl (cT, 6, .inr (.inr (.inr (.inr (fun _ => none)))))), (o, .inl (cO, 1, .inr (.inl (fun _ => 0)))), (od, .inl (cD, 1, .inr (.inr (.inr (.inl (fun _ => 0)))))), (g0, .inr (15, [.int 1, .ref (bb 0), .ref (bb 1), .ref (bb 2), .ref (bb 3), .int 0, .long 0, .int 0, .int 0, .int 0, .int 0]))] := hD
  obtain rfl : r19 = 1 := hw
  refine lv_iload hx hb dL_law_461 (lv_at hl 1 rfl) ?_
  refine lv_icmp_eq (tgt := 468) hx hb dL_law_463 (by decide) (fun _ => ?_) (fun c20 => absurd (by decide) c20)
  refine lv_iload hx hb dL_law_468 (lv_at hl 1 rfl) ?_
  refine lv_if_ne (tgt := 485) hx hb dL_law_470 (by decide) (fun _ => ?_) (fun c21 => absurd c21 (by decide))
  refine lv_goto (tgt := 3259) hx hb dL_law_485 (by decide) ?_
  exact zl_end C0 hA2 (Nat.le_of_ble_eq_true rfl) (Nat.le_of_ble_eq_true rfl) hS (lv_sub hl [7, 2] rfl)
theorem dL_law_488 : decode cL_law 488 = .ok (.aload_n 1, 1) := by decide +kernel
theorem dL_law_489 : decode cL_law 489 = .ok (.aload_n 0, 1) := by decide +kernel
theorem dL_law_490 : decode cL_law 490 = .ok (.iload 5, 2) := by decide +kernel
theorem dL_law_492 : decode cL_law 492 = .ok (.iconst 1, 1) := by decide +kernel
theorem dL_law_493 : decode cL_law 493 = .ok (.iadd, 1) := by decide +kernel
theorem dL_law_494 : decode cL_law 494 = .ok (.iaload, 1) := by decide +kernel
theorem dL_law_495 : decode cL_law 495 = .ok (.aload_n 0, 1) := by decide +kernel
theorem dL_law_496 : decode cL_law 496 = .ok (.iload 5, 2) := by decide +kernel
theorem dL_law_498 : decode cL_law 498 = .ok (.iconst 2, 1) := by decide +kernel
theorem dL_law_499 : decode cL_law 499 = .ok (.iadd, 1) := by decide +kernel
theorem dL_law_500 : decode cL_law 500 = .ok (.iaload, 1) := by decide +kernel
theorem dL_law_501 : decode cL_law 501 = .ok (.ifCond .eq 7, 3) := by decide +kernel
theorem dL_law_504 : decode cL_law 504 = .ok (.iconst 1, 1) := by decide +kernel
theorem dL_law_505 : decode cL_law 505 = .ok (.goto 4, 3) := by decide +kernel
theorem dL_law_508 : decode cL_law 508 = .ok (.iconst 0, 1) := by decide +kernel
theorem dL_law_509 : decode cL_law 509 = .ok (.aload_n 3, 1) := by decide +kernel
theorem dL_law_510 : decode cL_law 510 = .ok (.invokestatic 194, 3) := by decide +kernel
theorem dL_law_513 : decode cL_law 513 = .ok (.istore 6, 2) := by decide +kernel
theorem dL_law_515 : decode cL_law 515 = .ok (.aload_n 2, 1) := by decide +kernel
theorem dL_law_516 : decode cL_law 516 = .ok (.aload_n 0, 1) := by decide +kernel
theorem dL_law_517 : decode cL_law 517 = .ok (.iload 5, 2) := by decide +kernel
theorem dL_law_519 : decode cL_law 519 = .ok (.iconst 1, 1) := by decide +kernel
theorem dL_law_520 : decode cL_law 520 = .ok (.iadd, 1) := by decide +kernel
theorem dL_law_521 : decode cL_law 521 = .ok (.iaload, 1) := by decide +kernel
theorem dL_law_522 : decode cL_law 522 = .ok (.aload_n 0, 1) := by decide +kernel
theorem dL_law_523 : decode cL_law 523 = .ok (.iload 5, 2) := by decide +kernel
theorem dL_law_525 : decode cL_law 525 = .ok (.iconst 2, 1) := by decide +kernel
theorem dL_law_526 : decode cL_law 526 = .ok (.iadd, 1) := by decide +kernel
theorem dL_law_527 : decode cL_law 527 = .ok (.iaload, 1) := by decide +kernel
theorem dL_law_528 : decode cL_law 528 = .ok (.ifCond .eq 7, 3) := by decide +kernel
theorem dL_law_531 : decode cL_law 531 = .ok (.iconst 1, 1) := by decide +kernel
theorem dL_law_532 : decode cL_law 532 = .ok (.goto 4, 3) := by decide +kernel
theorem dL_law_535 : decode cL_law 535 = .ok (.iconst 0, 1) := by decide +kernel
theorem dL_law_536 : decode cL_law 536 = .ok (.invokevirtual 197, 3) := by decide +kernel
theorem dL_law_539 : decode cL_law 539 = .ok (.istore 7, 2) := by decide +kernel
theorem dL_law_541 : decode cL_law 541 = .ok (.aload_n 2, 1) := by decide +kernel
theorem dL_law_542 : decode cL_law 542 = .ok (.invokevirtual 183, 3) := by decide +kernel
theorem dL_law_545 : decode cL_law 545 = .ok (.iload 6, 2) := by decide +kernel
theorem dL_law_547 : decode cL_law 547 = .ok (.if_icmp .eq 5, 3) := by decide +kernel
theorem dL_law_552 : decode cL_law 552 = .ok (.iload 6, 2) := by decide +kernel
theorem dL_law_554 : decode cL_law 554 = .ok (.ifCond .ne 22, 3) := by decide +kernel
theorem dL_law_576 : decode cL_law 576 = .ok (.goto 2683, 3) := by decide +kernel
set_option maxHeartbeats 4000000 in
set_option maxRecDepth 100000 in
/-- must, called on the two fresh objects -/
theorem zl_3 {p : Program} {l : Launch} {e : Env} {s : State} {m : MethodId} {below : List Frame} {meth : Method} {c : Code} {b : Nat} {xs : Nat → Int32} {A : Nat → Prop} (C0 : lw_At p s m meth c b 5 xs) (hA : ∀ q : Nat, s.heap.size ≤ q → A q) (hA2 : ∀ q : Nat, A q → s.heap.size ≤ q) (htr : l.stackTraces = false) (dC : Nat → ClassId) (dI : Nat → Nat → Nat) (e0 h0 g0 o od : Nat) (a bb : Nat → Nat) (cL cT cO cD : ClassId) (hE : zE e0 A s s.heap) (H : Heap) (locs : List Loc) (ls : Array Slot) (hK : va_K (dC, dI) vwCl [(cL, (.object RX1)), (cT, (.object RX5)), (cO, .long), (cD, .double)] s) (hP : va_P (dC, dI) vwCl [(h0, .inr (11, zC a)), ((a 0), .inl (cL, 10, .inr (.inr (.inr (.inr (fun _ => none)))))), ((a 3), .inl (cT, 6, .inr (.inr (.inr (.inr (fun _ => none)))))), (g0, .inr (15, zM 0 bb)), ((bb 0), .inr (4, [.int 0, .ref e0, .int 0])), ((bb 1), .inr (4, [.int 0, .ref e0, .int 0])), ((bb 2), .inr (4, [.int 0, .ref e0, .int 0])), ((bb 3), .inr (4, [.int 0, .ref e0, .int 0])), (o, .inl (cO, 1, .inr (.inl (fun _ => 0)))), (od, .inl (cD, 1, .inr (.inr (.inr (.inl (fun _ => 0))))))] H) (hD : va_D A [(h0, .inr (11, zC a)), ((a 0), .inl (cL, 10, .inr (.inr (.inr (.inr (fun _ => none)))))), ((a 3), .inl (cT, 6, .inr (.inr (.inr (.inr (fun _ => none)))))), (g0, .inr (15, zM 0 bb)), ((bb 0), .inr (4, [.int 0, .ref e0, .int 0])), ((bb 1), .inr (4, [.int 0, .ref e0, .int 0])), ((bb 2), .inr (4, [.int 0, .ref e0, .int 0])), ((bb 3), .inr (4, [.int 0, .ref e0, .int 0])), (o, .inl (cO, 1, .inr (.inl (fun _ => 0)))), (od, .inl (cD, 1, .inr (.inr (.inr (.inl (fun _ => 0))))))]) (hS : va_S A s.heap H locs) (hl : lv_has ls 9 [(0, .ref b), (1, .ref h0), (2, .ref g0), (3, .ref o), (4, .ref od), (5, .int 0)]) : W p l e room_1 s m #[Value.ref b] below meth c H locs (86) (1094) (lw_Z below #[Value.ref b] s) (F0 m 488 ls []) := by
  obtain ⟨hx, hb, hr, hml, hown, ht0, hX, hbl, hlocks, hgv⟩ := id C0
  have hts := ht0
  have hbA : ¬ A b := fun h => absurd hbl (Nat.not_lt.mpr (hA2 b h))
  refine lv_aload_n hx hb dL_law_488 rfl (lv_at hl 1 rfl) ?_
  refine lv_aload_n hx hb dL_law_489 rfl (lv_at hl 0 rfl) ?_
  refine lv_iload hx hb dL_law_490 (lv_at hl 5 rfl) ?_
  refine lv_iconst (v := 1) hx hb dL_law_492 (by decide) ?_
  refine lv_iadd hx hb dL_law_493 ?_
  refine lv_topi (fun y1 e2 => ?_)
  obtain rfl : y1 = 1 := e2.trans (by decide)
  refine va_sld hx hb hX hbl hbA hS (by unfold vp_in; decide) dL_law_494 ?_
  refine lv_aload_n hx hb dL_law_495 rfl (lv_at hl 0 rfl) ?_
  refine lv_iload hx hb dL_law_496 (lv_at hl 5 rfl) ?_
  refine lv_iconst (v := 2) hx hb dL_law_498 (by decide) ?_
  refine lv_iadd hx hb dL_law_499 ?_
  refine lv_topi (fun y3 e4 => ?_)
  obtain rfl : y3 = 2 := e4.trans (by decide)
  refine va_sld hx hb hX hbl hbA hS (by unfold vp_in; decide) dL_law_500 ?_
  refine lv_if_eq (tgt := 508) hx hb dL_law_501 (by decide) (fun c5 => ?_) (fun c5 => ?_)
  · refine lv_iconst (v := 0) hx hb dL_law_508 (by decide) ?_
    refine lv_aload_n hx hb dL_law_509 rfl (lv_at hl 3 rfl) ?_
    have hPc := hP.sub (ws' := [(h0, .inr (11, zC a))]) [0] rfl
    have hDc := hD.sub (ws' := [(h0, .inr (11, zC a))]) [0] (by decide) rfl
    have hKc := hK.sub (tys' := []) [] rfl
    have hFc := va_free (wc := [(h0, .inr (11, zC a))]) hD hS hA [0] rfl
    have hEc := (hE.kept hS.2.1).narrow hFc
    refine vx_calli (vx_runSX (As := [.ref h0, .int (xs (1 : Int32).toNatClampNeg), .int 0, .ref o]) (rest := []) ⟨hx, hb, hml, hown, hts⟩ (c_L_must l htr dC dI e0 H.size h0 a (xs (1 : Int32).toNatClampNeg) 0 o) (vx_cwSW 4 hts gL_law_L_must rfl rfl rfl (by decide +kernel) ⟨Nat.le_of_ble_eq_true rfl, Nat.le_of_ble_eq_true rfl⟩) ⟨fun a U g mk q => by obtain ⟨q0, q1, qP, qK, qD, qE⟩ := q; exact ⟨q0, q1, qP, va_K.moved (u := U) (U := U.calling g mk a) (Vm.Alike.refl U.vm) qK, qD, zE.same rfl qE⟩, fun U hU hW => ⟨rfl, by rw [hU], by rw [hU]; exact hPc, va_K.moved hW.alike hKc, hDc.weaken (fun _ _ _ _ => trivial), by rw [hU]; exact zE.warm hW hEc⟩⟩ rfl rfl hl.1 rfl (lv_room (Nat.le_of_ble_eq_true rfl)) dL_law_510 ⟨Nat.le_of_ble_eq_true rfl, Nat.le_of_ble_eq_true rfl⟩) hS (fun q _ h => hFc q h) hFc (fun q _ h => hFc q h) (fun E ce q9 u t H1 locs1 ht hvm hpx hBX hz1 hk1 hS hce hcv hcl => absurd hpx id) (fun r6 u t H1 locs ht hvm hw hB hz1 hk1 hS => ?_)
    have hP1 : va_P (dC, dI) vwCl [] H1 := fun k q h => by simp at h
    have hD1 : va_D (va_A [(h0, .inr (11, zC a))] H.size) [] := ⟨fun i j p q h => by simp at h, fun k q h => by simp at h⟩
    obtain ⟨hP, hD⟩ := va_join (wr := [((a 0), .inl (cL, 10, .inr (.inr (.inr (.inr (fun _ => none)))))), ((a 3), .inl (cT, 6, .inr (.inr (.inr (.inr (fun _ => none)))))), (g0, .inr (15, zM 0 bb)), ((bb 0), .inr (4, [.int 0, .ref e0, .int 0])), ((bb 1), .inr (4, [.int 0, .ref e0, .int 0])), ((bb 2), .inr (4, [.int 0, .ref e0, .int 0])), ((bb 3), .inr (4, [.int 0, .ref e0, .int 0])), (o, .inl (cO, 1, .inr (.inl (fun _ => 0)))), (od, .inl (cD, 1, .inr (.inr (.inr (.inl (fun _ => 0))))))]) (w1 := []) hP hD [0] [1, 2, 3, 4, 5, 6, 7, 8, 9] rfl rfl (by decide) (by decide) hk1 hFc hP1 hD1
    generalize H1 = H at hP hS ⊢
    have hP : va_P (dC, dI) vwCl [((a 0), .inl (cL, 10, .inr (.inr (.inr (.inr (fun _ => none)))))), ((a 3), .inl (cT, 6, .inr (.inr (.inr (.inr (fun _ => none)))))), (g0, .inr (15, zM 0 bb)), ((bb 0), .inr (4, [.int 0, .ref e0, .int 0])), ((bb 1), .inr (4, [.int 0, .ref e0, .int 0])), ((bb 2), .inr (4, [.int 0, .ref e0, .int 0])), ((bb 3), .inr (4, [.int 0, .ref e0, .int 0])), (o, .inl (cO, 1, .inr (.inl (fun _ => 0)))), (od, .inl (cD, 1, .inr (.inr (.inr (.inl (fun _ => 0))))))] H := hP
    have hD : va_D A [((a 0), .inl (cL, 10, .inr (.inr (.inr (.inr (fun _ => none)))))), ((a 3), .inl (cT, 6, .inr (.inr (.inr (.inr (fun _ => none)))))), (g0, .inr (15, zM 0 bb)), ((bb 0), .inr (4, [.int 0, .ref e0, .int 0])), ((bb 1), .inr (4, [.int 0, .ref e0, .int 0])), ((bb 2), .inr (4, [.int 0, .ref e0, .int 0])), ((bb 3), .inr (4, [.int 0, .ref e0, .int 0])), (o, .inl (cO, 1, .inr (.inl (fun _ => 0)))), (od, .inl (cD, 1, .inr (.inr (.inr (.inl (fun _ => 0))))))] := hD
    obtain rfl : r6 = 1 := hw
    refine lv_istore (lv' := [(6, .int 1), (0, .ref b), (1, .ref h0), (2, .ref g0), (3, .ref o), (4, .ref od), (5, .int 0)]) hx hb dL_law_513 hl (by decide) rfl (fun ls hl => ?_)
    refine lv_aload_n hx hb dL_law_515 rfl (lv_at hl 3 rfl) ?_
    refine lv_aload_n hx hb dL_law_516 rfl (lv_at hl 1 rfl) ?_
    refine lv_iload hx hb dL_law_517 (lv_at hl 6 rfl) ?_
    refine lv_iconst (v := 1) hx hb dL_law_519 (by decide) ?_
    refine lv_iadd hx hb dL_law_520 ?_
    refine lv_topi (fun y7 e8 => ?_)
    obtain rfl : y7 = 1 := e8.trans (by decide)
    refine va_sld hx hb hX hbl hbA hS (by unfold vp_in; decide) dL_law_521 ?_
    refine lv_aload_n hx hb dL_law_522 rfl (lv_at hl 1 rfl) ?_
    refine lv_iload hx hb dL_law_523 (lv_at hl 6 rfl) ?_
    refine lv_iconst (v := 2) hx hb dL_law_525 (by decide) ?_
    refine lv_iadd hx hb dL_law_526 ?_
    refine lv_topi (fun y9 e10 => ?_)
    obtain rfl : y9 = 2 := e10.trans (by decide)
    refine va_sld hx hb hX hbl hbA hS (by unfold vp_in; decide) dL_law_527 ?_
    refine lv_if_eq (tgt := 535) hx hb dL_law_528 (by decide) (fun c11 => ?_) (fun c11 => ?_)
    · refine lv_iconst (v := 0) hx hb dL_law_535 (by decide) ?_
      have hPc := hP.sub (ws' := [(g0, .inr (15, zM 0 bb)), ((bb 0), .inr (4, [.int 0, .ref e0, .int 0])), ((bb 1), .inr (4, [.int 0, .ref e0, .int 0])), ((bb 2), .inr (4, [.int 0, .ref e0, .int 0])), ((bb 3), .inr (4, [.int 0, .ref e0, .int 0]))]) [2, 3, 4, 5, 6] rfl
      have hDc := hD.sub (ws' := [(g0, .inr (15, zM 0 bb)), ((bb 0), .inr (4, [.int 0, .ref e0, .int 0])), ((bb 1), .inr (4, [.int 0, .ref e0, .int 0])), ((bb 2), .inr (4, [.int 0, .ref e0, .int 0])), ((bb 3), .inr (4, [.int 0, .ref e0, .int 0]))]) [2, 3, 4, 5, 6] (by decide) rfl
      have hKc := hK.sub (tys' := []) [] rfl
      have hFc := va_free (wc := [(g0, .inr (15, zM 0 bb)), ((bb 0), .inr (4, [.int 0, .ref e0, .int 0])), ((bb 1), .inr (4, [.int 0, .ref e0, .int 0])), ((bb 2), .inr (4, [.int 0, .ref e0, .int 0])), ((bb 3), .inr (4, [.int 0, .ref e0, .int 0]))]) hD hS hA [2, 3, 4, 5, 6] rfl
      have hEc := (hE.kept hS.2.1).narrow hFc
      refine va_calli (va_runV (As := [.int (xs (1 : Int32).toNatClampNeg), .int 0]) (rest := []) ⟨hx, hb, hml, hown, hts⟩ (c_X10_must l htr dC dI e0 H.size g0 0 bb (xs (1 : Int32).toNatClampNeg) 0) (cwV 2 hts gL_law_X10_must rfl rfl rfl (by decide +kernel) ⟨Nat.le_of_ble_eq_true rfl, Nat.le_of_ble_eq_true rfl⟩) ⟨fun a U g mk q => by obtain ⟨q0, q1, qP, qK, qD, qE⟩ := q; exact ⟨q0, q1, qP, va_K.moved (u := U) (U := U.calling g mk a) (Vm.Alike.refl U.vm) qK, qD, zE.same rfl qE⟩, va_recv hKc hPc (ci := 15) (q0 := 0) rfl rfl, fun U hU hW => ⟨rfl, by rw [hU], by rw [hU]; exact hPc, va_K.moved hW.alike hKc, hDc.weaken (fun _ _ _ _ => trivial), by rw [hU]; exact zE.warm hW hEc⟩⟩ rfl rfl hl.1 rfl (lv_room (Nat.le_of_ble_eq_true rfl)) dL_law_536 ⟨Nat.le_of_ble_eq_true rfl, Nat.le_of_ble_eq_true rfl⟩) hS (fun q _ h => hFc q h) hFc (fun r12 u t H1 locs ht hvm hw hB hz1 hk1 hS => ?_)
      obtain ⟨hP1, hK1, hD1⟩ := hB
      rw [ht] at hP1
      obtain ⟨hP, hD⟩ := va_join (wr := [((a 0), .inl (cL, 10, .inr (.inr (.inr (.inr (fun _ => none)))))), ((a 3), .inl (cT, 6, .inr (.inr (.inr (.inr (fun _ => none)))))), (o, .inl (cO, 1, .inr (.inl (fun _ => 0)))), (od, .inl (cD, 1, .inr (.inr (.inr (.inl (fun _ => 0))))))]) (w1 := [(g0, .inr (15, zM 1 bb))]) hP hD [2, 3, 4, 5, 6] [0, 1, 7, 8] rfl rfl (by decide) (by decide) hk1 hFc hP1 hD1
      generalize H1 = H at hP hS ⊢
      have hP : va_P (dC, dI) vwCl [((a 0), .inl (cL, 10, .inr (.inr (.inr (.inr (fun _ => none)))))), ((a 3), .inl (cT, 6, .inr (.inr (.inr (.inr (fun _ => none)))))), (o, .inl (cO, 1, .inr (.inl (fun _ => 0)))), (od, .inl (cD, 1, .inr (.inr (.inr (.inl (fun _ => 0)))))), (g0, .inr (15, zM 1 bb))] H := hP
      have hD : va_D A [((a 0), .inl (cL, 10, .inr (.inr (.inr (.inr (fun _ => none)))))), ((a 3), .inl (cT, 6, .inr (.inr (.inr (.inr (fun _ => none)))))), (o, .inl (cO, 1, .inr (.inl (fun _ => 0)))), (od, .inl (cD, 1, .inr (.inr (.inr (.inl (fun _ => 0)))))), (g0, .inr (15, zM 1 bb))] := hD
      obtain rfl : r12 = 0 := hw
      refine lv_istore (lv' := [(7, .int 0), (6, .int 1), (0, .ref b), (1, .ref h0), (2, .ref g0), (3, .ref o), (4, .ref od), (5, .int 0)]) hx hb dL_law_539 hl (by decide) rfl (fun ls hl => ?_)
      refine lv_aload_n hx hb dL_law_541 rfl (lv_at hl 4 rfl) ?_
      have hPc := hP.sub (ws' := [(g0, .inr (15, [.int 1, .ref (bb 0), .ref (bb 1), .ref (bb 2), .ref (bb 3), .int 0, .long 0, .int 0, .int 0, .int 0, .int 0]))]) [4] rfl
      have hDc := hD.sub (ws' := [(g0, .inr (15, [.int 1, .ref (bb 0), .ref (bb 1), .ref (bb 2), .ref (bb 3), .int 0, .long 0, .int 0, .int 0, .int 0, .int 0]))]) [4] (by decide) rfl
      have hKc := hK.sub (tys' := []) [] rfl
      have hFc := va_free (wc := [(g0, .inr (15, [.int 1, .ref (bb 0), .ref (bb 1), .ref (bb 2), .ref (bb 3), .int 0, .long 0, .int 0, .int 0, .int 0, .int 0]))]) hD hS hA [4] rfl
      refine va_calli (va_runV (As := []) (rest := []) ⟨hx, hb, hml, hown, hts⟩ (c_X10_thrown l htr dC dI e0 H.size g0 1 (bb 0) (bb 1) (bb 2) (bb 3) 0 0 0 0 0 0) (cwV 0 hts gL_law_X10_thrown rfl rfl rfl (by decide +kernel) ⟨Nat.le_of_ble_eq_true rfl, Nat.le_of_ble_eq_true rfl⟩) ⟨fun a U g mk q => by obtain ⟨q0, q1, qP, qK, qD⟩ := q; exact ⟨q0, q1, qP, va_K.moved (u := U) (U := U.calling g mk a) (Vm.Alike.refl U.vm) qK, qD⟩, va_recv hKc hPc (ci := 15) (q0 := 0) rfl rfl, fun U hU hW => ⟨rfl, by rw [hU], by rw [hU]; exact hPc, va_K.moved hW.alike hKc, hDc.weaken (fun _ _ _ _ => trivial)⟩⟩ rfl rfl hl.1 rfl (lv_room (Nat.le_of_ble_eq_true rfl)) dL_law_542 ⟨Nat.le_of_ble_eq_true rfl, Nat.le_of_ble_eq_true rfl⟩) hS (fun q _ h => hFc q h) hFc (fun r13 u t H1 locs ht hvm hw hB hz1 hk1 hS => ?_)
      obtain ⟨hP1, hK1, hD1⟩ := hB
      rw [ht] at hP1
      obtain ⟨hP, hD⟩ := va_join (wr := [((a 0), .inl (cL, 10, .inr (.inr (.inr (.inr (fun _ => none)))))), ((a 3), .inl (cT, 6, .inr (.inr (.inr (.inr (fun _ => none)))))), (o, .inl (cO, 1, .inr (.inl (fun _ => 0)))), (od, .inl (cD, 1, .inr (.inr (.inr (.inl (fun _ => 0))))))]) (w1 := [(g0, .inr (15, [.int 1, .ref (bb 0), .ref (bb 1), .ref (bb 2), .ref (bb 3), .int 0, .long 0, .int 0, .int 0, .int 0, .int 0]))]) hP hD [4] [0, 1, 2, 3] rfl rfl (by decide) (by decide) hk1 hFc hP1 hD1
      generalize H1 = H at hP hS ⊢
      have hP : va_P (dC, dI) vwCl [((a 0), .inl (cL, 10, .inr (.inr (.inr (.inr (fun _ => none)))))), ((a 3), .inl (cT, 6, .inr (.inr (.inr (.inr (fun _ => none)))))), (o, .inl (cO, 1, .inr (.inl (fun _ => 0)))), (od, .inl (cD, 1, .inr (.inr (.inr (.inl (fun _ => 0)))))), (g0, .inr (15, [.int 1, .ref (bb 0), .ref (bb 1), .ref (bb 2), .ref (bb 3), .int 0, .long 0, .int 0, .int 0, .int 0, .int 0]))] H := hP
      have hD : va_D A [((a 0), .inl (cL, 10, .inr (.inr (.inr (.inr (fun _ => none)))))), ((a 3), .inl (cT, 6, .inr (.inr (.inr (.inr (fun _ => none)))))), (o, .inl (cO, 1, .inr (.inl (fun _ => 0)))), (od, .inl (cD, 1, .inr (.inr (.inr (.inl (fun _ => 0)))))), (g0, .inr (15, [.int 1, .ref (bb 0), .ref (bb 1), .ref (bb 2), .ref (bb 3), .int 0, .long 0, .int 0, .int 0, .int 0, .int 0]))] := hD
      obtain rfl : r13 = 1 := hw
      refine lv_iload hx hb dL_law_545 (lv_at hl 1 rfl) ?_
      refine lv_icmp_eq (tgt := 552) hx hb dL_law_547 (by decide) (fun _ => ?_) (fun c14 => absurd (by decide) c14)
      refine lv_iload hx hb dL_law_552 (lv_at hl 1 rfl) ?_
      refine lv_if_ne (tgt := 576) hx hb dL_law_554 (by decide) (fun _ => ?_) (fun c15 => absurd c15 (by decide))
      refine lv_goto (tgt := 3259) hx hb dL_law_576 (by decide) ?_
      exact zl_end C0 hA2 (Nat.le_of_ble_eq_true rfl) (Nat.le_of_ble_eq_true rfl) hS (lv_sub hl [7, 2] rfl)
    · refine lv_iconst (v := 1) hx hb dL_law_531 (by decide) ?_
      refine lv_goto (tgt := 536) hx hb dL_law_532 (by decide) ?_
      have hPc := hP.sub (ws' := [(g0, .inr (15, zM 0 bb)), ((bb 0), .inr (4, [.int 0, .ref e0, .int 0])), ((bb 1), .inr (4, [.int 0, .ref e0, .int 0])), ((bb 2), .inr (4, [.int 0, .ref e0, .int 0])), ((bb 3), .inr (4, [.int 0, .ref e0, .int 0]))]) [2, 3, 4, 5, 6] rfl
      have hDc := hD.sub (ws' := [(g0, .inr (15, zM 0 bb)), ((bb 0), .inr (4, [.int 0, .ref e0, .int 0])), ((bb 1), .inr (4, [.int 0, .ref e0, .int 0])), ((bb 2), .inr (4, [.int 0, .ref e0, .int 0])), ((bb 3), .inr (4, [.int 0, .ref e0, .int 0]))]) [2, 3, 4, 5, 6] (by decide) rfl
      have hKc := hK.sub (tys' := []) [] rfl
      have hFc := va_free (wc := [(g0, .inr (15, zM 0 bb)), ((bb 0), .inr (4, [.int 0, .ref e0, .int 0])), ((bb 1), .inr (4, [.int 0, .ref e0, .int 0])), ((bb 2), .inr (4, [.int 0, .ref e0, .int 0])), ((bb 3), .inr (4, [.int 0, .ref e0, .int 0]))]) hD hS hA [2, 3, 4, 5, 6] rfl
      have hEc := (hE.kept hS.2.1).narrow hFc
      refine va_calli (va_runV (As := [.int (xs (1 : Int32).toNatClampNeg), .int 1]) (rest := []) ⟨hx, hb, hml, hown, hts⟩ (c_X10_must l htr dC dI e0 H.size g0 0 bb (xs (1 : Int32).toNatClampNeg) 1) (cwV 2 hts gL_law_X10_must rfl rfl rfl (by decide +kernel) ⟨Nat.le_of_ble_eq_true rfl, Nat.le_of_ble_eq_true rfl⟩) ⟨fun a U g mk q => by obtain ⟨q0, q1, qP, qK, qD, qE⟩ := q; exact ⟨q0, q1, qP, va_K.moved (u := U) (U := U.calling g mk a) (Vm.Alike.refl U.vm) qK, qD, zE.same rfl qE⟩, va_recv hKc hPc (ci := 15) (q0 := 0) rfl rfl, fun U hU hW => ⟨rfl, by rw [hU], by rw [hU]; exact hPc, va_K.moved hW.alike hKc, hDc.weaken (fun _ _ _ _ => trivial), by rw [hU]; exact zE.warm hW hEc⟩⟩ rfl rfl hl.1 rfl (lv_room (Nat.le_of_ble_eq_true rfl)) dL_law_536 ⟨Nat.le_of_ble_eq_true rfl, Nat.le_of_ble_eq_true rfl⟩) hS (fun q _ h => hFc q h) hFc (fun r16 u t H1 locs ht hvm hw hB hz1 hk1 hS => ?_)
      obtain ⟨hP1, hK1, hD1⟩ := hB
      rw [ht] at hP1
      obtain ⟨hP, hD⟩ := va_join (wr := [((a 0), .inl (cL, 10, .inr (.inr (.inr (.inr (fun _ => none)))))), ((a 3), .inl (cT, 6, .inr (.inr (.inr (.inr (fun _ => none)))))), (o, .inl (cO, 1, .inr (.inl (fun _ => 0)))), (od, .inl (cD, 1, .inr (.inr (.inr (.inl (fun _ => 0))))))]) (w1 := [(g0, .inr (15, zM 1 bb))]) hP hD [2, 3, 4, 5, 6] [0, 1, 7, 8] rfl rfl (by decide) (by decide) hk1 hFc hP1 hD1
      generalize H1 = H at hP hS ⊢
      have hP : va_P (dC, dI) vwCl [((a 0), .inl (cL, 10, .inr (.inr (.inr (.inr (fun _ => none)))))), ((a 3), .inl (cT, 6, .inr (.inr (.inr (.inr (fun _ => none)))))), (o, .inl (cO, 1, .inr (.inl (fun _ => 0)))), (od, .inl (cD, 1, .inr (.inr (.inr (.inl (fun _ => 0)))))), (g0, .inr (15, zM 1 bb))] H := hP
      have hD : va_D A [((a 0), .inl (cL, 10, .inr (.inr (.inr (.inr (fun _ => none)))))), ((a 3), .inl (cT, 6, .inr (.inr (.inr (.inr (fun _ => none)))))), (o, .inl (cO, 1, .inr (.inl (fun _ => 0)))), (od, .inl (cD, 1, .inr (.inr (.inr (.inl (fun _ => 0)))))), (g0, .inr (15, zM 1 bb))] := hD
      obtain rfl : r16 = 0 := hw
      refine lv_istore (lv' := [(7, .int 0), (6, .int 1), (0, .ref b), (1, .ref h0), (2, .ref g0), (3, .ref o), (4, .ref od), (5, .int 0)]) hx hb dL_law_539 hl (by decide) rfl (fun ls hl => ?_)
      refine lv_aload_n hx hb dL_law_541 rfl (lv_at hl 4 rfl) ?_
      have hPc := hP.sub (ws' := [(g0, .inr (15, [.int 1, .ref (bb 0), .ref (bb 1), .ref (bb 2), .ref (bb 3), .int 0, .long 0, .int 0, .int 0, .int 0, .int 0]))]) [4] rfl
      have hDc := hD.sub (ws' := [(g0, .inr (15, [.int 1, .ref (bb 0), .ref (bb 1), .ref (bb 2), .ref (bb 3), .int 0, .long 0, .int 0, .int 0, .int 0, .int 0]))]) [4] (by decide) rfl
      have hKc := hK.sub (tys' := []) [] rfl
      have hFc := va_free (wc := [(g0, .inr (15, [.int 1, .ref (bb 0), .ref (bb 1), .ref (bb 2), .ref (bb 3), .int 0, .long 0, .int 0, .int 0, .int 0, .int 0]))]) hD hS hA [4] rfl
      refine va_calli (va_runV (As := []) (rest := []) ⟨hx, hb, hml, hown, hts⟩ (c_X10_thrown l htr dC dI e0 H.size g0 1 (bb 0) (bb 1) (bb 2) (bb 3) 0 0 0 0 0 0) (cwV 0 hts gL_law_X10_thrown rfl rfl rfl (by decide +kernel) ⟨Nat.le_of_ble_eq_true rfl, Nat.le_of_ble_eq_true rfl⟩) ⟨fun a U g mk q => by obtain ⟨q0, q1, qP, qK, qD⟩ := q; exact ⟨q0, q1, qP, va_K.moved (u := U) (U := U.calling g mk a) (Vm.Alike.refl U.vm) qK, qD⟩, va_recv hKc hPc (ci := 15) (q0 := 0) rfl rfl, fun U hU hW => ⟨rfl, by rw [hU], by rw [hU]; exact hPc, va_K.moved hW.alike hKc, hDc.weaken (fun _ _ _ _ => trivial)⟩⟩ rfl rfl hl.1 rfl (lv_room (Nat.le_of_ble_eq_true rfl)) dL_law_542 ⟨Nat.le_of_ble_eq_true rfl, Nat.le_of_ble_eq_true rfl⟩) hS (fun q _ h => hFc q h) hFc (fun r17 u t H1 locs ht hvm hw hB hz1 hk1 hS => ?_)
      obtain ⟨hP1, hK1, hD1⟩ := hB
      rw [ht] at hP1
      obtain ⟨hP, hD⟩ := va_join (wr := [((a 0), .inl (cL, 10, .inr (.inr (.inr (.inr (fun _ => none)))))), ((a 3), .inl (cT, 6, .inr (.inr (.inr (.inr (fun _ => none)))))), (o, .inl (cO, 1, .inr (.inl (fun _ => 0)))), (od, .inl (cD, 1, .inr (.inr (.inr (.inl (fun _ => 0))))))]) (w1 := [(g0, .inr (15, [.int 1, .ref (bb 0), .ref (bb 1), .ref (bb 2), .ref (bb 3), .int 0, .long 0, .int 0, .int 0, .int 0, .int 0]))]) hP hD [4] [0, 1, 2, 3] rfl rfl (by decide) (by decide) hk1 hFc hP1 hD1
      generalize H1 = H at hP hS ⊢
      have hP : va_P (dC, dI) vwCl [((a 0), .inl (cL, 10, .inr (.inr (.inr (.inr (fun _ => none)))))), ((a 3), .inl (cT, 6, .inr (.inr (.inr (.inr (fun _ => none)))))), (o, .inl (cO, 1, .inr (.inl (fun _ => 0)))), (od, .inl (cD, 1, .inr (.inr (.inr (.inl (fun _ => 0)))))), (g0, .inr (15, [.int 1, .ref (bb 0), .ref (bb 1), .ref (bb 2), .ref (bb 3), .int 0, .long 0, .int 0, .int 0, .int 0, .int 0]))] H := hP
      have hD : va_D A [((a 0), .inl (cL, 10, .inr (.inr (.inr (.inr (fun _ => none)))))), ((a 3), .inl (cT, 6, .inr (.inr (.inr (.inr (fun _ => none)))))), (o, .inl (cO, 1, .inr (.inl (fun _ => 0)))), (od, .inl (cD, 1, .inr (.inr (.inr (.inl (fun _ => 0)))))), (g0, .inr (15, [.int 1, .ref (bb 0), .ref (bb 1), .ref (bb 2), .ref (bb 3), .int 0, .long 0, .int 0, .int 0, .int 0, .int 0]))] := hD
      obtain rfl : r17 = 1 := hw
      refine lv_iload hx hb dL_law_545 (lv_at hl 1 rfl) ?_
      refine lv_icmp_eq (tgt := 552) hx hb dL_law_547 (by decide) (fun _ => ?_) (fun c18 => absurd (by decide) c18)
      refine lv_iload hx hb dL_law_552 (lv_at hl 1 rfl) ?_
      refine lv_if_ne (tgt := 576) hx hb dL_law_554 (by decide) (fun _ => ?_) (fun c19 => absurd c19 (by decide))
      refine lv_goto (tgt := 3259) hx hb dL_law_576 (by decide) ?_
      exact zl_end C0 hA2 (Nat.le_of_ble_eq_true rfl) (Nat.le_of_ble_eq_true rfl) hS (lv_sub hl [7, 2] rfl)
  · refine lv_iconst (v := 1) hx hb dL_law_504 (by decide) ?_
    refine lv_goto (tgt := 509) hx hb dL_law_505 (by decide) ?_
    refine lv_aload_n hx hb dL_law_509 rfl (lv_at hl 3 rfl) ?_
    have hPc := hP.sub (ws' := [(h0, .inr (11, zC a))]) [0] rfl
    have hDc := hD.sub (ws' := [(h0, .inr (11, zC a))]) [0] (by decide) rfl
    have hKc := hK.sub (tys' := []) [] rfl
    have hFc := va_free (wc := [(h0, .inr (11, zC a))]) hD hS hA [0] rfl
    have hEc := (hE.kept hS.2.1).narrow hFc
    refine vx_calli (vx_runSX (As := [.ref h0, .int (xs (1 : Int32).toNatClampNeg), .int 1, .ref o]) (rest := []) ⟨hx, hb, hml, hown, hts⟩ (c_L_must l htr dC dI e0 H.size h0 a (xs (1 : Int32).toNatClampNeg) 1 o) (vx_cwSW 4 hts gL_law_L_must rfl rfl rfl (by decide +kernel) ⟨Nat.le_of_ble_eq_true rfl, Nat.le_of_ble_eq_true rfl⟩) ⟨fun a U g mk q => by obtain ⟨q0, q1, qP, qK, qD, qE⟩ := q; exact ⟨q0, q1, qP, va_K.moved (u := U) (U := U.calling g mk a) (Vm.Alike.refl U.vm) qK, qD, zE.same rfl qE⟩, fun U hU hW => ⟨rfl, by rw [hU], by rw [hU]; exact hPc, va_K.moved hW.alike hKc, hDc.weaken (fun _ _ _ _ => trivial), by rw [hU]; exact zE.warm hW hEc⟩⟩ rfl rfl hl.1 rfl (lv_room (Nat.le_of_ble_eq_true rfl)) dL_law_510 ⟨Nat.le_of_ble_eq_true rfl, Nat.le_of_ble_eq_true rfl⟩) hS (fun q _ h => hFc q h) hFc (fun q _ h => hFc q h) (fun E ce q9 u t H1 locs1 ht hvm hpx hBX hz1 hk1 hS hce hcv hcl => absurd hpx id) (fun r20 u t H1 locs ht hvm hw hB hz1 hk1 hS => ?_)
    have hP1 : va_P (dC, dI) vwCl [] H1 := fun k q h => by simp at h
    have hD1 : va_D (va_A [(h0, .inr (11, zC a))] H.size) [] := ⟨fun i j p q h => by simp at h, fun k q h => by simp at h⟩
    obtain ⟨hP, hD⟩ := va_join (wr := [((a 0), .inl (cL, 10, .inr (.inr (.inr (.inr (fun _ => none)))))), ((a 3), .inl (cT, 6, .inr (.inr (.inr (.inr (fun _ => none)))))), (g0, .inr (15, zM 0 bb)), ((bb 0), .inr (4, [.int 0, .ref e0, .int 0])), ((bb 1), .inr (4, [.int 0, .ref e0, .int 0])), ((bb 2), .inr (4, [.int 0, .ref e0, .int 0])), ((bb 3), .inr (4, [.int 0, .ref e0, .int 0])), (o, .inl (cO, 1, .inr (.inl (fun _ => 0)))), (od, .inl (cD, 1, .inr (.inr (.inr (.inl (fun _ => 0))))))]) (w1 := []) hP hD [0] [1, 2, 3, 4, 5, 6, 7, 8, 9] rfl rfl (by decide) (by decide) hk1 hFc hP1 hD1
    generalize H1 = H at hP hS ⊢
    have hP : va_P (dC, dI) vwCl [((a 0), .inl (cL, 10, .inr (.inr (.inr (.inr (fun _ => none)))))), ((a 3), .inl (cT, 6, .inr (.inr (.inr (.inr (fun _ => none)))))), (g0, .inr (15, zM 0 bb)), ((bb 0), .inr (4, [.int 0, .ref e0, .int 0])), ((bb 1), .inr (4, [.int 0, .ref e0, .int 0])), ((bb 2), .inr (4, [.int 0, .ref e0, .int 0])), ((bb 3), .inr (4, [.int 0, .ref e0, .int 0])), (o, .inl (cO, 1, .inr (.inl (fun _ => 0)))), (od, .inl (cD, 1, .inr (.inr (.inr (.inl (fun _ => 0))))))] H := hP
    have hD : va_D A [((a 0), .inl (cL, 10, .inr (.inr (.inr (.inr (fun _ => none)))))), ((a 3), .inl (cT, 6, .inr (.inr (.inr (.inr (fun _ => none)))))), (g0, .inr (15, zM 0 bb)), ((bb 0), .inr (4, [.int 0, .ref e0, .int 0])), ((bb 1), .inr (4, [.int 0, .ref e0, .int 0])), ((bb 2), .inr (4, [.int 0, .ref e0, .int 0])), ((bb 3), .inr (4, [.int 0, .ref e0, .int 0])), (o, .inl (cO, 1, .inr (.inl (fun _ => 0)))), (od, .inl (cD, 1, .inr (.inr (.inr (.inl (fun _ => 0))))))] := hD
    obtain rfl : r20 = 1 := hw
    refine lv_istore (lv' := [(6, .int 1), (0, .ref b), (1, .ref h0), (2, .ref g0), (3, .ref o), (4, .ref od), (5, .int 0)]) hx hb dL_law_513 hl (by decide) rfl (fun ls hl => ?_)
    refine lv_aload_n hx hb dL_law_515 rfl (lv_at hl 3 rfl) ?_
    refine lv_aload_n hx hb dL_law_516 rfl (lv_at hl 1 rfl) ?_
    refine lv_iload hx hb dL_law_517 (lv_at hl 6 rfl) ?_
    refine lv_iconst (v := 1) hx hb dL_law_519 (by decide) ?_
    refine lv_iadd hx hb dL_law_520 ?_
    refine lv_topi (fun y21 e22 => ?_)
    obtain rfl : y21 = 1 := e22.trans (by decide)
    refine va_sld hx hb hX hbl hbA hS (by unfold vp_in; decide) dL_law_521 ?_
    refine lv_aload_n hx hb dL_law_522 rfl (lv_at hl 1 rfl) ?_
    refine lv_iload hx hb dL_law_523 (lv_at hl 6 rfl) ?_
    refine lv_iconst (v := 2) hx hb dL_law_525 (by decide) ?_
    refine lv_iadd hx hb dL_law_526 ?_
    refine lv_topi (fun y23 e24 => ?_)
    obtain rfl : y23 = 2 := e24.trans (by decide)
    refine va_sld hx hb hX hbl hbA hS (by unfold vp_in; decide) dL_law_527 ?_
    refine lv_if_eq (tgt := 535) hx hb dL_law_528 (by decide) (fun c25 => ?_) (fun c25 => ?_)
    · refine lv_iconst (v := 0) hx hb dL_law_535 (by decide) ?_
      have hPc := hP.sub (ws' := [(g0, .inr (15, zM 0 bb)), ((bb 0), .inr (4, [.int 0, .ref e0, .int 0])), ((bb 1), .inr (4, [.int 0, .ref e0, .int 0])), ((bb 2), .inr (4, [.int 0, .ref e0, .int 0])), ((bb 3), .inr (4, [.int 0, .ref e0, .int 0]))]) [2, 3, 4, 5, 6] rfl
      have hDc := hD.sub (ws' := [(g0, .inr (15, zM 0 bb)), ((bb 0), .inr (4, [.int 0, .ref e0, .int 0])), ((bb 1), .inr (4, [.int 0, .ref e0, .int 0])), ((bb 2), .inr (4, [.int 0, .ref e0, .int 0])), ((bb 3), .inr (4, [.int 0, .ref e0, .int 0]))]) [2, 3, 4, 5, 6] (by decide) rfl
      have hKc := hK.sub (tys' := []) [] rfl
      have hFc := va_free (wc := [(g0, .inr (15, zM 0 bb)), ((bb 0), .inr (4, [.int 0, .ref e0, .int 0])), ((bb 1), .inr (4, [.int 0, .ref e0, .int 0])), ((bb 2), .inr (4, [.int 0, .ref e0, .int 0])), ((bb 3), .inr (4, [.int 0, .ref e0, .int 0]))]) hD hS hA [2, 3, 4, 5, 6] rfl
      have hEc := (hE.kept hS.2.1).narrow hFc
      refine va_calli (va_runV (As := [.int (xs (1 : Int32).toNatClampNeg), .int 0]) (rest := []) ⟨hx, hb, hml, hown, hts⟩ (c_X10_must l htr dC dI e0 H.size g0 0 bb (xs (1 : Int32).toNatClampNeg) 0) (cwV 2 hts gL_law_X10_must rfl rfl rfl (by decide +kernel) ⟨Nat.le_of_ble_eq_true rfl, Nat.le_of_ble_eq_true rfl⟩) ⟨fun a U g mk q => by obtain ⟨q0, q1, qP, qK, qD, qE⟩ := q; exact ⟨q0, q1, qP, va_K.moved (u := U) (U := U.calling g mk a) (Vm.Alike.refl U.vm) qK, qD, zE.same rfl qE⟩, va_recv hKc hPc (ci := 15) (q0 := 0) rfl rfl, fun U hU hW => ⟨rfl, by rw [hU], by rw [hU]; exact hPc, va_K.moved hW.alike hKc, hDc.weaken (fun _ _ _ _ => trivial), by rw [hU]; exact zE.warm hW hEc⟩⟩ rfl rfl hl.1 rfl (lv_room (Nat.le_of_ble_eq_true rfl)) dL_law_536 ⟨Nat.le_of_ble_eq_true rfl, Nat.le_of_ble_eq_true rfl⟩) hS (fun q _ h => hFc q h) hFc (fun r26 u t H1 locs ht hvm hw hB hz1 hk1 hS => ?_)
      obtain ⟨hP1, hK1, hD1⟩ := hB
      rw [ht] at hP1
      obtain ⟨hP, hD⟩ := va_join (wr := [((a 0), .inl (cL, 10, .inr (.inr (.inr (.inr (fun _ => none)))))), ((a 3), .inl (cT, 6, .inr (.inr (.inr (.inr (fun _ => none)))))), (o, .inl (cO, 1, .inr (.inl (fun _ => 0)))), (od, .inl (cD, 1, .inr (.inr (.inr (.inl (fun _ => 0))))))]) (w1 := [(g0, .inr (15, zM 1 bb))]) hP hD [2, 3, 4, 5, 6] [0, 1, 7, 8] rfl rfl (by decide) (by decide) hk1 hFc hP1 hD1
      generalize H1 = H at hP hS ⊢
      have hP : va_P (dC, dI) vwCl [((a 0), .inl (cL, 10, .inr (.inr (.inr (.inr (fun _ => none)))))), ((a 3), .inl (cT, 6, .inr (.inr (.inr (.inr (fun _ => none)))))), (o, .inl (cO, 1, .inr (.inl (fun _ => 0)))), (od, .inl (cD, 1, .inr (.inr (.inr (.inl (fun _ => 0)))))), (g0, .inr (15, zM 1 bb))] H := hP
      have hD : va_D A [((a 0), .inl (cL, 10, .inr (.inr (.inr (.inr (fun _ => none)))))), ((a 3), .inl (cT, 6, .inr (.inr (.inr (.inr (fun _ => none)))))), (o, .inl (cO, 1, .inr (.inl (fun _ => 0)))), (od, .inl (cD, 1, .inr (.inr (.inr (.inl (fun _ => 0)))))), (g0, .inr (15, zM 1 bb))] := hD
      obtain rfl : r26 = 0 := hw
      refine lv_istore (lv' := [(7, .int 0), (6, .int 1), (0, .ref b), (1, .ref h0), (2, .ref g0), (3, .ref o), (4, .ref od), (5, .int 0)]) hx hb dL_law_539 hl (by decide) rfl (fun ls hl => ?_)
      refine lv_aload_n hx hb dL_law_541 rfl (lv_at hl 4 rfl) ?_
      have hPc := hP.sub (ws' := [(g0, .inr (15, [.int 1, .ref (bb 0), .ref (bb 1), .ref (bb 2), .ref (bb 3), .int 0, .long 0, .int 0, .int 0, .int 0, .int 0]))]) [4] rfl
      have hDc := hD.sub (ws' := [(g0, .inr (15, [.int 1, .ref (bb 0), .ref (bb 1), .ref (bb 2), .ref (bb 3), .int 0, .long 0, .int 0, .int 0, .int 0, .int 0]))]) [4] (by decide) rfl
      have hKc := hK.sub (tys' := []) [] rfl
      have hFc := va_free (wc := [(g0, .inr (15, [.int 1, .ref (bb 0), .ref (bb 1), .ref (bb 2), .ref (bb 3), .int 0, .long 0, .int 0, .int 0, .int 0, .int 0]))]) hD hS hA [4] rfl
      refine va_calli (va_runV (As := []) (rest := []) ⟨hx, hb, hml, hown, hts⟩ (c_X10_thrown l htr dC dI e0 H.size g0 1 (bb 0) (bb 1) (bb 2) (bb 3) 0 0 0 0 0 0) (cwV 0 hts gL_law_X10_thrown rfl rfl rfl (by decide +kernel) ⟨Nat.le_of_ble_eq_true rfl, Nat.le_of_ble_eq_true rfl⟩) ⟨fun a U g mk q => by obtain ⟨q0, q1, qP, qK, qD⟩ := q; exact ⟨q0, q1, qP, va_K.moved (u := U) (U := U.calling g mk a) (Vm.Alike.refl U.vm) qK, qD⟩, va_recv hKc hPc (ci := 15) (q0 := 0) rfl rfl, fun U hU hW => ⟨rfl, by rw [hU], by rw [hU]; exact hPc, va_K.moved hW.alike hKc, hDc.weaken (fun _ _ _ _ => trivial)⟩⟩ rfl rfl hl.1 rfl (lv_room (Nat.le_of_ble_eq_true rfl)) dL_law_542 ⟨Nat.le_of_ble_eq_true rfl, Nat.le_of_ble_eq_true rfl⟩) hS (fun q _ h => hFc q h) hFc (fun r27 u t H1 locs ht hvm hw hB hz1 hk1 hS => ?_)
      obtain ⟨hP1, hK1, hD1⟩ := hB
      rw [ht] at hP1
      obtain ⟨hP, hD⟩ := va_join (wr := [((a 0), .inl (cL, 10, .inr (.inr (.inr (.inr (fun _ => none)))))), ((a 3), .inl (cT, 6, .inr (.inr (.inr (.inr (fun _ => none)))))), (o, .inl (cO, 1, .inr (.inl (fun _ => 0)))), (od, .inl (cD, 1, .inr (.inr (.inr (.inl (fun _ => 0))))))]) (w1 := [(g0, .inr (15, [.int 1, .ref (bb 0), .ref (bb 1), .ref (bb 2), .ref (bb 3), .int 0, .long 0, .int 0, .int 0, .int 0, .int 0]))]) hP hD [4] [0, 1, 2, 3] rfl rfl (by decide) (by decide) hk1 hFc hP1 hD1
      generalize H1 = H at hP hS ⊢
      have hP : va_P (dC, dI) vwCl [((a 0), .inl (cL, 10, .inr (.inr (.inr (.inr (fun _ => none)))))), ((a 3), .inl (cT, 6, .inr (.inr (.inr (.inr (fun _ => none)))))), (o, .inl (cO, 1, .inr (.inl (fun _ => 0)))), (od, .inl (cD, 1, .inr (.inr (.inr (.inl (fun _ => 0)))))), (g0, .inr (15, [.int 1, .ref (bb 0), .ref (bb 1), .ref (bb 2), .ref (bb 3), .int 0, .long 0, .int 0, .int 0, .int 0, .int 0]))] H := hP
      have hD : va_D A [((a 0), .inl (cL, 10, .inr (.inr (.inr (.inr (fun _ => none)))))), ((a 3), .inl (cT, 6, .inr (.inr (.inr (.inr (fun _ => none)))))), (o, .inl (cO, 1, .inr (.inl (fun _ => 0)))), (od, .inl (cD, 1, .inr (.inr (.inr (.inl (fun _ => 0)))))), (g0, .inr (15, [.int 1, .ref (bb 0), .ref (bb 1), .ref (bb 2), .ref (bb 3), .int 0, .long 0, .int 0, .int 0, .int 0, .int 0]))] := hD
      obtain rfl : r27 = 1 := hw
      refine lv_iload hx hb dL_law_545 (lv_at hl 1 rfl) ?_
      refine lv_icmp_eq (tgt := 552) hx hb dL_law_547 (by decide) (fun _ => ?_) (fun c28 => absurd (by decide) c28)
      refine lv_iload hx hb dL_law_552 (lv_at hl 1 rfl) ?_
      refine lv_if_ne (tgt := 576) hx hb dL_law_554 (by decide) (fun _ => ?_) (fun c29 => absurd c29 (by decide))
      refine lv_goto (tgt := 3259) hx hb dL_law_576 (by decide) ?_
      exact zl_end C0 hA2 (Nat.le_of_ble_eq_true rfl) (Nat.le_of_ble_eq_true rfl) hS (lv_sub hl [7, 2] rfl)
    · refine lv_iconst (v := 1) hx hb dL_law_531 (by decide) ?_
      refine lv_goto (tgt := 536) hx hb dL_law_532 (by decide) ?_
      have hPc := hP.sub (ws' := [(g0, .inr (15, zM 0 bb)), ((bb 0), .inr (4, [.int 0, .ref e0, .int 0])), ((bb 1), .inr (4, [.int 0, .ref e0, .int 0])), ((bb 2), .inr (4, [.int 0, .ref e0, .int 0])), ((bb 3), .inr (4, [.int 0, .ref e0, .int 0]))]) [2, 3, 4, 5, 6] rfl
      have hDc := hD.sub (ws' := [(g0, .inr (15, zM 0 bb)), ((bb 0), .inr (4, [.int 0, .ref e0, .int 0])), ((bb 1), .inr (4, [.int 0, .ref e0, .int 0])), ((bb 2), .inr (4, [.int 0, .ref e0, .int 0])), ((bb 3), .inr (4, [.int 0, .ref e0, .int 0]))]) [2, 3, 4, 5, 6] (by decide) rfl
      have hKc := hK.sub (tys' := []) [] rfl
      have hFc := va_free (wc := [(g0, .inr (15, zM 0 bb)), ((bb 0), .inr (4, [.int 0, .ref e0, .int 0])), ((bb 1), .inr (4, [.int 0, .ref e0, .int 0])), ((bb 2), .inr (4, [.int 0, .ref e0, .int 0])), ((bb 3), .inr (4, [.int 0, .ref e0, .int 0]))]) hD hS hA [2, 3, 4, 5, 6] rfl
      have hEc := (hE.kept hS.2.1).narrow hFc
      refine va_calli (va_runV (As := [.int (xs (1 : Int32).toNatClampNeg), .int 1]) (rest := []) ⟨hx, hb, hml, hown, hts⟩ (c_X10_must l htr dC dI e0 H.size g0 0 bb (xs (1 : Int32).toNatClampNeg) 1) (cwV 2 hts gL_law_X10_must rfl rfl rfl (by decide +kernel) ⟨Nat.le_of_ble_eq_true rfl, Nat.le_of_ble_eq_true rfl⟩) ⟨fun a U g mk q => by obtain ⟨q0, q1, qP, qK, qD, qE⟩ := q; exact ⟨q0, q1, qP, va_K.moved (u := U) (U := U.calling g mk a) (Vm.Alike.refl U.vm) qK, qD, zE.same rfl qE⟩, va_recv hKc hPc (ci := 15) (q0 := 0) rfl rfl, fun U hU hW => ⟨rfl, by rw [hU], by rw [hU]; exact hPc, va_K.moved hW.alike hKc, hDc.weaken (fun _ _ _ _ => trivial), by rw [hU]; exact zE.warm hW hEc⟩⟩ rfl rfl hl.1 rfl (lv_room (Nat.le_of_ble_eq_true rfl)) dL_law_536 ⟨Nat.le_of_ble_eq_true rfl, Nat.le_of_ble_eq_true rfl⟩) hS (fun q _ h => hFc q h) hFc (fun r30 u t H1 locs ht hvm hw hB hz1 hk1 hS => ?_)
      obtain ⟨hP1, hK1, hD1⟩ := hB
      rw [ht] at hP1
      obtain ⟨hP, hD⟩ := va_join (wr := [((a 0), .inl (cL, 10, .inr (.inr (.inr (.inr (fun _ => none)))))), ((a 3), .inl (cT, 6, .inr (.inr (.inr (.inr (fun _ => none)))))), (o, .inl (cO, 1, .inr (.inl (fun _ => 0)))), (od, .inl (cD, 1, .inr (.inr (.inr (.inl (fun _ => 0))))))]) (w1 := [(g0, .inr (15, zM 1 bb))]) hP hD [2, 3, 4, 5, 6] [0, 1, 7, 8] rfl rfl (by decide) (by decide) hk1 hFc hP1 hD1
      generalize H1 = H at hP hS ⊢
      have hP : va_P (dC, dI) vwCl [((a 0), .inl (cL, 10, .inr (.inr (.inr (.inr (fun _ => none)))))), ((a 3), .inl (cT, 6, .inr (.inr (.inr (.inr (fun _ => none)))))), (o, .inl (cO, 1, .inr (.inl (fun _ => 0)))), (od, .inl (cD, 1, .inr (.inr (.inr (.inl (fun _ => 0)))))), (g0, .inr (15, zM 1 bb))] H := hP
      have hD : va_D A [((a 0), .inl (cL, 10, .inr (.inr (.inr (.inr (fun _ => none)))))), ((a 3), .inl (cT, 6, .inr (.inr (.inr (.inr (fun _ => none)))))), (o, .inl (cO, 1, .inr (.inl (fun _ => 0)))), (od, .inl (cD, 1, .inr (.inr (.inr (.inl (fun _ => 0)))))), (g0, .inr (15, zM 1 bb))] := hD
      obtain rfl : r30 = 0 := hw
      refine lv_istore (lv' := [(7, .int 0), (6, .int 1), (0, .ref b), (1, .ref h0), (2, .ref g0), (3, .ref o), (4, .ref od), (5, .int 0)]) hx hb dL_law_539 hl (by decide) rfl (fun ls hl => ?_)
      refine lv_aload_n hx hb dL_law_541 rfl (lv_at hl 4 rfl) ?_
      have hPc := hP.sub (ws' := [(g0, .inr (15, [.int 1, .ref (bb 0), .ref (bb 1), .ref (bb 2), .ref (bb 3), .int 0, .long 0, .int 0, .int 0, .int 0, .int 0]))]) [4] rfl
      have hDc := hD.sub (ws' := [(g0, .inr (15, [.int 1, .ref (bb 0), .ref (bb 1), .ref (bb 2), .ref (bb 3), .int 0, .long 0, .int 0, .int 0, .int 0, .int 0]))]) [4] (by decide) rfl
      have hKc := hK.sub (tys' := []) [] rfl
      have hFc := va_free (wc := [(g0, .inr (15, [.int 1, .ref (bb 0), .ref (bb 1), .ref (bb 2), .ref (bb 3), .int 0, .long 0, .int 0, .int 0, .int 0, .int 0]))]) hD hS hA [4] rfl
      refine va_calli (va_runV (As := []) (rest := []) ⟨hx, hb, hml, hown, hts⟩ (c_X10_thrown l htr dC dI e0 H.size g0 1 (bb 0) (bb 1) (bb 2) (bb 3) 0 0 0 0 0 0) (cwV 0 hts gL_law_X10_thrown rfl rfl rfl (by decide +kernel) ⟨Nat.le_of_ble_eq_true rfl, Nat.le_of_ble_eq_true rfl⟩) ⟨fun a U g mk q => by obtain ⟨q0, q1, qP, qK, qD⟩ := q; exact ⟨q0, q1, qP, va_K.moved (u := U) (U := U.calling g mk a) (Vm.Alike.refl U.vm) qK, qD⟩, va_recv hKc hPc (ci := 15) (q0 := 0) rfl rfl, fun U hU hW => ⟨rfl, by rw [hU], by rw [hU]; exact hPc, va_K.moved hW.alike hKc, hDc.weaken (fun _ _ _ _ => trivial)⟩⟩ rfl rfl hl.1 rfl (lv_room (Nat.le_of_ble_eq_true rfl)) dL_law_542 ⟨Nat.le_of_ble_eq_true rfl, Nat.le_of_ble_eq_true rfl⟩) hS (fun q _ h => hFc q h) hFc (fun r31 u t H1 locs ht hvm hw hB hz1 hk1 hS => ?_)
      obtain ⟨hP1, hK1, hD1⟩ := hB
      rw [ht] at hP1
      obtain ⟨hP, hD⟩ := va_join (wr := [((a 0), .inl (cL, 10, .inr (.inr (.inr (.inr (fun _ => none)))))), ((a 3), .inl (cT, 6, .inr (.inr (.inr (.inr (fun _ => none)))))), (o, .inl (cO, 1, .inr (.inl (fun _ => 0)))), (od, .inl (cD, 1, .inr (.inr (.inr (.inl (fun _ => 0))))))]) (w1 := [(g0, .inr (15, [.int 1, .ref (bb 0), .ref (bb 1), .ref (bb 2), .ref (bb 3), .int 0, .long 0, .int 0, .int 0, .int 0, .int 0]))]) hP hD [4] [0, 1, 2, 3] rfl rfl (by decide) (by decide) hk1 hFc hP1 hD1
      generalize H1 = H at hP hS ⊢
      have hP : va_P (dC, dI) vwCl [((a 0), .inl (cL, 10, .inr (.inr (.inr (.inr (fun _ => none)))))), ((a 3), .inl (cT, 6, .inr (.inr (.inr (.inr (fun _ => none)))))), (o, .inl (cO, 1, .inr (.inl (fun _ => 0)))), (od, .inl (cD, 1, .inr (.inr (.inr (.inl (fun _ => 0)))))), (g0, .inr (15, [.int 1, .ref (bb 0), .ref (bb 1), .ref (bb 2), .ref (bb 3), .int 0, .long 0, .int 0, .int 0, .int 0, .int 0]))] H := hP
      have hD : va_D A [((a 0), .inl (cL, 10, .inr (.inr (.inr (.inr (fun _ => none)))))), ((a 3), .inl (cT, 6, .inr (.inr (.inr (.inr (fun _ => none)))))), (o, .inl (cO, 1, .inr (.inl (fun _ => 0)))), (od, .inl (cD, 1, .inr (.inr (.inr (.inl (fun _ => 0)))))), (g0, .inr (15, [.int 1, .ref (bb 0), .ref (bb 1), .ref (bb 2), .ref (bb 3), .int 0, .long 0, .int 0, .int 0, .int 0, .int 0]))] := hD
      obtain rfl : r31 = 1 := hw
      refine lv_iload hx hb dL_law_545 (lv_at hl 1 rfl) ?_
      refine lv_icmp_eq (tgt := 552) hx hb dL_law_547 (by decide) (fun _ => ?_) (fun c32 => absurd (by decide) c32)
      refine lv_iload hx hb dL_law_552 (lv_at hl 1 rfl) ?_
      refine lv_if_ne (tgt := 576) hx hb dL_law_554 (by decide) (fun _ => ?_) (fun c33 => absurd c33 (by decide))
      refine lv_goto (tgt := 3259) hx hb dL_law_576 (by decide) ?_
      exact zl_end C0 hA2 (Nat.le_of_ble_eq_true rfl) (Nat.le_of_ble_eq_true rfl) hS (lv_sub hl [7, 2] rfl)
theorem dL_law_579 : decode cL_law 579 = .ok (.aload_n 1, 1) := by decide +kernel
theorem dL_law_580 : decode cL_law 580 = .ok (.aload_n 3, 1) := by decide +kernel
theorem dL_law_581 : decode cL_law 581 = .ok (.invokestatic 198, 3) := by decide +kernel
theorem dL_law_584 : decode cL_law 584 = .ok (.istore 6, 2) := by decide +kernel
theorem dL_law_586 : decode cL_law 586 = .ok (.aload_n 2, 1) := by decide +kernel
theorem dL_law_587 : decode cL_law 587 = .ok (.invokevirtual 201, 3) := by decide +kernel
theorem dL_law_590 : decode cL_law 590 = .ok (.istore 7, 2) := by decide +kernel
theorem dL_law_592 : decode cL_law 592 = .ok (.aload_n 2, 1) := by decide +kernel
theorem dL_law_593 : decode cL_law 593 = .ok (.invokevirtual 183, 3) := by decide +kernel
theorem dL_law_596 : decode cL_law 596 = .ok (.iload 6, 2) := by decide +kernel
theorem dL_law_598 : decode cL_law 598 = .ok (.if_icmp .eq 5, 3) := by decide +kernel
theorem dL_law_603 : decode cL_law 603 = .ok (.iload 6, 2) := by decide +kernel
theorem dL_law_605 : decode cL_law 605 = .ok (.ifCond .ne 15, 3) := by decide +kernel
theorem dL_law_608 : decode cL_law 608 = .ok (.aload_n 3, 1) := by decide +kernel
theorem dL_law_609 : decode cL_law 609 = .ok (.iconst 0, 1) := by decide +kernel
theorem dL_law_610 : decode cL_law 610 = .ok (.laload, 1) := by decide +kernel
theorem dL_law_611 : decode cL_law 611 = .ok (.iload 7, 2) := by decide +kernel
theorem dL_law_613 : decode cL_law 613 = .ok (.i2l, 1) := by decide +kernel
theorem dL_law_614 : decode cL_law 614 = .ok (.lcmp, 1) := by decide +kernel
theorem dL_law_615 : decode cL_law 615 = .ok (.ifCond .eq 5, 3) := by decide +kernel
theorem dL_law_620 : decode cL_law 620 = .ok (.goto 2639, 3) := by decide +kernel
set_option maxHeartbeats 4000000 in
set_option maxRecDepth 100000 in
/-- team, called on the two fresh objects -/
theorem zl_4 {p : Program} {l : Launch} {e : Env} {s : State} {m : MethodId} {below : List Frame} {meth : Method} {c : Code} {b : Nat} {xs : Nat → Int32} {A : Nat → Prop} (C0 : lw_At p s m meth c b 5 xs) (hA : ∀ q : Nat, s.heap.size ≤ q → A q) (hA2 : ∀ q : Nat, A q → s.heap.size ≤ q) (htr : l.stackTraces = false) (dC : Nat → ClassId) (dI : Nat → Nat → Nat) (e0 h0 g0 o od : Nat) (a bb : Nat → Nat) (cL cT cO cD : ClassId) (hE : zE e0 A s s.heap) (H : Heap) (locs : List Loc) (ls : Array Slot) (hK : va_K (dC, dI) vwCl [(cL, (.object RX1)), (cT, (.object RX5)), (cO, .long), (cD, .double)] s) (hP : va_P (dC, dI) vwCl [(h0, .inr (11, zC a)), ((a 0), .inl (cL, 10, .inr (.inr (.inr (.inr (fun _ => none)))))), ((a 3), .inl (cT, 6, .inr (.inr (.inr (.inr (fun _ => none)))))), (g0, .inr (15, zM 0 bb)), ((bb 0), .inr (4, [.int 0, .ref e0, .int 0])), ((bb 1), .inr (4, [.int 0, .ref e0, .int 0])), ((bb 2), .inr (4, [.int 0, .ref e0, .int 0])), ((bb 3), .inr (4, [.int 0, .ref e0, .int 0])), (o, .inl (cO, 1, .inr (.inl (fun _ => 0)))), (od, .inl (cD, 1, .inr (.inr (.inr (.inl (fun _ => 0))))))] H) (hD : va_D A [(h0, .inr (11, zC a)), ((a 0), .inl (cL, 10, .inr (.inr (.inr (.inr (fun _ => none)))))), ((a 3), .inl (cT, 6, .inr (.inr (.inr (.inr (fun _ => none)))))), (g0, .inr (15, zM 0 bb)), ((bb 0), .inr (4, [.int 0, .ref e0, .int 0])), ((bb 1), .inr (4, [.int 0, .ref e0, .int 0])), ((bb 2), .inr (4, [.int 0, .ref e0, .int 0])), ((bb 3), .inr (4, [.int 0, .ref e0, .int 0])), (o, .inl (cO, 1, .inr (.inl (fun _ => 0)))), (od, .inl (cD, 1, .inr (.inr (.inr (.inl (fun _ => 0))))))]) (hS : va_S A s.heap H locs) (hl : lv_has ls 9 [(0, .ref b), (1, .ref h0), (2, .ref g0), (3, .ref o), (4, .ref od), (5, .int 0)]) : W p l e room_1 s m #[Value.ref b] below meth c H locs (86) (1094) (lw_Z below #[Value.ref b] s) (F0 m 579 ls []) := by
  obtain ⟨hx, hb, hr, hml, hown, ht0, hX, hbl, hlocks, hgv⟩ := id C0
  have hts := ht0
  have hbA : ¬ A b := fun h => absurd hbl (Nat.not_lt.mpr (hA2 b h))
  refine lv_aload_n hx hb dL_law_579 rfl (lv_at hl 1 rfl) ?_
  refine lv_aload_n hx hb dL_law_580 rfl (lv_at hl 3 rfl) ?_
  have hPc := hP.sub (ws' := [(h0, .inr (11, zC a)), ((a 3), .inl (cT, 6, .inr (.inr (.inr (.inr (fun _ => none)))))), (o, .inl (cO, 1, .inr (.inl (fun _ => 0))))]) [0, 2, 8] rfl
  have hDc := hD.sub (ws' := [(h0, .inr (11, zC a)), ((a 3), .inl (cT, 6, .inr (.inr (.inr (.inr (fun _ => none)))))), (o, .inl (cO, 1, .inr (.inl (fun _ => 0))))]) [0, 2, 8] (by decide) rfl
  have hKc := hK.sub (tys' := [(cT, (.object RX5)), (cO, .long)]) [1, 2] rfl
  have hFc := va_free (wc := [(h0, .inr (11, zC a)), ((a 3), .inl (cT, 6, .inr (.inr (.inr (.inr (fun _ => none)))))), (o, .inl (cO, 1, .inr (.inl (fun _ => 0))))]) hD hS hA [0, 2, 8] rfl
  have hEc := (hE.kept hS.2.1).narrow hFc
  refine vx_calli (vx_runSX (As := [.ref h0, .ref o]) (rest := []) ⟨hx, hb, hml, hown, hts⟩ (c_L_team_in l htr dC dI e0 H.size h0 a cT o cO (fun _ => 0)) (vx_cwSW 2 hts gL_law_L_team rfl rfl rfl (by decide +kernel) ⟨Nat.le_of_ble_eq_true rfl, Nat.le_of_ble_eq_true rfl⟩) ⟨fun a U g mk q => by obtain ⟨q0, q1, qP, qK, qD, qE⟩ := q; exact ⟨q0, q1, qP, va_K.moved (u := U) (U := U.calling g mk a) (Vm.Alike.refl U.vm) qK, qD, zE.same rfl qE⟩, fun U hU hW => ⟨rfl, by rw [hU], by rw [hU]; exact hPc, va_K.moved hW.alike hKc, hDc.weaken (fun _ _ _ _ => trivial), by rw [hU]; exact zE.warm hW hEc⟩⟩ rfl rfl hl.1 rfl (lv_room (Nat.le_of_ble_eq_true rfl)) dL_law_581 ⟨Nat.le_of_ble_eq_true rfl, Nat.le_of_ble_eq_true rfl⟩) hS (fun q _ h => hFc q h) hFc (fun q _ h => hFc q h) (fun E ce q9 u t H1 locs1 ht hvm hpx hBX hz1 hk1 hS hce hcv hcl => absurd hpx id) (fun r1 u t H1 locs ht hvm hw hB hz1 hk1 hS => ?_)
  obtain ⟨hP1, hK1, hD1⟩ := hB
  rw [ht] at hP1
  obtain ⟨hP, hD⟩ := va_join (wr := [((a 0), .inl (cL, 10, .inr (.inr (.inr (.inr (fun _ => none)))))), (g0, .inr (15, zM 0 bb)), ((bb 0), .inr (4, [.int 0, .ref e0, .int 0])), ((bb 1), .inr (4, [.int 0, .ref e0, .int 0])), ((bb 2), .inr (4, [.int 0, .ref e0, .int 0])), ((bb 3), .inr (4, [.int 0, .ref e0, .int 0])), (od, .inl (cD, 1, .inr (.inr (.inr (.inl (fun _ => 0))))))]) (w1 := [(o, .inl (cO, 1, .inr (.inl (vp_updL (fun _ => 0) (0 : Int32).toNatClampNeg 0))))]) hP hD [0, 2, 8] [1, 3, 4, 5, 6, 7, 9] rfl rfl (by decide) (by decide) hk1 hFc hP1 hD1
  generalize H1 = H at hP hS ⊢
  have hP : va_P (dC, dI) vwCl [((a 0), .inl (cL, 10, .inr (.inr (.inr (.inr (fun _ => none)))))), (g0, .inr (15, zM 0 bb)), ((bb 0), .inr (4, [.int 0, .ref e0, .int 0])), ((bb 1), .inr (4, [.int 0, .ref e0, .int 0])), ((bb 2), .inr (4, [.int 0, .ref e0, .int 0])), ((bb 3), .inr (4, [.int 0, .ref e0, .int 0])), (od, .inl (cD, 1, .inr (.inr (.inr (.inl (fun _ => 0)))))), (o, .inl (cO, 1, .inr (.inl (vp_updL (fun _ => 0) (0 : Int32).toNatClampNeg 0))))] H := hP
  have hD : va_D A [((a 0), .inl (cL, 10, .inr (.inr (.inr (.inr (fun _ => none)))))), (g0, .inr (15, zM 0 bb)), ((bb 0), .inr (4, [.int 0, .ref e0, .int 0])), ((bb 1), .inr (4, [.int 0, .ref e0, .int 0])), ((bb 2), .inr (4, [.int 0, .ref e0, .int 0])), ((bb 3), .inr (4, [.int 0, .ref e0, .int 0])), (od, .inl (cD, 1, .inr (.inr (.inr (.inl (fun _ => 0)))))), (o, .inl (cO, 1, .inr (.inl (vp_updL (fun _ => 0) (0 : Int32).toNatClampNeg 0))))] := hD
  obtain rfl : r1 = 0 := hw
  refine lv_istore (lv' := [(6, .int 0), (0, .ref b), (1, .ref h0), (2, .ref g0), (3, .ref o), (4, .ref od), (5, .int 0)]) hx hb dL_law_584 hl (by decide) rfl (fun ls hl => ?_)
  refine lv_aload_n hx hb dL_law_586 rfl (lv_at hl 3 rfl) ?_
  have hPc := hP.sub (ws' := [(g0, .inr (15, zM 0 bb)), ((bb 0), .inr (4, [.int 0, .ref e0, .int 0])), ((bb 1), .inr (4, [.int 0, .ref e0, .int 0])), ((bb 2), .inr (4, [.int 0, .ref e0, .int 0])), ((bb 3), .inr (4, [.int 0, .ref e0, .int 0]))]) [1, 2, 3, 4, 5] rfl
  have hDc := hD.sub (ws' := [(g0, .inr (15, zM 0 bb)), ((bb 0), .inr (4, [.int 0, .ref e0, .int 0])), ((bb 1), .inr (4, [.int 0, .ref e0, .int 0])), ((bb 2), .inr (4, [.int 0, .ref e0, .int 0])), ((bb 3), .inr (4, [.int 0, .ref e0, .int 0]))]) [1, 2, 3, 4, 5] (by decide) rfl
  have hKc := hK.sub (tys' := []) [] rfl
  have hFc := va_free (wc := [(g0, .inr (15, zM 0 bb)), ((bb 0), .inr (4, [.int 0, .ref e0, .int 0])), ((bb 1), .inr (4, [.int 0, .ref e0, .int 0])), ((bb 2), .inr (4, [.int 0, .ref e0, .int 0])), ((bb 3), .inr (4, [.int 0, .ref e0, .int 0]))]) hD hS hA [1, 2, 3, 4, 5] rfl
  have hEc := (hE.kept hS.2.1).narrow hFc
  refine va_calli (va_runV (As := []) (rest := []) ⟨hx, hb, hml, hown, hts⟩ (c_X10_team l htr dC dI e0 H.size g0 0 bb) (cwV 0 hts gL_law_X10_team rfl rfl rfl (by decide +kernel) ⟨Nat.le_of_ble_eq_true rfl, Nat.le_of_ble_eq_true rfl⟩) ⟨fun a U g mk q => by obtain ⟨q0, q1, qP, qK, qD, qE⟩ := q; exact ⟨q0, q1, qP, va_K.moved (u := U) (U := U.calling g mk a) (Vm.Alike.refl U.vm) qK, qD, zE.same rfl qE⟩, va_recv hKc hPc (ci := 15) (q0 := 0) rfl rfl, fun U hU hW => ⟨rfl, by rw [hU], by rw [hU]; exact hPc, va_K.moved hW.alike hKc, hDc.weaken (fun _ _ _ _ => trivial), by rw [hU]; exact zE.warm hW hEc⟩⟩ rfl rfl hl.1 rfl (lv_room (Nat.le_of_ble_eq_true rfl)) dL_law_587 ⟨Nat.le_of_ble_eq_true rfl, Nat.le_of_ble_eq_true rfl⟩) hS (fun q _ h => hFc q h) hFc (fun r2 u t H1 locs ht hvm hw hB hz1 hk1 hS => ?_)
  obtain ⟨hP1, hK1, hD1⟩ := hB
  rw [ht] at hP1
  obtain ⟨hP, hD⟩ := va_join (wr := [((a 0), .inl (cL, 10, .inr (.inr (.inr (.inr (fun _ => none)))))), (od, .inl (cD, 1, .inr (.inr (.inr (.inl (fun _ => 0)))))), (o, .inl (cO, 1, .inr (.inl (vp_updL (fun _ => 0) (0 : Int32).toNatClampNeg 0))))]) (w1 := [(g0, .inr (15, zM 0 bb))]) hP hD [1, 2, 3, 4, 5] [0, 6, 7] rfl rfl (by decide) (by decide) hk1 hFc hP1 hD1
  generalize H1 = H at hP hS ⊢
  have hP : va_P (dC, dI) vwCl [((a 0), .inl (cL, 10, .inr (.inr (.inr (.inr (fun _ => none)))))), (od, .inl (cD, 1, .inr (.inr (.inr (.inl (fun _ => 0)))))), (o, .inl (cO, 1, .inr (.inl (vp_updL (fun _ => 0) (0 : Int32).toNatClampNeg 0)))), (g0, .inr (15, zM 0 bb))] H := hP
  have hD : va_D A [((a 0), .inl (cL, 10, .inr (.inr (.inr (.inr (fun _ => none)))))), (od, .inl (cD, 1, .inr (.inr (.inr (.inl (fun _ => 0)))))), (o, .inl (cO, 1, .inr (.inl (vp_updL (fun _ => 0) (0 : Int32).toNatClampNeg 0)))), (g0, .inr (15, zM 0 bb))] := hD
  obtain rfl : r2 = 0 := hw
  refine lv_istore (lv' := [(7, .int 0), (6, .int 0), (0, .ref b), (1, .ref h0), (2, .ref g0), (3, .ref o), (4, .ref od), (5, .int 0)]) hx hb dL_law_590 hl (by decide) rfl (fun ls hl => ?_)
  refine lv_aload_n hx hb dL_law_592 rfl (lv_at hl 4 rfl) ?_
  have hPc := hP.sub (ws' := [(g0, .inr (15, [.int 0, .ref (bb 0), .ref (bb 1), .ref (bb 2), .ref (bb 3), .int 0, .long 0, .int 0, .int 0, .int 0, .int 0]))]) [3] rfl
  have hDc := hD.sub (ws' := [(g0, .inr (15, [.int 0, .ref (bb 0), .ref (bb 1), .ref (bb 2), .ref (bb 3), .int 0, .long 0, .int 0, .int 0, .int 0, .int 0]))]) [3] (by decide) rfl
  have hKc := hK.sub (tys' := []) [] rfl
  have hFc := va_free (wc := [(g0, .inr (15, [.int 0, .ref (bb 0), .ref (bb 1), .ref (bb 2), .ref (bb 3), .int 0, .long 0, .int 0, .int 0, .int 0, .int 0]))]) hD hS hA [3] rfl
  refine va_calli (va_runV (As := []) (rest := []) ⟨hx, hb, hml, hown, hts⟩ (c_X10_thrown l htr dC dI e0 H.size g0 0 (bb 0) (bb 1) (bb 2) (bb 3) 0 0 0 0 0 0) (cwV 0 hts gL_law_X10_thrown rfl rfl rfl (by decide +kernel) ⟨Nat.le_of_ble_eq_true rfl, Nat.le_of_ble_eq_true rfl⟩) ⟨fun a U g mk q => by obtain ⟨q0, q1, qP, qK, qD⟩ := q; exact ⟨q0, q1, qP, va_K.moved (u := U) (U := U.calling g mk a) (Vm.Alike.refl U.vm) qK, qD⟩, va_recv hKc hPc (ci := 15) (q0 := 0) rfl rfl, fun U hU hW => ⟨rfl, by rw [hU], by rw [hU]; exact hPc, va_K.moved hW.alike hKc, hDc.weaken (fun _ _ _ _ => trivial)⟩⟩ rfl rfl hl.1 rfl (lv_room (Nat.le_of_ble_eq_true rfl)) dL_law_593 ⟨Nat.le_of_ble_eq_true rfl, Nat.le_of_ble_eq_true rfl⟩) hS (fun q _ h => hFc q h) hFc (fun r3 u t H1 locs ht hvm hw hB hz1 hk1 hS => ?_)
  obtain ⟨hP1, hK1, hD1⟩ := hB
  rw [ht] at hP1
  obtain ⟨hP, hD⟩ := va_join (wr := [((a 0), .inl (cL, 10, .inr (.inr (.inr (.inr (fun _ => none)))))), (od, .inl (cD, 1, .inr (.inr (.inr (.inl (fun _ => 0)))))), (o, .inl (cO, 1, .inr (.inl (vp_updL (fun _ => 0) (0 : Int32).toNatClampNeg 0))))]) (w1 := [(g0, .inr (15, [.int 0, .ref (bb 0), .ref (bb 1), .ref (bb 2), .ref (bb 3), .int 0, .long 0, .int 0, .int 0, .int 0, .int 0]))]) hP hD [3] [0, 1, 2] rfl rfl (by decide) (by decide) hk1 hFc hP1 hD1
  generalize H1 = H at hP hS ⊢
  have hP : va_P (dC, dI) vwCl [((a 0), .inl (cL, 10, .inr (.inr (.inr (.inr (fun _ => none)))))), (od, .inl (cD, 1, .inr (.inr (.inr (.inl (fun _ => 0)))))), (o, .inl (cO, 1, .inr (.inl (vp_updL (fun _ => 0) (0 : Int32).toNatClampNeg 0)))), (g0, .inr (15, [.int 0, .ref (bb 0), .ref (bb 1), .ref (bb 2), .ref (bb 3), .int 0, .long 0, .int 0, .int 0, .int 0, .int 0]))] H := hP
  have hD : va_D A [((a 0), .inl (cL, 10, .inr (.inr (.inr (.inr (fun _ => none)))))), (od, .inl (cD, 1, .inr (.inr (.inr (.inl (fun _ => 0)))))), (o, .inl (cO, 1, .inr (.inl (vp_updL (fun _ => 0) (0 : Int32).toNatClampNeg 0)))), (g0, .inr (15, [.int 0, .ref (bb 0), .ref (bb 1), .ref (bb 2), .ref (bb 3), .int 0, .long 0, .int 0, .int 0, .int 0, .int 0]))] := hD
  obtain rfl : r3 = 0 := hw
  refine lv_iload hx hb dL_law_596 (lv_at hl 1 rfl) ?_
  refine lv_icmp_eq (tgt := 603) hx hb dL_law_598 (by decide) (fun _ => ?_) (fun c4 => absurd (by decide) c4)
  refine lv_iload hx hb dL_law_603 (lv_at hl 1 rfl) ?_
  refine lv_if_ne (tgt := 620) hx hb dL_law_605 (by decide) (fun c5 => absurd (by decide) c5) (fun _ => ?_)
  refine lv_aload_n hx hb dL_law_608 rfl (lv_at hl 5 rfl) ?_
  refine lv_iconst (v := 0) hx hb dL_law_609 (by decide) ?_
  refine va_lald hx hb hK hP 2 2 rfl rfl (by unfold vp_in; decide) dL_law_610 ?_
  rw [show (vp_updL (fun _ => 0) (0 : Int32).toNatClampNeg 0) (0 : Int32).toNatClampNeg = 0 from by simp [vp_updL]]
  refine lv_iload hx hb dL_law_611 (lv_at hl 0 rfl) ?_
  refine lv_i2l (v := 0) hx hb dL_law_613 (by decide) ?_
  refine W.lcmp hx hb dL_law_614 ?_
  rw [zl_cmp 0]
  refine lv_if_eq (tgt := 620) hx hb dL_law_615 (by decide) (fun _ => ?_) (fun c6 => absurd (by decide) c6)
  refine lv_goto (tgt := 3259) hx hb dL_law_620 (by decide) ?_
  exact zl_end C0 hA2 (Nat.le_of_ble_eq_true rfl) (Nat.le_of_ble_eq_true rfl) hS (lv_sub hl [7, 2] rfl)
theorem dL_law_623 : decode cL_law 623 = .ok (.aload_n 1, 1) := by decide +kernel
theorem dL_law_624 : decode cL_law 624 = .ok (.aload_n 0, 1) := by decide +kernel
theorem dL_law_625 : decode cL_law 625 = .ok (.iload 5, 2) := by decide +kernel
theorem dL_law_627 : decode cL_law 627 = .ok (.iconst 1, 1) := by decide +kernel
theorem dL_law_628 : decode cL_law 628 = .ok (.iadd, 1) := by decide +kernel
theorem dL_law_629 : decode cL_law 629 = .ok (.iaload, 1) := by decide +kernel
theorem dL_law_630 : decode cL_law 630 = .ok (.aload_n 0, 1) := by decide +kernel
theorem dL_law_631 : decode cL_law 631 = .ok (.iload 5, 2) := by decide +kernel
theorem dL_law_633 : decode cL_law 633 = .ok (.iconst 2, 1) := by decide +kernel
theorem dL_law_634 : decode cL_law 634 = .ok (.iadd, 1) := by decide +kernel
theorem dL_law_635 : decode cL_law 635 = .ok (.iaload, 1) := by decide +kernel
theorem dL_law_636 : decode cL_law 636 = .ok (.aload_n 0, 1) := by decide +kernel
theorem dL_law_637 : decode cL_law 637 = .ok (.iload 5, 2) := by decide +kernel
theorem dL_law_639 : decode cL_law 639 = .ok (.iconst 3, 1) := by decide +kernel
theorem dL_law_640 : decode cL_law 640 = .ok (.iadd, 1) := by decide +kernel
theorem dL_law_641 : decode cL_law 641 = .ok (.iaload, 1) := by decide +kernel
theorem dL_law_642 : decode cL_law 642 = .ok (.aload_n 3, 1) := by decide +kernel
theorem dL_law_643 : decode cL_law 643 = .ok (.invokestatic 202, 3) := by decide +kernel
theorem dL_law_646 : decode cL_law 646 = .ok (.istore 6, 2) := by decide +kernel
theorem dL_law_648 : decode cL_law 648 = .ok (.aload_n 2, 1) := by decide +kernel
theorem dL_law_649 : decode cL_law 649 = .ok (.aload_n 0, 1) := by decide +kernel
theorem dL_law_650 : decode cL_law 650 = .ok (.iload 5, 2) := by decide +kernel
theorem dL_law_652 : decode cL_law 652 = .ok (.iconst 1, 1) := by decide +kernel
theorem dL_law_653 : decode cL_law 653 = .ok (.iadd, 1) := by decide +kernel
theorem dL_law_654 : decode cL_law 654 = .ok (.iaload, 1) := by decide +kernel
theorem dL_law_655 : decode cL_law 655 = .ok (.aload_n 0, 1) := by decide +kernel
theorem dL_law_656 : decode cL_law 656 = .ok (.iload 5, 2) := by decide +kernel
theorem dL_law_658 : decode cL_law 658 = .ok (.iconst 2, 1) := by decide +kernel
theorem dL_law_659 : decode cL_law 659 = .ok (.iadd, 1) := by decide +kernel
theorem dL_law_660 : decode cL_law 660 = .ok (.iaload, 1) := by decide +kernel
theorem dL_law_661 : decode cL_law 661 = .ok (.aload_n 0, 1) := by decide +kernel
theorem dL_law_662 : decode cL_law 662 = .ok (.iload 5, 2) := by decide +kernel
theorem dL_law_664 : decode cL_law 664 = .ok (.iconst 3, 1) := by decide +kernel
theorem dL_law_665 : decode cL_law 665 = .ok (.iadd, 1) := by decide +kernel
theorem dL_law_666 : decode cL_law 666 = .ok (.iaload, 1) := by decide +kernel
theorem dL_law_667 : decode cL_law 667 = .ok (.invokevirtual 204, 3) := by decide +kernel
theorem dL_law_670 : decode cL_law 670 = .ok (.istore 7, 2) := by decide +kernel
theorem dL_law_672 : decode cL_law 672 = .ok (.aload_n 2, 1) := by decide +kernel
theorem dL_law_673 : decode cL_law 673 = .ok (.invokevirtual 183, 3) := by decide +kernel
theorem dL_law_676 : decode cL_law 676 = .ok (.iload 6, 2) := by decide +kernel
theorem dL_law_678 : decode cL_law 678 = .ok (.if_icmp .eq 5, 3) := by decide +kernel
theorem dL_law_683 : decode cL_law 683 = .ok (.iload 6, 2) := by decide +kernel
theorem dL_law_685 : decode cL_law 685 = .ok (.ifCond .ne 15, 3) := by decide +kernel
theorem dL_law_700 : decode cL_law 700 = .ok (.goto 2559, 3) := by decide +kernel
set_option maxHeartbeats 4000000 in
set_option maxRecDepth 100000 in
/-- dog, called on the two fresh objects -/
theorem zl_5 {p : Program} {l : Launch} {e : Env} {s : State} {m : MethodId} {below : List Frame} {meth : Method} {c : Code} {b : Nat} {xs : Nat → Int32} {A : Nat → Prop} (C0 : lw_At p s m meth c b 5 xs) (hA : ∀ q : Nat, s.heap.size ≤ q → A q) (hA2 : ∀ q : Nat, A q → s.heap.size ≤ q) (htr : l.stackTraces = false) (dC : Nat → ClassId) (dI : Nat → Nat → Nat) (e0 h0 g0 o od : Nat) (a bb : Nat → Nat) (cL cT cO cD : ClassId) (hE : zE e0 A s s.heap) (H : Heap) (locs : List Loc) (ls : Array Slot) (hK : va_K (dC, dI) vwCl [(cL, (.object RX1)), (cT, (.object RX5)), (cO, .long), (cD, .double)] s) (hP : va_P (dC, dI) vwCl [(h0, .inr (11, zC a)), ((a 0), .inl (cL, 10, .inr (.inr (.inr (.inr (fun _ => none)))))), ((a 3), .inl (cT, 6, .inr (.inr (.inr (.inr (fun _ => none)))))), (g0, .inr (15, zM 0 bb)), ((bb 0), .inr (4, [.int 0, .ref e0, .int 0])), ((bb 1), .inr (4, [.int 0, .ref e0, .int 0])), ((bb 2), .inr (4, [.int 0, .ref e0, .int 0])), ((bb 3), .inr (4, [.int 0, .ref e0, .int 0])), (o, .inl (cO, 1, .inr (.inl (fun _ => 0)))), (od, .inl (cD, 1, .inr (.inr (.inr (.inl (fun _ => 0))))))] H) (hD : va_D A [(h0, .inr (11, zC a)), ((a 0), .inl (cL, 10, .inr (.inr (.inr (.inr (fun _ => none)))))), ((a 3), .inl (cT, 6, .inr (.inr (.inr (.inr (fun _ => none)))))), (g0, .inr (15, zM 0 bb)), ((bb 0), .inr (4, [.int 0, .ref e0, .int 0])), ((bb 1), .inr (4, [.int 0, .ref e0, .int 0])), ((bb 2), .inr (4, [.int 0, .ref e0, .int 0])), ((bb 3), .inr (4, [.int 0, .ref e0, .int 0])), (o, .inl (cO, 1, .inr (.inl (fun _ => 0)))), (od, .inl (cD, 1, .inr (.inr (.inr (.inl (fun _ => 0))))))]) (hS : va_S A s.heap H locs) (hl : lv_has ls 9 [(0, .ref b), (1, .ref h0), (2, .ref g0), (3, .ref o), (4, .ref od), (5, .int 0)]) : W p l e room_1 s m #[Value.ref b] below meth c H locs (86) (1094) (lw_Z below #[Value.ref b] s) (F0 m 623 ls []) := by
  obtain ⟨hx, hb, hr, hml, hown, ht0, hX, hbl, hlocks, hgv⟩ := id C0
  have hts := ht0
  have hbA : ¬ A b := fun h => absurd hbl (Nat.not_lt.mpr (hA2 b h))
  refine lv_aload_n hx hb dL_law_623 rfl (lv_at hl 1 rfl) ?_
  refine lv_aload_n hx hb dL_law_624 rfl (lv_at hl 0 rfl) ?_
  refine lv_iload hx hb dL_law_625 (lv_at hl 5 rfl) ?_
  refine lv_iconst (v := 1) hx hb dL_law_627 (by decide) ?_
  refine lv_iadd hx hb dL_law_628 ?_
  refine lv_topi (fun y1 e2 => ?_)
  obtain rfl : y1 = 1 := e2.trans (by decide)
  refine va_sld hx hb hX hbl hbA hS (by unfold vp_in; decide) dL_law_629 ?_
  refine lv_aload_n hx hb dL_law_630 rfl (lv_at hl 0 rfl) ?_
  refine lv_iload hx hb dL_law_631 (lv_at hl 5 rfl) ?_
  refine lv_iconst (v := 2) hx hb dL_law_633 (by decide) ?_
  refine lv_iadd hx hb dL_law_634 ?_
  refine lv_topi (fun y3 e4 => ?_)
  obtain rfl : y3 = 2 := e4.trans (by decide)
  refine va_sld hx hb hX hbl hbA hS (by unfold vp_in; decide) dL_law_635 ?_
  refine lv_aload_n hx hb dL_law_636 rfl (lv_at hl 0 rfl) ?_
  refine lv_iload hx hb dL_law_637 (lv_at hl 5 rfl) ?_
  refine lv_iconst (v := 3) hx hb dL_law_639 (by decide) ?_
  refine lv_iadd hx hb dL_law_640 ?_
  refine lv_topi (fun y5 e6 => ?_)
  obtain rfl : y5 = 3 := e6.trans (by decide)
  refine va_sld hx hb hX hbl hbA hS (by unfold vp_in; decide) dL_law_641 ?_
  refine lv_aload_n hx hb dL_law_642 rfl (lv_at hl 3 rfl) ?_
  have hPc := hP.sub (ws' := [(h0, .inr (11, zC a))]) [0] rfl
  have hDc := hD.sub (ws' := [(h0, .inr (11, zC a))]) [0] (by decide) rfl
  have hKc := hK.sub (tys' := []) [] rfl
  have hFc := va_free (wc := [(h0, .inr (11, zC a))]) hD hS hA [0] rfl
  have hEc := (hE.kept hS.2.1).narrow hFc
  refine vx_calli (vx_runSX (As := [.ref h0, .int (xs (1 : Int32).toNatClampNeg), .int (xs (2 : Int32).toNatClampNeg), .int (xs (3 : Int32).toNatClampNeg), .ref o]) (rest := []) ⟨hx, hb, hml, hown, hts⟩ (c_L_dog l htr dC dI e0 H.size h0 a (xs (1 : Int32).toNatClampNeg) (xs (2 : Int32).toNatClampNeg) (xs (3 : Int32).toNatClampNeg) o) (vx_cwSW 5 hts gL_law_L_dog rfl rfl rfl (by decide +kernel) ⟨Nat.le_of_ble_eq_true rfl, Nat.le_of_ble_eq_true rfl⟩) ⟨fun a U g mk q => by obtain ⟨q0, q1, qP, qK, qD, qE⟩ := q; exact ⟨q0, q1, qP, va_K.moved (u := U) (U := U.calling g mk a) (Vm.Alike.refl U.vm) qK, qD, zE.same rfl qE⟩, fun U hU hW => ⟨rfl, by rw [hU], by rw [hU]; exact hPc, va_K.moved hW.alike hKc, hDc.weaken (fun _ _ _ _ => trivial), by rw [hU]; exact zE.warm hW hEc⟩⟩ rfl rfl hl.1 rfl (lv_room (Nat.le_of_ble_eq_true rfl)) dL_law_643 ⟨Nat.le_of_ble_eq_true rfl, Nat.le_of_ble_eq_true rfl⟩) hS (fun q _ h => hFc q h) hFc (fun q _ h => hFc q h) (fun E ce q9 u t H1 locs1 ht hvm hpx hBX hz1 hk1 hS hce hcv hcl => absurd hpx id) (fun r7 u t H1 locs ht hvm hw hB hz1 hk1 hS => ?_)
  have hP1 : va_P (dC, dI) vwCl [] H1 := fun k q h => by simp at h
  have hD1 : va_D (va_A [(h0, .inr (11, zC a))] H.size) [] := ⟨fun i j p q h => by simp at h, fun k q h => by simp at h⟩
  obtain ⟨hP, hD⟩ := va_join (wr := [((a 0), .inl (cL, 10, .inr (.inr (.inr (.inr (fun _ => none)))))), ((a 3), .inl (cT, 6, .inr (.inr (.inr (.inr (fun _ => none)))))), (g0, .inr (15, zM 0 bb)), ((bb 0), .inr (4, [.int 0, .ref e0, .int 0])), ((bb 1), .inr (4, [.int 0, .ref e0, .int 0])), ((bb 2), .inr (4, [.int 0, .ref e0, .int 0])), ((bb 3), .inr (4, [.int 0, .ref e0, .int 0])), (o, .inl (cO, 1, .inr (.inl (fun _ => 0)))), (od, .inl (cD, 1, .inr (.inr (.inr (.inl (fun _ => 0))))))]) (w1 := []) hP hD [0] [1, 2, 3, 4, 5, 6, 7, 8, 9] rfl rfl (by decide) (by decide) hk1 hFc hP1 hD1
  generalize H1 = H at hP hS ⊢
  have hP : va_P (dC, dI) vwCl [((a 0), .inl (cL, 10, .inr (.inr (.inr (.inr (fun _ => none)))))), ((a 3), .inl (cT, 6, .inr (.inr (.inr (.inr (fun _ => none)))))), (g0, .inr (15, zM 0 bb)), ((bb 0), .inr (4, [.int 0, .ref e0, .int 0])), ((bb 1), .inr (4, [.int 0, .ref e0, .int 0])), ((bb 2), .inr (4, [.int 0, .ref e0, .int 0])), ((bb 3), .inr (4, [.int 0, .ref e0, .int 0])), (o, .inl (cO, 1, .inr (.inl (fun _ => 0)))), (od, .inl (cD, 1, .inr (.inr (.inr (.inl (fun _ => 0))))))] H := hP
  have hD : va_D A [((a 0), .inl (cL, 10, .inr (.inr (.inr (.inr (fun _ => none)))))), ((a 3), .inl (cT, 6, .inr (.inr (.inr (.inr (fun _ => none)))))), (g0, .inr (15, zM 0 bb)), ((bb 0), .inr (4, [.int 0, .ref e0, .int 0])), ((bb 1), .inr (4, [.int 0, .ref e0, .int 0])), ((bb 2), .inr (4, [.int 0, .ref e0, .int 0])), ((bb 3), .inr (4, [.int 0, .ref e0, .int 0])), (o, .inl (cO, 1, .inr (.inl (fun _ => 0)))), (od, .inl (cD, 1, .inr (.inr (.inr (.inl (fun _ => 0))))))] := hD
  obtain rfl : r7 = 1 := hw
  refine lv_istore (lv' := [(6, .int 1), (0, .ref b), (1, .ref h0), (2, .ref g0), (3, .ref o), (4, .ref od), (5, .int 0)]) hx hb dL_law_646 hl (by decide) rfl (fun ls hl => ?_)
  refine lv_aload_n hx hb dL_law_648 rfl (lv_at hl 3 rfl) ?_
  refine lv_aload_n hx hb dL_law_649 rfl (lv_at hl 1 rfl) ?_
  refine lv_iload hx hb dL_law_650 (lv_at hl 6 rfl) ?_
  refine lv_iconst (v := 1) hx hb dL_law_652 (by decide) ?_
  refine lv_iadd hx hb dL_law_653 ?_
  refine lv_topi (fun y8 e9 => ?_)
  obtain rfl : y8 = 1 := e9.trans (by decide)
  refine va_sld hx hb hX hbl hbA hS (by unfold vp_in; decide) dL_law_654 ?_
  refine lv_aload_n hx hb dL_law_655 rfl (lv_at hl 1 rfl) ?_
  refine lv_iload hx hb dL_law_656 (lv_at hl 6 rfl) ?_
  refine lv_iconst (v := 2) hx hb dL_law_658 (by decide) ?_
  refine lv_iadd hx hb dL_law_659 ?_
  refine lv_topi (fun y10 e11 => ?_)
  obtain rfl : y10 = 2 := e11.trans (by decide)
  refine va_sld hx hb hX hbl hbA hS (by unfold vp_in; decide) dL_law_660 ?_
  refine lv_aload_n hx hb dL_law_661 rfl (lv_at hl 1 rfl) ?_
  refine lv_iload hx hb dL_law_662 (lv_at hl 6 rfl) ?_
  refine lv_iconst (v := 3) hx hb dL_law_664 (by decide) ?_
  refine lv_iadd hx hb dL_law_665 ?_
  refine lv_topi (fun y12 e13 => ?_)
  obtain rfl : y12 = 3 := e13.trans (by decide)
  refine va_sld hx hb hX hbl hbA hS (by unfold vp_in; decide) dL_law_666 ?_
  have hPc := hP.sub (ws' := [(g0, .inr (15, zM 0 bb)), ((bb 0), .inr (4, [.int 0, .ref e0, .int 0])), ((bb 1), .inr (4, [.int 0, .ref e0, .int 0])), ((bb 2), .inr (4, [.int 0, .ref e0, .int 0])), ((bb 3), .inr (4, [.int 0, .ref e0, .int 0]))]) [2, 3, 4, 5, 6] rfl
  have hDc := hD.sub (ws' := [(g0, .inr (15, zM 0 bb)), ((bb 0), .inr (4, [.int 0, .ref e0, .int 0])), ((bb 1), .inr (4, [.int 0, .ref e0, .int 0])), ((bb 2), .inr (4, [.int 0, .ref e0, .int 0])), ((bb 3), .inr (4, [.int 0, .ref e0, .int 0]))]) [2, 3, 4, 5, 6] (by decide) rfl
  have hKc := hK.sub (tys' := []) [] rfl
  have hFc := va_free (wc := [(g0, .inr (15, zM 0 bb)), ((bb 0), .inr (4, [.int 0, .ref e0, .int 0])), ((bb 1), .inr (4, [.int 0, .ref e0, .int 0])), ((bb 2), .inr (4, [.int 0, .ref e0, .int 0])), ((bb 3), .inr (4, [.int 0, .ref e0, .int 0]))]) hD hS hA [2, 3, 4, 5, 6] rfl
  have hEc := (hE.kept hS.2.1).narrow hFc
  refine va_calli (va_runV (As := [.int (xs (1 : Int32).toNatClampNeg), .int (xs (2 : Int32).toNatClampNeg), .int (xs (3 : Int32).toNatClampNeg)]) (rest := []) ⟨hx, hb, hml, hown, hts⟩ (c_X10_dog l htr dC dI e0 H.size g0 0 bb (xs (1 : Int32).toNatClampNeg) (xs (2 : Int32).toNatClampNeg) (xs (3 : Int32).toNatClampNeg)) (cwV 3 hts gL_law_X10_dog rfl rfl rfl (by decide +kernel) ⟨Nat.le_of_ble_eq_true rfl, Nat.le_of_ble_eq_true rfl⟩) ⟨fun a U g mk q => by obtain ⟨q0, q1, qP, qK, qD, qE⟩ := q; exact ⟨q0, q1, qP, va_K.moved (u := U) (U := U.calling g mk a) (Vm.Alike.refl U.vm) qK, qD, zE.same rfl qE⟩, va_recv hKc hPc (ci := 15) (q0 := 0) rfl rfl, fun U hU hW => ⟨rfl, by rw [hU], by rw [hU]; exact hPc, va_K.moved hW.alike hKc, hDc.weaken (fun _ _ _ _ => trivial), by rw [hU]; exact zE.warm hW hEc⟩⟩ rfl rfl hl.1 rfl (lv_room (Nat.le_of_ble_eq_true rfl)) dL_law_667 ⟨Nat.le_of_ble_eq_true rfl, Nat.le_of_ble_eq_true rfl⟩) hS (fun q _ h => hFc q h) hFc (fun r14 u t H1 locs ht hvm hw hB hz1 hk1 hS => ?_)
  obtain ⟨hP1, hK1, hD1⟩ := hB
  rw [ht] at hP1
  obtain ⟨hP, hD⟩ := va_join (wr := [((a 0), .inl (cL, 10, .inr (.inr (.inr (.inr (fun _ => none)))))), ((a 3), .inl (cT, 6, .inr (.inr (.inr (.inr (fun _ => none)))))), (o, .inl (cO, 1, .inr (.inl (fun _ => 0)))), (od, .inl (cD, 1, .inr (.inr (.inr (.inl (fun _ => 0))))))]) (w1 := [(g0, .inr (15, zM 1 bb))]) hP hD [2, 3, 4, 5, 6] [0, 1, 7, 8] rfl rfl (by decide) (by decide) hk1 hFc hP1 hD1
  generalize H1 = H at hP hS ⊢
  have hP : va_P (dC, dI) vwCl [((a 0), .inl (cL, 10, .inr (.inr (.inr (.inr (fun _ => none)))))), ((a 3), .inl (cT, 6, .inr (.inr (.inr (.inr (fun _ => none)))))), (o, .inl (cO, 1, .inr (.inl (fun _ => 0)))), (od, .inl (cD, 1, .inr (.inr (.inr (.inl (fun _ => 0)))))), (g0, .inr (15, zM 1 bb))] H := hP
  have hD : va_D A [((a 0), .inl (cL, 10, .inr (.inr (.inr (.inr (fun _ => none)))))), ((a 3), .inl (cT, 6, .inr (.inr (.inr (.inr (fun _ => none)))))), (o, .inl (cO, 1, .inr (.inl (fun _ => 0)))), (od, .inl (cD, 1, .inr (.inr (.inr (.inl (fun _ => 0)))))), (g0, .inr (15, zM 1 bb))] := hD
  obtain rfl : r14 = 0 := hw
  refine lv_istore (lv' := [(7, .int 0), (6, .int 1), (0, .ref b), (1, .ref h0), (2, .ref g0), (3, .ref o), (4, .ref od), (5, .int 0)]) hx hb dL_law_670 hl (by decide) rfl (fun ls hl => ?_)
  refine lv_aload_n hx hb dL_law_672 rfl (lv_at hl 4 rfl) ?_
  have hPc := hP.sub (ws' := [(g0, .inr (15, [.int 1, .ref (bb 0), .ref (bb 1), .ref (bb 2), .ref (bb 3), .int 0, .long 0, .int 0, .int 0, .int 0, .int 0]))]) [4] rfl
  have hDc := hD.sub (ws' := [(g0, .inr (15, [.int 1, .ref (bb 0), .ref (bb 1), .ref (bb 2), .ref (bb 3), .int 0, .long 0, .int 0, .int 0, .int 0, .int 0]))]) [4] (by decide) rfl
  have hKc := hK.sub (tys' := []) [] rfl
  have hFc := va_free (wc := [(g0, .inr (15, [.int 1, .ref (bb 0), .ref (bb 1), .ref (bb 2), .ref (bb 3), .int 0, .long 0, .int 0, .int 0, .int 0, .int 0]))]) hD hS hA [4] rfl
  refine va_calli (va_runV (As := []) (rest := []) ⟨hx, hb, hml, hown, hts⟩ (c_X10_thrown l htr dC dI e0 H.size g0 1 (bb 0) (bb 1) (bb 2) (bb 3) 0 0 0 0 0 0) (cwV 0 hts gL_law_X10_thrown rfl rfl rfl (by decide +kernel) ⟨Nat.le_of_ble_eq_true rfl, Nat.le_of_ble_eq_true rfl⟩) ⟨fun a U g mk q => by obtain ⟨q0, q1, qP, qK, qD⟩ := q; exact ⟨q0, q1, qP, va_K.moved (u := U) (U := U.calling g mk a) (Vm.Alike.refl U.vm) qK, qD⟩, va_recv hKc hPc (ci := 15) (q0 := 0) rfl rfl, fun U hU hW => ⟨rfl, by rw [hU], by rw [hU]; exact hPc, va_K.moved hW.alike hKc, hDc.weaken (fun _ _ _ _ => trivial)⟩⟩ rfl rfl hl.1 rfl (lv_room (Nat.le_of_ble_eq_true rfl)) dL_law_673 ⟨Nat.le_of_ble_eq_true rfl, Nat.le_of_ble_eq_true rfl⟩) hS (fun q _ h => hFc q h) hFc (fun r15 u t H1 locs ht hvm hw hB hz1 hk1 hS => ?_)
  obtain ⟨hP1, hK1, hD1⟩ := hB
  rw [ht] at hP1
  obtain ⟨hP, hD⟩ := va_join (wr := [((a 0), .inl (cL, 10, .inr (.inr (.inr (.inr (fun _ => none)))))), ((a 3), .inl (cT, 6, .inr (.inr (.inr (.inr (fun _ => none)))))), (o, .inl (cO, 1, .inr (.inl (fun _ => 0)))), (od, .inl (cD, 1, .inr (.inr (.inr (.inl (fun _ => 0))))))]) (w1 := [(g0, .inr (15, [.int 1, .ref (bb 0), .ref (bb 1), .ref (bb 2), .ref (bb 3), .int 0, .long 0, .int 0, .int 0, .int 0, .int 0]))]) hP hD [4] [0, 1, 2, 3] rfl rfl (by decide) (by decide) hk1 hFc hP1 hD1
  generalize H1 = H at hP hS ⊢
  have hP : va_P (dC, dI) vwCl [((a 0), .inl (cL, 10, .inr (.inr (.inr (.inr (fun _ => none)))))), ((a 3), .inl (cT, 6, .inr (.inr (.inr (.inr (fun _ => none)))))), (o, .inl (cO, 1, .inr (.inl (fun _ => 0)))), (od, .inl (cD, 1, .inr (.inr (.inr (.inl (fun _ => 0)))))), (g0, .inr (15, [.int 1, .ref (bb 0), .ref (bb 1), .ref (bb 2), .ref (bb 3), .int 0, .long 0, .int 0, .int 0, .int 0, .int 0]))] H := hP
  have hD : va_D A [((a 0), .inl (cL, 10, .inr (.inr (.inr (.inr (fun _ => none)))))), ((a 3), .inl (cT, 6, .inr (.inr (.inr (.inr (fun _ => none)))))), (o, .inl (cO, 1, .inr (.inl (fun _ => 0)))), (od, .inl (cD, 1, .inr (.inr (.inr (.inl (fun _ => 0)))))), (g0, .inr (15, [.int 1, .ref (bb 0), .ref (bb 1), .ref (bb 2), .ref (bb 3), .int 0, .long 0, .int 0, .int 0, .int 0, .int 0]))] := hD
  obtain rfl : r15 = 1 := hw
  refine lv_iload hx hb dL_law_676 (lv_at hl 1 rfl) ?_
  refine lv_icmp_eq (tgt := 683) hx hb dL_law_678 (by decide) (fun _ => ?_) (fun c16 => absurd (by decide) c16)
  refine lv_iload hx hb dL_law_683 (lv_at hl 1 rfl) ?_
  refine lv_if_ne (tgt := 700) hx hb dL_law_685 (by decide) (fun _ => ?_) (fun c17 => absurd c17 (by decide))
  refine lv_goto (tgt := 3259) hx hb dL_law_700 (by decide) ?_
  exact zl_end C0 hA2 (Nat.le_of_ble_eq_true rfl) (Nat.le_of_ble_eq_true rfl) hS (lv_sub hl [7, 2] rfl)
theorem dL_law_703 : decode cL_law 703 = .ok (.aload_n 1, 1) := by decide +kernel
theorem dL_law_704 : decode cL_law 704 = .ok (.aload_n 0, 1) := by decide +kernel
theorem dL_law_705 : decode cL_law 705 = .ok (.iload 5, 2) := by decide +kernel
theorem dL_law_707 : decode cL_law 707 = .ok (.iconst 1, 1) := by decide +kernel
theorem dL_law_708 : decode cL_law 708 = .ok (.iadd, 1) := by decide +kernel
theorem dL_law_709 : decode cL_law 709 = .ok (.iaload, 1) := by decide +kernel
theorem dL_law_710 : decode cL_law 710 = .ok (.aload_n 0, 1) := by decide +kernel
theorem dL_law_711 : decode cL_law 711 = .ok (.iload 5, 2) := by decide +kernel
theorem dL_law_713 : decode cL_law 713 = .ok (.iconst 2, 1) := by decide +kernel
theorem dL_law_714 : decode cL_law 714 = .ok (.iadd, 1) := by decide +kernel
theorem dL_law_715 : decode cL_law 715 = .ok (.iaload, 1) := by decide +kernel
theorem dL_law_716 : decode cL_law 716 = .ok (.aload_n 3, 1) := by decide +kernel
theorem dL_law_717 : decode cL_law 717 = .ok (.invokestatic 205, 3) := by decide +kernel
theorem dL_law_720 : decode cL_law 720 = .ok (.istore 6, 2) := by decide +kernel
theorem dL_law_722 : decode cL_law 722 = .ok (.aload_n 2, 1) := by decide +kernel
theorem dL_law_723 : decode cL_law 723 = .ok (.aload_n 0, 1) := by decide +kernel
theorem dL_law_724 : decode cL_law 724 = .ok (.iload 5, 2) := by decide +kernel
theorem dL_law_726 : decode cL_law 726 = .ok (.iconst 1, 1) := by decide +kernel
theorem dL_law_727 : decode cL_law 727 = .ok (.iadd, 1) := by decide +kernel
theorem dL_law_728 : decode cL_law 728 = .ok (.iaload, 1) := by decide +kernel
theorem dL_law_729 : decode cL_law 729 = .ok (.aload_n 0, 1) := by decide +kernel
theorem dL_law_730 : decode cL_law 730 = .ok (.iload 5, 2) := by decide +kernel
theorem dL_law_732 : decode cL_law 732 = .ok (.iconst 2, 1) := by decide +kernel
theorem dL_law_733 : decode cL_law 733 = .ok (.iadd, 1) := by decide +kernel
theorem dL_law_734 : decode cL_law 734 = .ok (.iaload, 1) := by decide +kernel
theorem dL_law_735 : decode cL_law 735 = .ok (.invokevirtual 207, 3) := by decide +kernel
theorem dL_law_738 : decode cL_law 738 = .ok (.istore 7, 2) := by decide +kernel
theorem dL_law_740 : decode cL_law 740 = .ok (.aload_n 2, 1) := by decide +kernel
theorem dL_law_741 : decode cL_law 741 = .ok (.invokevirtual 183, 3) := by decide +kernel
theorem dL_law_744 : decode cL_law 744 = .ok (.iload 6, 2) := by decide +kernel
theorem dL_law_746 : decode cL_law 746 = .ok (.if_icmp .eq 5, 3) := by decide +kernel
theorem dL_law_751 : decode cL_law 751 = .ok (.iload 6, 2) := by decide +kernel
theorem dL_law_753 : decode cL_law 753 = .ok (.ifCond .ne 15, 3) := by decide +kernel
theorem dL_law_768 : decode cL_law 768 = .ok (.goto 2491, 3) := by decide +kernel
set_option maxHeartbeats 4000000 in
set_option maxRecDepth 100000 in
/-- lease, called on the two fresh objects -/
theorem zl_6 {p : Program} {l : Launch} {e : Env} {s : State} {m : MethodId} {below : List Frame} {meth : Method} {c : Code} {b : Nat} {xs : Nat → Int32} {A : Nat → Prop} (C0 : lw_At p s m meth c b 5 xs) (hA : ∀ q : Nat, s.heap.size ≤ q → A q) (hA2 : ∀ q : Nat, A q → s.heap.size ≤ q) (htr : l.stackTraces = false) (dC : Nat → ClassId) (dI : Nat → Nat → Nat) (e0 h0 g0 o od : Nat) (a bb : Nat → Nat) (cL cT cO cD : ClassId) (hE : zE e0 A s s.heap) (H : Heap) (locs : List Loc) (ls : Array Slot) (hK : va_K (dC, dI) vwCl [(cL, (.object RX1)), (cT, (.object RX5)), (cO, .long), (cD, .double)] s) (hP : va_P (dC, dI) vwCl [(h0, .inr (11, zC a)), ((a 0), .inl (cL, 10, .inr (.inr (.inr (.inr (fun _ => none)))))), ((a 3), .inl (cT, 6, .inr (.inr (.inr (.inr (fun _ => none)))))), (g0, .inr (15, zM 0 bb)), ((bb 0), .inr (4, [.int 0, .ref e0, .int 0])), ((bb 1), .inr (4, [.int 0, .ref e0, .int 0])), ((bb 2), .inr (4, [.int 0, .ref e0, .int 0])), ((bb 3), .inr (4, [.int 0, .ref e0, .int 0])), (o, .inl (cO, 1, .inr (.inl (fun _ => 0)))), (od, .inl (cD, 1, .inr (.inr (.inr (.inl (fun _ => 0))))))] H) (hD : va_D A [(h0, .inr (11, zC a)), ((a 0), .inl (cL, 10, .inr (.inr (.inr (.inr (fun _ => none)))))), ((a 3), .inl (cT, 6, .inr (.inr (.inr (.inr (fun _ => none)))))), (g0, .inr (15, zM 0 bb)), ((bb 0), .inr (4, [.int 0, .ref e0, .int 0])), ((bb 1), .inr (4, [.int 0, .ref e0, .int 0])), ((bb 2), .inr (4, [.int 0, .ref e0, .int 0])), ((bb 3), .inr (4, [.int 0, .ref e0, .int 0])), (o, .inl (cO, 1, .inr (.inl (fun _ => 0)))), (od, .inl (cD, 1, .inr (.inr (.inr (.inl (fun _ => 0))))))]) (hS : va_S A s.heap H locs) (hl : lv_has ls 9 [(0, .ref b), (1, .ref h0), (2, .ref g0), (3, .ref o), (4, .ref od), (5, .int 0)]) : W p l e room_1 s m #[Value.ref b] below meth c H locs (86) (1094) (lw_Z below #[Value.ref b] s) (F0 m 703 ls []) := by
  obtain ⟨hx, hb, hr, hml, hown, ht0, hX, hbl, hlocks, hgv⟩ := id C0
  have hts := ht0
  have hbA : ¬ A b := fun h => absurd hbl (Nat.not_lt.mpr (hA2 b h))
  refine lv_aload_n hx hb dL_law_703 rfl (lv_at hl 1 rfl) ?_
  refine lv_aload_n hx hb dL_law_704 rfl (lv_at hl 0 rfl) ?_
  refine lv_iload hx hb dL_law_705 (lv_at hl 5 rfl) ?_
  refine lv_iconst (v := 1) hx hb dL_law_707 (by decide) ?_
  refine lv_iadd hx hb dL_law_708 ?_
  refine lv_topi (fun y1 e2 => ?_)
  obtain rfl : y1 = 1 := e2.trans (by decide)
  refine va_sld hx hb hX hbl hbA hS (by unfold vp_in; decide) dL_law_709 ?_
  refine lv_aload_n hx hb dL_law_710 rfl (lv_at hl 0 rfl) ?_
  refine lv_iload hx hb dL_law_711 (lv_at hl 5 rfl) ?_
  refine lv_iconst (v := 2) hx hb dL_law_713 (by decide) ?_
  refine lv_iadd hx hb dL_law_714 ?_
  refine lv_topi (fun y3 e4 => ?_)
  obtain rfl : y3 = 2 := e4.trans (by decide)
  refine va_sld hx hb hX hbl hbA hS (by unfold vp_in; decide) dL_law_715 ?_
  refine lv_aload_n hx hb dL_law_716 rfl (lv_at hl 3 rfl) ?_
  have hPc := hP.sub (ws' := [(h0, .inr (11, zC a))]) [0] rfl
  have hDc := hD.sub (ws' := [(h0, .inr (11, zC a))]) [0] (by decide) rfl
  have hKc := hK.sub (tys' := []) [] rfl
  have hFc := va_free (wc := [(h0, .inr (11, zC a))]) hD hS hA [0] rfl
  have hEc := (hE.kept hS.2.1).narrow hFc
  refine vx_calli (vx_runSX (As := [.ref h0, .int (xs (1 : Int32).toNatClampNeg), .int (xs (2 : Int32).toNatClampNeg), .ref o]) (rest := []) ⟨hx, hb, hml, hown, hts⟩ (c_L_lease l htr dC dI e0 H.size h0 a (xs (1 : Int32).toNatClampNeg) (xs (2 : Int32).toNatClampNeg) o) (vx_cwSW 4 hts gL_law_L_lease rfl rfl rfl (by decide +kernel) ⟨Nat.le_of_ble_eq_true rfl, Nat.le_of_ble_eq_true rfl⟩) ⟨fun a U g mk q => by obtain ⟨q0, q1, qP, qK, qD, qE⟩ := q; exact ⟨q0, q1, qP, va_K.moved (u := U) (U := U.calling g mk a) (Vm.Alike.refl U.vm) qK, qD, zE.same rfl qE⟩, fun U hU hW => ⟨rfl, by rw [hU], by rw [hU]; exact hPc, va_K.moved hW.alike hKc, hDc.weaken (fun _ _ _ _ => trivial), by rw [hU]; exact zE.warm hW hEc⟩⟩ rfl rfl hl.1 rfl (lv_room (Nat.le_of_ble_eq_true rfl)) dL_law_717 ⟨Nat.le_of_ble_eq_true rfl, Nat.le_of_ble_eq_true rfl⟩) hS (fun q _ h => hFc q h) hFc (fun q _ h => hFc q h) (fun E ce q9 u t H1 locs1 ht hvm hpx hBX hz1 hk1 hS hce hcv hcl => absurd hpx id) (fun r5 u t H1 locs ht hvm hw hB hz1 hk1 hS => ?_)
  have hP1 : va_P (dC, dI) vwCl [] H1 := fun k q h => by simp at h
  have hD1 : va_D (va_A [(h0, .inr (11, zC a))] H.size) [] := ⟨fun i j p q h => by simp at h, fun k q h => by simp at h⟩
  obtain ⟨hP, hD⟩ := va_join (wr := [((a 0), .inl (cL, 10, .inr (.inr (.inr (.inr (fun _ => none)))))), ((a 3), .inl (cT, 6, .inr (.inr (.inr (.inr (fun _ => none)))))), (g0, .inr (15, zM 0 bb)), ((bb 0), .inr (4, [.int 0, .ref e0, .int 0])), ((bb 1), .inr (4, [.int 0, .ref e0, .int 0])), ((bb 2), .inr (4, [.int 0, .ref e0, .int 0])), ((bb 3), .inr (4, [.int 0, .ref e0, .int 0])), (o, .inl (cO, 1, .inr (.inl (fun _ => 0)))), (od, .inl (cD, 1, .inr (.inr (.inr (.inl (fun _ => 0))))))]) (w1 := []) hP hD [0] [1, 2, 3, 4, 5, 6, 7, 8, 9] rfl rfl (by decide) (by decide) hk1 hFc hP1 hD1
  generalize H1 = H at hP hS ⊢
  have hP : va_P (dC, dI) vwCl [((a 0), .inl (cL, 10, .inr (.inr (.inr (.inr (fun _ => none)))))), ((a 3), .inl (cT, 6, .inr (.inr (.inr (.inr (fun _ => none)))))), (g0, .inr (15, zM 0 bb)), ((bb 0), .inr (4, [.int 0, .ref e0, .int 0])), ((bb 1), .inr (4, [.int 0, .ref e0, .int 0])), ((bb 2), .inr (4, [.int 0, .ref e0, .int 0])), ((bb 3), .inr (4, [.int 0, .ref e0, .int 0])), (o, .inl (cO, 1, .inr (.inl (fun _ => 0)))), (od, .inl (cD, 1, .inr (.inr (.inr (.inl (fun _ => 0))))))] H := hP
  have hD : va_D A [((a 0), .inl (cL, 10, .inr (.inr (.inr (.inr (fun _ => none)))))), ((a 3), .inl (cT, 6, .inr (.inr (.inr (.inr (fun _ => none)))))), (g0, .inr (15, zM 0 bb)), ((bb 0), .inr (4, [.int 0, .ref e0, .int 0])), ((bb 1), .inr (4, [.int 0, .ref e0, .int 0])), ((bb 2), .inr (4, [.int 0, .ref e0, .int 0])), ((bb 3), .inr (4, [.int 0, .ref e0, .int 0])), (o, .inl (cO, 1, .inr (.inl (fun _ => 0)))), (od, .inl (cD, 1, .inr (.inr (.inr (.inl (fun _ => 0))))))] := hD
  obtain rfl : r5 = 1 := hw
  refine lv_istore (lv' := [(6, .int 1), (0, .ref b), (1, .ref h0), (2, .ref g0), (3, .ref o), (4, .ref od), (5, .int 0)]) hx hb dL_law_720 hl (by decide) rfl (fun ls hl => ?_)
  refine lv_aload_n hx hb dL_law_722 rfl (lv_at hl 3 rfl) ?_
  refine lv_aload_n hx hb dL_law_723 rfl (lv_at hl 1 rfl) ?_
  refine lv_iload hx hb dL_law_724 (lv_at hl 6 rfl) ?_
  refine lv_iconst (v := 1) hx hb dL_law_726 (by decide) ?_
  refine lv_iadd hx hb dL_law_727 ?_
  refine lv_topi (fun y6 e7 => ?_)
  obtain rfl : y6 = 1 := e7.trans (by decide)
  refine va_sld hx hb hX hbl hbA hS (by unfold vp_in; decide) dL_law_728 ?_
  refine lv_aload_n hx hb dL_law_729 rfl (lv_at hl 1 rfl) ?_
  refine lv_iload hx hb dL_law_730 (lv_at hl 6 rfl) ?_
  refine lv_iconst (v := 2) hx hb dL_law_732 (by decide) ?_
  refine lv_iadd hx hb dL_law_733 ?_
  refine lv_topi (fun y8 e9 => ?_)
  obtain rfl : y8 = 2 := e9.trans (by decide)
  refine va_sld hx hb hX hbl hbA hS (by unfold vp_in; decide) dL_law_734 ?_
  have hPc := hP.sub (ws' := [(g0, .inr (15, zM 0 bb)), ((bb 0), .inr (4, [.int 0, .ref e0, .int 0])), ((bb 1), .inr (4, [.int 0, .ref e0, .int 0])), ((bb 2), .inr (4, [.int 0, .ref e0, .int 0])), ((bb 3), .inr (4, [.int 0, .ref e0, .int 0]))]) [2, 3, 4, 5, 6] rfl
  have hDc := hD.sub (ws' := [(g0, .inr (15, zM 0 bb)), ((bb 0), .inr (4, [.int 0, .ref e0, .int 0])), ((bb 1), .inr (4, [.int 0, .ref e0, .int 0])), ((bb 2), .inr (4, [.int 0, .ref e0, .int 0])), ((bb 3), .inr (4, [.int 0, .ref e0, .int 0]))]) [2, 3, 4, 5, 6] (by decide) rfl
  have hKc := hK.sub (tys' := []) [] rfl
  have hFc := va_free (wc := [(g0, .inr (15, zM 0 bb)), ((bb 0), .inr (4, [.int 0, .ref e0, .int 0])), ((bb 1), .inr (4, [.int 0, .ref e0, .int 0])), ((bb 2), .inr (4, [.int 0, .ref e0, .int 0])), ((bb 3), .inr (4, [.int 0, .ref e0, .int 0]))]) hD hS hA [2, 3, 4, 5, 6] rfl
  have hEc := (hE.kept hS.2.1).narrow hFc
  refine va_calli (va_runV (As := [.int (xs (1 : Int32).toNatClampNeg), .int (xs (2 : Int32).toNatClampNeg)]) (rest := []) ⟨hx, hb, hml, hown, hts⟩ (c_X10_lease l htr dC dI e0 H.size g0 0 bb (xs (1 : Int32).toNatClampNeg) (xs (2 : Int32).toNatClampNeg)) (cwV 2 hts gL_law_X10_lease rfl rfl rfl (by decide +kernel) ⟨Nat.le_of_ble_eq_true rfl, Nat.le_of_ble_eq_true rfl⟩) ⟨fun a U g mk q => by obtain ⟨q0, q1, qP, qK, qD, qE⟩ := q; exact ⟨q0, q1, qP, va_K.moved (u := U) (U := U.calling g mk a) (Vm.Alike.refl U.vm) qK, qD, zE.same rfl qE⟩, va_recv hKc hPc (ci := 15) (q0 := 0) rfl rfl, fun U hU hW => ⟨rfl, by rw [hU], by rw [hU]; exact hPc, va_K.moved hW.alike hKc, hDc.weaken (fun _ _ _ _ => trivial), by rw [hU]; exact zE.warm hW hEc⟩⟩ rfl rfl hl.1 rfl (lv_room (Nat.le_of_ble_eq_true rfl)) dL_law_735 ⟨Nat.le_of_ble_eq_true rfl, Nat.le_of_ble_eq_true rfl⟩) hS (fun q _ h => hFc q h) hFc (fun r10 u t H1 locs ht hvm hw hB hz1 hk1 hS => ?_)
  obtain ⟨hP1, hK1, hD1⟩ := hB
  rw [ht] at hP1
  obtain ⟨hP, hD⟩ := va_join (wr := [((a 0), .inl (cL, 10, .inr (.inr (.inr (.inr (fun _ => none)))))), ((a 3), .inl (cT, 6, .inr (.inr (.inr (.inr (fun _ => none)))))), (o, .inl (cO, 1, .inr (.inl (fun _ => 0)))), (od, .inl (cD, 1, .inr (.inr (.inr (.inl (fun _ => 0))))))]) (w1 := [(g0, .inr (15, zM 1 bb))]) hP hD [2, 3, 4, 5, 6] [0, 1, 7, 8] rfl rfl (by decide) (by decide) hk1 hFc hP1 hD1
  generalize H1 = H at hP hS ⊢
  have hP : va_P (dC, dI) vwCl [((a 0), .inl (cL, 10, .inr (.inr (.inr (.inr (fun _ => none)))))), ((a 3), .inl (cT, 6, .inr (.inr (.inr (.inr (fun _ => none)))))), (o, .inl (cO, 1, .inr (.inl (fun _ => 0)))), (od, .inl (cD, 1, .inr (.inr (.inr (.inl (fun _ => 0)))))), (g0, .inr (15, zM 1 bb))] H := hP
  have hD : va_D A [((a 0), .inl (cL, 10, .inr (.inr (.inr (.inr (fun _ => none)))))), ((a 3), .inl (cT, 6, .inr (.inr (.inr (.inr (fun _ => none)))))), (o, .inl (cO, 1, .inr (.inl (fun _ => 0)))), (od, .inl (cD, 1, .inr (.inr (.inr (.inl (fun _ => 0)))))), (g0, .inr (15, zM 1 bb))] := hD
  obtain rfl : r10 = 0 := hw
  refine lv_istore (lv' := [(7, .int 0), (6, .int 1), (0, .ref b), (1, .ref h0), (2, .ref g0), (3, .ref o), (4, .ref od), (5, .int 0)]) hx hb dL_law_738 hl (by decide) rfl (fun ls hl => ?_)
  refine lv_aload_n hx hb dL_law_740 rfl (lv_at hl 4 rfl) ?_
  have hPc := hP.sub (ws' := [(g0, .inr (15, [.int 1, .ref (bb 0), .ref (bb 1), .ref (bb 2), .ref (bb 3), .int 0, .long 0, .int 0, .int 0, .int 0, .int 0]))]) [4] rfl
  have hDc := hD.sub (ws' := [(g0, .inr (15, [.int 1, .ref (bb 0), .ref (bb 1), .ref (bb 2), .ref (bb 3), .int 0, .long 0, .int 0, .int 0, .int 0, .int 0]))]) [4] (by decide) rfl
  have hKc := hK.sub (tys' := []) [] rfl
  have hFc := va_free (wc := [(g0, .inr (15, [.int 1, .ref (bb 0), .ref (bb 1), .ref (bb 2), .ref (bb 3), .int 0, .long 0, .int 0, .int 0, .int 0, .int 0]))]) hD hS hA [4] rfl
  refine va_calli (va_runV (As := []) (rest := []) ⟨hx, hb, hml, hown, hts⟩ (c_X10_thrown l htr dC dI e0 H.size g0 1 (bb 0) (bb 1) (bb 2) (bb 3) 0 0 0 0 0 0) (cwV 0 hts gL_law_X10_thrown rfl rfl rfl (by decide +kernel) ⟨Nat.le_of_ble_eq_true rfl, Nat.le_of_ble_eq_true rfl⟩) ⟨fun a U g mk q => by obtain ⟨q0, q1, qP, qK, qD⟩ := q; exact ⟨q0, q1, qP, va_K.moved (u := U) (U := U.calling g mk a) (Vm.Alike.refl U.vm) qK, qD⟩, va_recv hKc hPc (ci := 15) (q0 := 0) rfl rfl, fun U hU hW => ⟨rfl, by rw [hU], by rw [hU]; exact hPc, va_K.moved hW.alike hKc, hDc.weaken (fun _ _ _ _ => trivial)⟩⟩ rfl rfl hl.1 rfl (lv_room (Nat.le_of_ble_eq_true rfl)) dL_law_741 ⟨Nat.le_of_ble_eq_true rfl, Nat.le_of_ble_eq_true rfl⟩) hS (fun q _ h => hFc q h) hFc (fun r11 u t H1 locs ht hvm hw hB hz1 hk1 hS => ?_)
  obtain ⟨hP1, hK1, hD1⟩ := hB
  rw [ht] at hP1
  obtain ⟨hP, hD⟩ := va_join (wr := [((a 0), .inl (cL, 10, .inr (.inr (.inr (.inr (fun _ => none)))))), ((a 3), .inl (cT, 6, .inr (.inr (.inr (.inr (fun _ => none)))))), (o, .inl (cO, 1, .inr (.inl (fun _ => 0)))), (od, .inl (cD, 1, .inr (.inr (.inr (.inl (fun _ => 0))))))]) (w1 := [(g0, .inr (15, [.int 1, .ref (bb 0), .ref (bb 1), .ref (bb 2), .ref (bb 3), .int 0, .long 0, .int 0, .int 0, .int 0, .int 0]))]) hP hD [4] [0, 1, 2, 3] rfl rfl (by decide) (by decide) hk1 hFc hP1 hD1
  generalize H1 = H at hP hS ⊢
  have hP : va_P (dC, dI) vwCl [((a 0), .inl (cL, 10, .inr (.inr (.inr (.inr (fun _ => none)))))), ((a 3), .inl (cT, 6, .inr (.inr (.inr (.inr (fun _ => none)))))), (o, .inl (cO, 1, .inr (.inl (fun _ => 0)))), (od, .inl (cD, 1, .inr (.inr (.inr (.inl (fun _ => 0)))))), (g0, .inr (15, [.int 1, .ref (bb 0), .ref (bb 1), .ref (bb 2), .ref (bb 3), .int 0, .long 0, .int 0, .int 0, .int 0, .int 0]))] H := hP
  have hD : va_D A [((a 0), .inl (cL, 10, .inr (.inr (.inr (.inr (fun _ => none)))))), ((a 3), .inl (cT, 6, .inr (.inr (.inr (.inr (fun _ => none)))))), (o, .inl (cO, 1, .inr (.inl (fun _ => 0)))), (od, .inl (cD, 1, .inr (.inr (.inr (.inl (fun _ => 0)))))), (g0, .inr (15, [.int 1, .ref (bb 0), .ref (bb 1), .ref (bb 2), .ref (bb 3), .int 0, .long 0, .int 0, .int 0, .int 0, .int 0]))] := hD
  obtain rfl : r11 = 1 := hw
  refine lv_iload hx hb dL_law_744 (lv_at hl 1 rfl) ?_
  refine lv_icmp_eq (tgt := 751) hx hb dL_law_746 (by decide) (fun _ => ?_) (fun c12 => absurd (by decide) c12)
  refine lv_iload hx hb dL_law_751 (lv_at hl 1 rfl) ?_
  refine lv_if_ne (tgt := 768) hx hb dL_law_753 (by decide) (fun _ => ?_) (fun c13 => absurd c13 (by decide))
  refine lv_goto (tgt := 3259) hx hb dL_law_768 (by decide) ?_
  exact zl_end C0 hA2 (Nat.le_of_ble_eq_true rfl) (Nat.le_of_ble_eq_true rfl) hS (lv_sub hl [7, 2] rfl)
