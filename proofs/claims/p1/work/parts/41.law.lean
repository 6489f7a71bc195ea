theorem dL_law_0 : decode cL_law 0 = .ok (.new 8, 3) := by decide +kernel
theorem dL_law_3 : decode cL_law 3 = .ok (.dup, 1) := by decide +kernel
theorem dL_law_4 : decode cL_law 4 = .ok (.invokespecial 173, 3) := by decide +kernel
theorem dL_law_7 : decode cL_law 7 = .ok (.astore_n 1, 1) := by decide +kernel
theorem dL_law_8 : decode cL_law 8 = .ok (.new 174, 3) := by decide +kernel
theorem dL_law_11 : decode cL_law 11 = .ok (.dup, 1) := by decide +kernel
theorem dL_law_12 : decode cL_law 12 = .ok (.invokespecial 176, 3) := by decide +kernel
theorem dL_law_15 : decode cL_law 15 = .ok (.astore_n 2, 1) := by decide +kernel
theorem dL_law_16 : decode cL_law 16 = .ok (.iconst 1, 1) := by decide +kernel
theorem dL_law_17 : decode cL_law 17 = .ok (.newarray .long, 2) := by decide +kernel
theorem dL_law_19 : decode cL_law 19 = .ok (.astore_n 3, 1) := by decide +kernel
theorem dL_law_20 : decode cL_law 20 = .ok (.iconst 1, 1) := by decide +kernel
theorem dL_law_21 : decode cL_law 21 = .ok (.newarray .double, 2) := by decide +kernel
theorem dL_law_23 : decode cL_law 23 = .ok (.astore 4, 2) := by decide +kernel
theorem dL_law_25 : decode cL_law 25 = .ok (.iconst 0, 1) := by decide +kernel
theorem dL_law_26 : decode cL_law 26 = .ok (.istore 5, 2) := by decide +kernel
set_option maxHeartbeats 4000000 in
set_option maxRecDepth 100000 in
theorem whole_start {p : Program} {e : Env} {s : State} {m : MethodId} {below : List Frame} {meth : Method} {c : Code} (l : Launch) (hflags : l.flags = flags0) {b L : Nat} {xs : Nat → Int32} (hL : L ≤ 5) (C0 : lw_At p s m meth c b L xs) : W p l e room_1 s m #[Value.ref b] below meth c s.heap [] 0 0 (lw_Z below #[Value.ref b] s) (entryFrame m ([Value.ref b] : List Value).toArray 9) := by
  have htr : l.stackTraces = false := by rw [show l.stackTraces = !l.flags.contains Jvm.noTraceFlag from rfl, hflags]; decide +kernel
  obtain ⟨hx, hb, hr, hml, hown, ht0, hX, hbl, hlocks, hgv⟩ := id C0
  have hts := ht0
  obtain ⟨A, hA, hA2⟩ : ∃ A : Nat → Prop, (∀ q : Nat, s.heap.size ≤ q → A q) ∧ (∀ q : Nat, A q → s.heap.size ≤ q) := ⟨fun q => s.heap.size ≤ q, fun _ h => h, fun _ h => h⟩
  have hbA : ¬ A b := fun h => absurd hbl (Nat.not_lt.mpr (hA2 b h))
  obtain ⟨e0, hE⟩ := zl_env (A := A) ht0 hgv (fun q h z => absurd h (Nat.not_lt.mpr (hA2 q z)))
  obtain ⟨c0, i0, hk0⟩ := u_known (C := RJ0) (T := TJ0) (N := 4) (n := 4) ht0 (fun w h => (zw_wsJ00 w h).1) (ht0 (.instantiable "java/lang/String" 4) (List.mem_of_getElem? (i := 675) (by decide +kernel)))
  obtain ⟨c1, i1, hk1⟩ := u_known (C := RJ4) (T := TJ4) (N := 4) (n := 4) ht0 (fun w h => (zw_wsJ40 w h).1) (ht0 (.instantiable "java/lang/StringBuilder" 4) (List.mem_of_getElem? (i := 2216) (by decide +kernel)))
  obtain ⟨c2, i2, hk2⟩ := u_known (C := RJx00060) (T := TJx00060) (N := 6) (n := 6) ht0 (fun w h => (zw_wsJx000600 w h).1) (ht0 (.instantiable "java/lang/ArrayIndexOutOfBoundsException" 6) (List.mem_of_getElem? (i := 657) (by decide +kernel)))
  obtain ⟨c3, i3, hk3⟩ := u_known (C := RJx35411) (T := TJx35411) (N := 4) (n := 4) ht0 (fun w h => (zw_wsJx354110 w h).1) (ht0 (.instantiable "java/util/ArrayList$Itr" 4) (List.mem_of_getElem? (i := 1345) (by decide +kernel)))
  obtain ⟨c4, i4, hk4⟩ := u_known (C := RJx4a65c) (T := TJx4a65c) (N := 3) (n := 3) ht0 (fun w h => (zw_wsJx4a65c0 w h).1) (ht0 (.instantiable "java/util/ArrayList" 3) (List.mem_of_getElem? (i := 1253) (by decide +kernel)))
  obtain ⟨c5, i5, hk5⟩ := u_known (C := RX0) (T := TX0) (N := 14) (n := 14) ht0 (fun w h => (zw_wsX00 w h).1) (ht0 (.instantiable "Gangline$Dog" 14) (List.mem_of_getElem? (i := 226) (by decide +kernel)))
  obtain ⟨c6, i6, hk6⟩ := u_known (C := RX1) (T := TX1) (N := 5) (n := 5) ht0 (fun w h => (zw_wsX10 w h).1) (ht0 (.instantiable "Gangline$Leg" 5) (List.mem_of_getElem? (i := 628) (by decide +kernel)))
  obtain ⟨c7, i7, hk7⟩ := u_known (C := RX2) (T := TX2) (N := 17) (n := 17) ht0 (fun w h => (zw_wsX20 w h).1) (ht0 (.instantiable "Gangline$Party" 17) (List.mem_of_getElem? (i := 147) (by decide +kernel)))
  obtain ⟨c8, i8, hk8⟩ := u_known (C := RX3) (T := TX3) (N := 3) (n := 3) ht0 (fun w h => (zw_wsX30 w h).1) (ht0 (.instantiable "Gangline$Plan" 3) (List.mem_of_getElem? (i := 127) (by decide +kernel)))
  obtain ⟨c9, i9, hk9⟩ := u_known (C := RX4) (T := TX4) (N := 4) (n := 4) ht0 (fun w h => (zw_wsX40 w h).1) (ht0 (.instantiable "Gangline$Storm" 4) (List.mem_of_getElem? (i := 708) (by decide +kernel)))
  obtain ⟨c10, i10, hk10⟩ := u_known (C := RX5) (T := TX5) (N := 5) (n := 5) ht0 (fun w h => (zw_wsX50 w h).1) (ht0 (.instantiable "Gangline$Team" 5) (List.mem_of_getElem? (i := 749) (by decide +kernel)))
  obtain ⟨c11, i11, hk11⟩ := u_known (C := RX6) (T := TX6) (N := 16) (n := 16) ht0 (fun w h => (zw_wsX60 w h).1) (ht0 (.instantiable "Gangline" 16) (List.mem_of_getElem? (i := 109) (by decide +kernel)))
  obtain ⟨c12, i12, hk12⟩ := u_known (C := RX7) (T := TX7) (N := 17) (n := 17) ht0 (fun w h => (zw_wsX70 w h).1) (ht0 (.instantiable "GanglineModel$Dog" 17) (List.mem_of_getElem? (i := 1652) (by decide +kernel)))
  obtain ⟨c13, i13, hk13⟩ := u_known (C := RX8) (T := TX8) (N := 5) (n := 5) ht0 (fun w h => (zw_wsX80 w h).1) (ht0 (.instantiable "GanglineModel$Leg" 5) (List.mem_of_getElem? (i := 1416) (by decide +kernel)))
  obtain ⟨c14, i14, hk14⟩ := u_known (C := RX9) (T := TX9) (N := 22) (n := 22) ht0 (fun w h => (zw_wsX90 w h).1) (ht0 (.instantiable "GanglineModel$Team" 22) (List.mem_of_getElem? (i := 1549) (by decide +kernel)))
  obtain ⟨c15, i15, hk15⟩ := u_known (C := RX10) (T := TX10) (N := 11) (n := 11) ht0 (fun w h => (zw_wsX100 w h).1) (ht0 (.instantiable "GanglineModel" 11) (List.mem_of_getElem? (i := 1247) (by decide +kernel)))
  obtain ⟨dC, dI, hKc⟩ : ∃ (dC : Nat → ClassId) (dI : Nat → Nat → Nat), ∀ (k : Nat) (q : vw_C), vwCl[k]? = some q → u_Kn s q.1 q.2.1 q.2.2 (dC k) (dI k) := by
    refine ⟨fun k => if k = 0 then c0 else if k = 1 then c1 else if k = 2 then c2 else if k = 3 then c3 else if k = 4 then c4 else if k = 5 then c5 else if k = 6 then c6 else if k = 7 then c7 else if k = 8 then c8 else if k = 9 then c9 else if k = 10 then c10 else if k = 11 then c11 else if k = 12 then c12 else if k = 13 then c13 else if k = 14 then c14 else c15, fun k => if k = 0 then i0 else if k = 1 then i1 else if k = 2 then i2 else if k = 3 then i3 else if k = 4 then i4 else if k = 5 then i5 else if k = 6 then i6 else if k = 7 then i7 else if k = 8 then i8 else if k = 9 then i9 else if k = 10 then i10 else if k = 11 then i11 else if k = 12 then i12 else if k = 13 then i13 else if k = 14 then i14 else i15, ?_⟩
    intro k q hq
    match k, hq with
    | 0, hq => cases hq; exact hk0
    | 1, hq => cases hq; exact hk1
    | 2, hq => cases hq; exact hk2
    | 3, hq => cases hq; exact hk3
    | 4, hq => cases hq; exact hk4
    | 5, hq => cases hq; exact hk5
    | 6, hq => cases hq; exact hk6
    | 7, hq => cases hq; exact hk7
    | 8, hq => cases hq; exact hk8
    | 9, hq => cases hq; exact hk9
    | 10, hq => cases hq; exact hk10
    | 11, hq => cases hq; exact hk11
    | 12, hq => cases hq; exact hk12
    | 13, hq => cases hq; exact hk13
    | 14, hq => cases hq; exact hk14
    | 15, hq => cases hq; exact hk15
    | k + 16, hq => simp [vwCl] at hq
  have hS : va_S A s.heap s.heap [] := va_S.rf
  have hK : va_K (dC, dI) vwCl [] s := ⟨hKc, fun k q h => by simp at h⟩
  have hP : va_P (dC, dI) vwCl [] s.heap := fun k q h => by simp at h
  have hD : va_D A [] := ⟨fun i j p q h => by simp at h, fun k q h => by simp at h⟩
  have hl := lv_entry ([.ref b]) (n := 9) (Nat.le_of_ble_eq_true rfl)
  rw [lg_entry_eq]
  generalize (lg_sl ([.ref b]) ++ List.replicate (9 - (lg_sl ([.ref b])).length) Slot.unset).toArray = ls at hl ⊢
  have hl : lv_has ls 9 [(0, .ref b)] := hl

  refine va_new (ci := 11) (fs := [.null, .int 0, .null, .int 0, .null, .int 0, .null, .int 0, .long 0, .int 0, .int 0, .null, .null, .null, .null, .int 0]) (C := RX6) (T := TX6) (N := 16) hx hb ht0 (fun w h => (zw_wsX60 w h).1) tyX6 tyX6_ok hown (ht0 (.classLink RL 8 RX6) (List.mem_of_getElem? (i := 108) (by decide +kernel))) (ht0 (.instantiable RX6 16) (List.mem_of_getElem? (i := 109) (by decide +kernel))) (ht0 (.initialized RX6) (List.mem_of_getElem? (i := 69) (by decide +kernel))) hK hP hD hS hA rfl (fun j hj => by rcases (show j = 0 ∨ j = 1 ∨ j = 2 ∨ j = 3 ∨ j = 4 ∨ j = 5 ∨ j = 6 ∨ j = 7 ∨ j = 8 ∨ j = 9 ∨ j = 10 ∨ j = 11 ∨ j = 12 ∨ j = 13 ∨ j = 14 ∨ j = 15 by omega) with rfl | rfl | rfl | rfl | rfl | rfl | rfl | rfl | rfl | rfl | rfl | rfl | rfl | rfl | rfl | rfl <;> rfl) (Nat.le_of_ble_eq_true rfl) (Nat.le_of_ble_eq_true rfl) dL_law_0 (fun q1 H hP hD hS => ?_)
  have hP : va_P (dC, dI) vwCl [(q1, .inr (11, [.null, .int 0, .null, .int 0, .null, .int 0, .null, .int 0, .long 0, .int 0, .int 0, .null, .null, .null, .null, .int 0]))] H := hP
  have hD : va_D A [(q1, .inr (11, [.null, .int 0, .null, .int 0, .null, .int 0, .null, .int 0, .long 0, .int 0, .int 0, .null, .null, .null, .null, .int 0]))] := hD
  refine W.widen (k := 1) (n := 16) (by decide) (by decide) ?_
  refine lv_dup hx hb dL_law_3 rfl ?_
  have hPc := hP.sub (ws' := [(q1, .inr (11, [.null, .int 0, .null, .int 0, .null, .int 0, .null, .int 0, .long 0, .int 0, .int 0, .null, .null, .null, .null, .int 0]))]) [0] rfl
  have hDc := hD.sub (ws' := [(q1, .inr (11, [.null, .int 0, .null, .int 0, .null, .int 0, .null, .int 0, .long 0, .int 0, .int 0, .null, .null, .null, .null, .int 0]))]) [0] (by decide) rfl
  have hKc := hK.sub (tys' := []) [] rfl
  have hFc := va_free (wc := [(q1, .inr (11, [.null, .int 0, .null, .int 0, .null, .int 0, .null, .int 0, .long 0, .int 0, .int 0, .null, .null, .null, .null, .int 0]))]) hD hS hA [0] rfl
  have hEc := (hE.kept hS.2.1).narrow hFc
  refine va_callv (va_runI (As := []) (rest := [.ref q1]) ⟨hx, hb, hml, hown, hts⟩ (c_X6_init l htr dC dI e0 H.size q1) (cwI 0 hts gL_law_X6_init rfl rfl rfl (ht0 (.initialized RX6) (List.mem_of_getElem? (i := 69) (by decide +kernel))) (ht0 (.methodLink RL 173 yX6_init) (List.mem_of_getElem? (i := 110) (by decide +kernel))) (ht0 (.instanceMethod yX6_init) (List.mem_of_getElem? (i := 111) (by decide +kernel))) rfl (by decide +kernel) ⟨Nat.le_of_ble_eq_true rfl, Nat.le_of_ble_eq_true rfl⟩) ⟨fun a U g mk q => by obtain ⟨q0, q1, qP, qK, qD, qE⟩ := q; exact ⟨q0, q1, qP, va_K.moved (u := U) (U := U.calling g mk a) (Vm.Alike.refl U.vm) qK, qD, zE.same rfl qE⟩, fun U hU hW => ⟨rfl, by rw [hU], by rw [hU]; exact hPc, va_K.moved hW.alike hKc, hDc.weaken (fun _ _ _ _ => trivial), by rw [hU]; exact zE.warm hW hEc⟩⟩ rfl rfl hl.1 rfl (lv_room (Nat.le_of_ble_eq_true rfl)) dL_law_4 ⟨Nat.le_of_ble_eq_true rfl, Nat.le_of_ble_eq_true rfl⟩) hS (fun q _ h => hFc q h) hFc (fun u t H1 locs ht hvm hw hB hz1 hk1 hS => ?_)
  obtain ⟨q2, q3, q4, hP1, hK1, hD1⟩ := hB
  rw [ht] at hP1
  obtain ⟨hP, hD⟩ := va_join (wr := []) (w1 := [(q1, .inr (11, zC q2)), ((q2 0), .inl (q3, 10, .inr (.inr (.inr (.inr (fun _ => none)))))), ((q2 3), .inl (q4, 6, .inr (.inr (.inr (.inr (fun _ => none))))))]) hP hD [0] [] rfl rfl (by decide) (by decide) hk1 hFc hP1 hD1
  generalize H1 = H at hP hS ⊢
  have hP : va_P (dC, dI) vwCl [(q1, .inr (11, zC q2)), ((q2 0), .inl (q3, 10, .inr (.inr (.inr (.inr (fun _ => none)))))), ((q2 3), .inl (q4, 6, .inr (.inr (.inr (.inr (fun _ => none))))))] H := hP
  have hD : va_D A [(q1, .inr (11, zC q2)), ((q2 0), .inl (q3, 10, .inr (.inr (.inr (.inr (fun _ => none)))))), ((q2 3), .inl (q4, 6, .inr (.inr (.inr (.inr (fun _ => none))))))] := hD
  have hK := hK.app ((va_K.moved hvm.symm hK1).sub (tys' := [(q3, (.object RX1)), (q4, (.object RX5))]) [0, 1] rfl)
  have hK : va_K (dC, dI) vwCl [(q3, (.object RX1)), (q4, (.object RX5))] s := hK
  refine lv_astore_n (lv' := [(1, .ref q1), (0, .ref b)]) hx hb dL_law_7 rfl hl (by decide) rfl (fun ls hl => ?_)
  refine va_new (ci := 15) (fs := [.int 0, .null, .null, .null, .null, .int 0, .long 0, .int 0, .int 0, .int 0, .int 0]) (C := RX10) (T := TX10) (N := 11) hx hb ht0 (fun w h => (zw_wsX100 w h).1) tyX10 tyX10_ok hown (ht0 (.classLink RL 174 RX10) (List.mem_of_getElem? (i := 1246) (by decide +kernel))) (ht0 (.instantiable RX10 11) (List.mem_of_getElem? (i := 1247) (by decide +kernel))) (ht0 (.initialized RX10) (List.mem_of_getElem? (i := 73) (by decide +kernel))) hK hP hD hS hA rfl (fun j hj => by rcases (show j = 0 ∨ j = 1 ∨ j = 2 ∨ j = 3 ∨ j = 4 ∨ j = 5 ∨ j = 6 ∨ j = 7 ∨ j = 8 ∨ j = 9 ∨ j = 10 by omega) with rfl | rfl | rfl | rfl | rfl | rfl | rfl | rfl | rfl | rfl | rfl <;> rfl) (Nat.le_of_ble_eq_true rfl) (Nat.le_of_ble_eq_true rfl) dL_law_8 (fun q5 H hP hD hS => ?_)
  have hP : va_P (dC, dI) vwCl [(q1, .inr (11, zC q2)), ((q2 0), .inl (q3, 10, .inr (.inr (.inr (.inr (fun _ => none)))))), ((q2 3), .inl (q4, 6, .inr (.inr (.inr (.inr (fun _ => none)))))), (q5, .inr (15, [.int 0, .null, .null, .null, .null, .int 0, .long 0, .int 0, .int 0, .int 0, .int 0]))] H := hP
  have hD : va_D A [(q1, .inr (11, zC q2)), ((q2 0), .inl (q3, 10, .inr (.inr (.inr (.inr (fun _ => none)))))), ((q2 3), .inl (q4, 6, .inr (.inr (.inr (.inr (fun _ => none)))))), (q5, .inr (15, [.int 0, .null, .null, .null, .null, .int 0, .long 0, .int 0, .int 0, .int 0, .int 0]))] := hD
  refine W.widen (k := 80) (n := 1080) (by decide) (by decide) ?_
  refine lv_dup hx hb dL_law_11 rfl ?_
  have hPc := hP.sub (ws' := [(q5, .inr (15, [.int 0, .null, .null, .null, .null, .int 0, .long 0, .int 0, .int 0, .int 0, .int 0]))]) [3] rfl
  have hDc := hD.sub (ws' := [(q5, .inr (15, [.int 0, .null, .null, .null, .null, .int 0, .long 0, .int 0, .int 0, .int 0, .int 0]))]) [3] (by decide) rfl
  have hKc := hK.sub (tys' := []) [] rfl
  have hFc := va_free (wc := [(q5, .inr (15, [.int 0, .null, .null, .null, .null, .int 0, .long 0, .int 0, .int 0, .int 0, .int 0]))]) hD hS hA [3] rfl
  have hEc := (hE.kept hS.2.1).narrow hFc
  refine va_callv (va_runI (As := []) (rest := [.ref q5]) ⟨hx, hb, hml, hown, hts⟩ (c_X10_init l htr dC dI e0 H.size q5) (cwI 0 hts gL_law_X10_init rfl rfl rfl (ht0 (.initialized RX10) (List.mem_of_getElem? (i := 73) (by decide +kernel))) (ht0 (.methodLink RL 176 yX10_init) (List.mem_of_getElem? (i := 1248) (by decide +kernel))) (ht0 (.instanceMethod yX10_init) (List.mem_of_getElem? (i := 1249) (by decide +kernel))) rfl (by decide +kernel) ⟨Nat.le_of_ble_eq_true rfl, Nat.le_of_ble_eq_true rfl⟩) ⟨fun a U g mk q => by obtain ⟨q0, q1, qP, qK, qD, qE⟩ := q; exact ⟨q0, q1, qP, va_K.moved (u := U) (U := U.calling g mk a) (Vm.Alike.refl U.vm) qK, qD, zE.same rfl qE⟩, fun U hU hW => ⟨rfl, by rw [hU], by rw [hU]; exact hPc, va_K.moved hW.alike hKc, hDc.weaken (fun _ _ _ _ => trivial), by rw [hU]; exact zE.warm hW hEc⟩⟩ rfl rfl hl.1 rfl (lv_room (Nat.le_of_ble_eq_true rfl)) dL_law_12 ⟨Nat.le_of_ble_eq_true rfl, Nat.le_of_ble_eq_true rfl⟩) hS (fun q _ h => hFc q h) hFc (fun u t H1 locs ht hvm hw hB hz1 hk1 hS => ?_)
  obtain ⟨q6, hP1, hK1, hD1⟩ := hB
  rw [ht] at hP1
  obtain ⟨hP, hD⟩ := va_join (wr := [(q1, .inr (11, zC q2)), ((q2 0), .inl (q3, 10, .inr (.inr (.inr (.inr (fun _ => none)))))), ((q2 3), .inl (q4, 6, .inr (.inr (.inr (.inr (fun _ => none))))))]) (w1 := [(q5, .inr (15, zM 0 q6)), ((q6 0), .inr (4, [.int 0, .ref e0, .int 0])), ((q6 1), .inr (4, [.int 0, .ref e0, .int 0])), ((q6 2), .inr (4, [.int 0, .ref e0, .int 0])), ((q6 3), .inr (4, [.int 0, .ref e0, .int 0]))]) hP hD [3] [0, 1, 2] rfl rfl (by decide) (by decide) hk1 hFc hP1 hD1
  generalize H1 = H at hP hS ⊢
  have hP : va_P (dC, dI) vwCl [(q1, .inr (11, zC q2)), ((q2 0), .inl (q3, 10, .inr (.inr (.inr (.inr (fun _ => none)))))), ((q2 3), .inl (q4, 6, .inr (.inr (.inr (.inr (fun _ => none)))))), (q5, .inr (15, zM 0 q6)), ((q6 0), .inr (4, [.int 0, .ref e0, .int 0])), ((q6 1), .inr (4, [.int 0, .ref e0, .int 0])), ((q6 2), .inr (4, [.int 0, .ref e0, .int 0])), ((q6 3), .inr (4, [.int 0, .ref e0, .int 0]))] H := hP
  have hD : va_D A [(q1, .inr (11, zC q2)), ((q2 0), .inl (q3, 10, .inr (.inr (.inr (.inr (fun _ => none)))))), ((q2 3), .inl (q4, 6, .inr (.inr (.inr (.inr (fun _ => none)))))), (q5, .inr (15, zM 0 q6)), ((q6 0), .inr (4, [.int 0, .ref e0, .int 0])), ((q6 1), .inr (4, [.int 0, .ref e0, .int 0])), ((q6 2), .inr (4, [.int 0, .ref e0, .int 0])), ((q6 3), .inr (4, [.int 0, .ref e0, .int 0]))] := hD
  refine lv_astore_n (lv' := [(2, .ref q5), (1, .ref q1), (0, .ref b)]) hx hb dL_law_15 rfl hl (by decide) rfl (fun ls hl => ?_)
  refine lv_iconst (v := 1) hx hb dL_law_16 (by decide) ?_
  refine va_newa (atype := .long) (ty := .long) (N' := 1) (a0 := (1, .inr (.inl (fun _ => 0)))) hx hb (ht0 (.arrayClass .long) (List.mem_of_getElem? (i := 2459) (by decide +kernel))) rfl hK hP hD hS hA (fun _ => rfl) (by decide) (by decide) (by decide) (Nat.le_of_ble_eq_true rfl) (Nat.le_of_ble_eq_true rfl) dL_law_17 (fun q7 k8 H hK hP hD hS => ?_)
  have hK : va_K (dC, dI) vwCl [(q3, (.object RX1)), (q4, (.object RX5)), (k8, .long)] s := hK
  have hP : va_P (dC, dI) vwCl [(q1, .inr (11, zC q2)), ((q2 0), .inl (q3, 10, .inr (.inr (.inr (.inr (fun _ => none)))))), ((q2 3), .inl (q4, 6, .inr (.inr (.inr (.inr (fun _ => none)))))), (q5, .inr (15, zM 0 q6)), ((q6 0), .inr (4, [.int 0, .ref e0, .int 0])), ((q6 1), .inr (4, [.int 0, .ref e0, .int 0])), ((q6 2), .inr (4, [.int 0, .ref e0, .int 0])), ((q6 3), .inr (4, [.int 0, .ref e0, .int 0])), (q7, .inl (k8, 1, .inr (.inl (fun _ => 0))))] H := hP
  have hD : va_D A [(q1, .inr (11, zC q2)), ((q2 0), .inl (q3, 10, .inr (.inr (.inr (.inr (fun _ => none)))))), ((q2 3), .inl (q4, 6, .inr (.inr (.inr (.inr (fun _ => none)))))), (q5, .inr (15, zM 0 q6)), ((q6 0), .inr (4, [.int 0, .ref e0, .int 0])), ((q6 1), .inr (4, [.int 0, .ref e0, .int 0])), ((q6 2), .inr (4, [.int 0, .ref e0, .int 0])), ((q6 3), .inr (4, [.int 0, .ref e0, .int 0])), (q7, .inl (k8, 1, .inr (.inl (fun _ => 0))))] := hD
  refine W.widen (k := 85) (n := 1093) (by decide) (by decide) ?_
  refine lv_astore_n (lv' := [(3, .ref q7), (2, .ref q5), (1, .ref q1), (0, .ref b)]) hx hb dL_law_19 rfl hl (by decide) rfl (fun ls hl => ?_)
  refine lv_iconst (v := 1) hx hb dL_law_20 (by decide) ?_
  refine va_newa (atype := .double) (ty := .double) (N' := 1) (a0 := (1, .inr (.inr (.inr (.inl (fun _ => 0)))))) hx hb (ht0 (.arrayClass .double) (List.mem_of_getElem? (i := 2460) (by decide +kernel))) rfl hK hP hD hS hA (fun _ => rfl) (by decide) (by decide) (by decide) (Nat.le_of_ble_eq_true rfl) (Nat.le_of_ble_eq_true rfl) dL_law_21 (fun q9 k10 H hK hP hD hS => ?_)
  have hK : va_K (dC, dI) vwCl [(q3, (.object RX1)), (q4, (.object RX5)), (k8, .long), (k10, .double)] s := hK
  have hP : va_P (dC, dI) vwCl [(q1, .inr (11, zC q2)), ((q2 0), .inl (q3, 10, .inr (.inr (.inr (.inr (fun _ => none)))))), ((q2 3), .inl (q4, 6, .inr (.inr (.inr (.inr (fun _ => none)))))), (q5, .inr (15, zM 0 q6)), ((q6 0), .inr (4, [.int 0, .ref e0, .int 0])), ((q6 1), .inr (4, [.int 0, .ref e0, .int 0])), ((q6 2), .inr (4, [.int 0, .ref e0, .int 0])), ((q6 3), .inr (4, [.int 0, .ref e0, .int 0])), (q7, .inl (k8, 1, .inr (.inl (fun _ => 0)))), (q9, .inl (k10, 1, .inr (.inr (.inr (.inl (fun _ => 0))))))] H := hP
  have hD : va_D A [(q1, .inr (11, zC q2)), ((q2 0), .inl (q3, 10, .inr (.inr (.inr (.inr (fun _ => none)))))), ((q2 3), .inl (q4, 6, .inr (.inr (.inr (.inr (fun _ => none)))))), (q5, .inr (15, zM 0 q6)), ((q6 0), .inr (4, [.int 0, .ref e0, .int 0])), ((q6 1), .inr (4, [.int 0, .ref e0, .int 0])), ((q6 2), .inr (4, [.int 0, .ref e0, .int 0])), ((q6 3), .inr (4, [.int 0, .ref e0, .int 0])), (q7, .inl (k8, 1, .inr (.inl (fun _ => 0)))), (q9, .inl (k10, 1, .inr (.inr (.inr (.inl (fun _ => 0))))))] := hD
  refine W.widen (k := 86) (n := 1094) (by decide) (by decide) ?_
  refine lv_astore (lv' := [(4, .ref q9), (3, .ref q7), (2, .ref q5), (1, .ref q1), (0, .ref b)]) hx hb dL_law_23 hl (by decide) rfl (fun ls hl => ?_)
  refine lv_iconst (v := 0) hx hb dL_law_25 (by decide) ?_
  refine lv_istore (lv' := [(5, .int 0), (4, .ref q9), (3, .ref q7), (2, .ref q5), (1, .ref q1), (0, .ref b)]) hx hb dL_law_26 hl (by decide) rfl (fun ls hl => ?_)
  exact zl_head hL C0 hA hA2 htr dC dI e0 q1 q5 q7 q9 q2 q6 q3 q4 k8 k10 hE _ _ _ (hK.sub [0, 1, 2, 3] rfl) (hP.sub [0, 1, 2, 3, 4, 5, 6, 7, 8, 9] rfl) (hD.sub [0, 1, 2, 3, 4, 5, 6, 7, 8, 9] (by decide) rfl) hS (lv_sub hl [5, 4, 3, 2, 1, 0] rfl)
set_option maxHeartbeats 4000000 in
theorem lw_walk (l : Launch) (hflags : l.flags = flags0) (b : Addr) (xs : List Int32) : MetFree l x (headSpec (Jvm.Cond.code x code maxLocals ret :: tables_1) room_1) (lw_P b xs) (fun _ _ _ _ _ => True) lw_Q := by
  refine MetFree.of_bodyS (code := code) (maxLocals := maxLocals) (ret := ret) (by decide) ?_ ?_
  · intro args s m h hn
    obtain ⟨meth, c, h1, h2, h3, h4, h5, h6, -, -⟩ := Cond.code_spec hn (atoms_spec (ws := Jvm.Cond.code x code maxLocals ret :: tables_1) h _ List.mem_cons_self)
    exact ⟨meth, c, h1, h2, h3, h4, h5, h6⟩
  · intro p e s m args below meth c s₁ B hml0 hP _
    obtain ⟨rfl, hx, hbd, hgv⟩ := hP
    obtain ⟨scr, harrAt, hlist, hof, hsmall⟩ := hx
    obtain ⟨hcb, hkn, -, -⟩ := State.arrayAt?_spec harrAt
    have hown : s.vm.findClass R_law = some m.cls := findClass_of_methodNamed B.named
    have hts0 : ∀ c ∈ (Jvm.Cond.code x code maxLocals ret :: tables_1), c.before #[Value.ref b] s = true := atoms_spec (ws := Jvm.Cond.code x code maxLocals ret :: tables_1) B.pre
    have hts : ∀ w ∈ lw_tbl, w.before #[Value.ref b] s = true := k2_hts_sels lw_privs (fun w hw => hts0 w (List.mem_cons_of_mem _ hw)) lw_privs_ok
    have hml : c.maxLocals = 9 := B.maxLocals_eq (hts0 _ List.mem_cons_self)
    have X₀ : Stand p l e room_1 s m #[Value.ref b] below meth c s₁ [] 0 0 := Stand.of_body B
    have hh0 : s₁.heap = s.heap := by rw [B.state]; rfl
    have hsz : scr.slots.size = xs.length := by rw [← Array.length_toList, hlist, List.length_map]
    have hval : ∀ j : Nat, j < xs.length → scr.slots[j]? = some (.int (xs.getD j 0)) := fun j hj => by
      rw [← Array.getElem?_toList, hlist]
      simp [hj]
    have hbl : b < s.heap.size := (Array.getElem?_eq_some_iff.mp hcb).1
    have hX : va_X b xs.length (fun j => xs.getD j 0) s s.heap := ⟨scr, hcb, hof, hkn, hsz, hval⟩
    have K : W p l e room_1 s m #[Value.ref b] below meth c s₁.heap [] 0 0 (lw_Z below #[Value.ref b] s) (entryFrame m ([Value.ref b] : List Value).toArray 9) := by
      rw [hh0]
      exact whole_start l hflags hbd ⟨B.exec, B.bytes, B.returns, hml, hown, hts, hX, hbl, B.notSynchronized, hgv⟩
    obtain ⟨t, a1, o, b1, b2, b3⟩ := K s₁ rfl X₀
    exact ⟨t, o, a1, b1, b2, b3⟩
theorem lw_pre_spec {args : Array Value} {s : State} (h : (Jvm.Cond.and given_1 narrow_1).before args s = true) (hr : rest_1_c.before args s = true) : ∃ (b : Addr) (xs : List Int32), lw_P b xs args s := by
  have hs := flat_of_before _ h
  have hq := flat_of_before _ hr
  have hc : (Cond.count 1).before args s = true := hs _ (by decide +kernel)
  have harr : (Cond.arrayOf (.arg 0) .int).before args s = true := hs _ (by decide +kernel)
  have hle : (Cond.le (.length (.arg 0)) (.int 5)).before args s = true := hs _ (by decide +kernel)
  have hlen : (Cond.isInt (.length (.arg 0))).before args s = true := hq _ (by decide +kernel)
  have hall : (Cond.all (.arg 0) (.isInt (.elem (.arg 0) (.index 0)))).before args s = true := hq _ (by decide +kernel)
  obtain ⟨b, xs, hb, hx⟩ := State.ints_of_pre rfl harr hlen hall
  have hsm : xs.length < 2 ^ 31 := hx.choose_spec.2.2.2
  have hev : (Term.length (.arg 0)).eval args s none [] s = some (.int xs.length.toInt32) := hx.length_eval hb
  have hv := Cond.le_ints hev (show (Term.int 5).eval args s none [] s = some (.int 5) from rfl)
  have hd : xs.length.toInt32 ≤ 5 := by
    simpa [Cond.before, Cond.holds, hv] using hle
  have hN : xs.length ≤ 5 := (Int32.ofNat_le_ofNat hsm (by decide)).mp (show Int32.ofNat xs.length ≤ Int32.ofNat 5 from hd)
  exact ⟨b, xs, Cond.one_arg hc (show args[0]? = some (.ref b) from hb), hx, hN, h⟩
theorem lw_comes (l : Launch) (hflags : l.flags = flags0) : Comes l x (Jvm.Cond.code x code maxLocals ret :: tables_1) room_1 (fun tb e args s => Calls_1 tb e args s ∧ rest_1 tb e args s ∧ Pre_1 tb e args s)
    (fun _ _ args s o t => lw_Q args s o t) := by
  intro p e ha hc hk s m args below hf hfit hheap happ hpre
  obtain ⟨b, xs, hP⟩ := lw_pre_spec hpre.2.2 hpre.2.1
  obtain ⟨k, o, h1, h2, h3, hQ⟩ := lw_walk l hflags b xs p e ha hc hk s m args below hf ((Spec.applies_iff_loose hf).mp happ).1 hP trivial
  exact ⟨k, o, h1, h2, h3, hQ⟩
theorem lw_frame {s t : State} {o : Outcome} {args : Array Value} (h : State.butDraws s t lw_cs (fun t1 => Framed s o t1 [] 600006 7302080)) :
    State.butDraws s t [Jvm.Choice.named "NaN.bits"] (fun t1 => Framed s o t1 (fieldLocs frame_1_writes args s ++ arrayLocs frame_1_arrays args s ++ staticLocs frame_1_statics s) 600006 7302080) := h
theorem lw_limb (L : Cond) (hL : ∀ (args : Array Value) (s t : State), L.after args s (.returned (some (.int 1))) t = true) :
    ArmFor flags0 classFile x code maxLocals ret World_1 tables_1 room_1 Calls_1 rest_1 Pre_1
      (fun tb e a s o t => postC L tb e a s o t ∧ State.butDraws s t [Jvm.Choice.named "NaN.bits"] (fun t1 => Framed s o t1 (fieldLocs frame_1_writes a s ++ arrayLocs frame_1_arrays a s ++ staticLocs frame_1_statics s) 600006 7302080)) := by
  intro l hflags _ _ p e ha hc hk s m args below hf hfit hheap happ hpre
  obtain ⟨k, o, h1, h2, h3, rfl, hF⟩ := lw_comes l hflags p e ha hc hk s m args below hf hfit hheap happ hpre
  exact ⟨k, _, h1, h2, h3, hL args s _, lw_frame hF⟩
theorem i_vc : Claimed_1_1 ∧ Claimed_1_2 := ⟨lw_limb limb_1_1 (fun args s t => by simp [limb_1_1, Cond.after, Cond.holds, Cond.value]), lw_limb limb_1_2 (fun args s t => Cond.after_iff.mpr (by
  first | (rw [show limb_1_2 = Cond.eq .result (.int 1) from rfl, Cond.eq_ints (x := 1) (y := 1) rfl rfl]; simp; done) | (simp [limb_1_2, Cond.value, Term.eval]; done)))⟩
