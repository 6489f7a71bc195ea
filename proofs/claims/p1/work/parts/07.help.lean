set_option maxRecDepth 20000 in
theorem ggL_dog_X6_dog : GoodIn wsL_dog wsX6_dog := goodIn_ca (goodIn_ca (goodIn_ca (goodIn_r _ [6, 7, 8, 9, 10, 11, 12, 13, 5, 14, 15, 16, 17, 18, 19, 20, 21, 22, 23, 24, 25, 26, 27, 28, 29, 30, 31, 32, 33, 34, 35, 36, 37, 38, 39, 40, 41, 42, 43, 44, 45, 46, 47, 48, 49, 50, 51, 52, 53, 54, 55, 56, 57, 58, 59, 60, 61, 62, 63, 64, 65, 66, 67, 68, 69, 70, 71, 72, 73, 74, 75, 76, 77, 78, 79, 80] (by decide +kernel) (by decide +kernel)) (goodIn_sub (fun _ h => List.mem_cons_of_mem _ (List.mem_append_left _ (List.mem_append_left _ (List.mem_append_right _ h)))) (by decide +kernel))) (goodIn_sub (fun _ h => List.mem_cons_of_mem _ (List.mem_append_left _ (List.mem_append_right _ h))) (by decide +kernel))) (goodIn_sub (fun _ h => List.mem_cons_of_mem _ (List.mem_append_right _ h)) (by decide +kernel))
set_option maxRecDepth 20000 in
theorem gL_dog_X6_dog : GoodIn wsL_dog (wsV RL 37 RX6 yX6_dog wsX6_dog) := goodIn_app (goodIn_of _ (by decide +kernel)) ggL_dog_X6_dog
theorem dL_dog_0 : decode cL_dog 0 = .ok (.aload 4, 2) := by decide +kernel
theorem dL_dog_2 : decode cL_dog 2 = .ok (.iconst 0, 1) := by decide +kernel
theorem dL_dog_3 : decode cL_dog 3 = .ok (.aload_n 0, 1) := by decide +kernel
theorem dL_dog_4 : decode cL_dog 4 = .ok (.iload_n 1, 1) := by decide +kernel
theorem dL_dog_5 : decode cL_dog 5 = .ok (.iload_n 2, 1) := by decide +kernel
theorem dL_dog_6 : decode cL_dog 6 = .ok (.iload_n 3, 1) := by decide +kernel
theorem dL_dog_7 : decode cL_dog 7 = .ok (.invokevirtual 37, 3) := by decide +kernel
theorem dL_dog_15 : decode cL_dog 15 = .ok (.astore 5, 2) := by decide +kernel
theorem dL_dog_17 : decode cL_dog 17 = .ok (.iconst 1, 1) := by decide +kernel
theorem dL_dog_18 : decode cL_dog 18 = .ok (.ireturn, 1) := by decide +kernel
set_option maxHeartbeats 4000000 in
set_option maxRecDepth 100000 in
theorem c_L_dog (l : Launch) (htr : l.stackTraces = false) (dC : Nat → ClassId) (dI : Nat → Nat → Nat) (e0 sz : Nat) (h0 : Nat) (a : Nat → Nat) (p1 : Int32) (p2 : Int32) (p3 : Int32) (p4 : Nat) : vx_Met l yL_dog wsL_dog ({ frames := 8, cells := 1, slots := 6, locals := 134 }) (va_Pc [.ref h0, .int p1, .int p2, .int p3, .ref p4] (fun U => U.heap.size = sz ∧ va_P (dC, dI) vwCl [(h0, .inr (11, zC a))] U.heap ∧ va_K (dC, dI) vwCl [] U ∧ va_D (fun _ => True) [(h0, .inr (11, zC a))] ∧ zE e0 (va_A [(h0, .inr (11, zC a))] sz) U U.heap)) (va_Qi (fun (r : Int32) (_ : Unit) => r = 1) (fun _ t => True) (va_A [(h0, .inr (11, zC a))] sz)) (fun _ _ _ => False) 1 6 (va_A [(h0, .inr (11, zC a))] sz) := by
  refine vx_ofWH (cc := cL_dog) (maxL := 6) (ret := (some .int)) (hh := [(0, 12, 15, 23), (0, 12, 19, 13), (0, 12, 23, 17)]) (by decide) rfl ?_
  intro p e s m args below meth c s₁ B hml hv
  obtain ⟨rfl, hsz, hP, hK, hD0, hE⟩ := hv
  have hx := B.exec
  have hb := B.bytes
  have hr := B.returns
  have hts := atoms_spec (ws := wsL_dog) B.pre
  have hown : s.vm.findClass RL = some m.cls := findClass_of_methodNamed B.named
  have hlocks := B.notSynchronized
  subst hsz
  have hD := hD0.self (sz := s.heap.size)
  generalize hAe : va_A [(h0, .inr (11, zC a))] s.heap.size = A at hD hE ⊢
  have hA : ∀ q : Nat, s.heap.size ≤ q → A q := fun q h => by rw [← hAe]; exact Or.inr h
  have hS : va_S A s.heap s.heap [] := va_S.rf
  have htb := vx_table (x := yL_dog) B (hts _ List.mem_cons_self)
  have hl := lv_entry ([.ref h0, .int p1, .int p2, .int p3, .ref p4]) (n := 6) (Nat.le_of_ble_eq_true rfl)
  rw [lg_entry_eq]
  generalize (lg_sl ([.ref h0, .int p1, .int p2, .int p3, .ref p4]) ++ List.replicate (6 - (lg_sl ([.ref h0, .int p1, .int p2, .int p3, .ref p4])).length) Slot.unset).toArray = ls at hl ⊢
  have hl : lv_has ls 6 [(0, .ref h0), (1, .int p1), (2, .int p2), (3, .int p3), (4, .ref p4)] := hl
  refine lv_aload hx hb dL_dog_0 (lv_at hl 4 rfl) ?_
  refine lv_iconst (v := 0) hx hb dL_dog_2 (by decide) ?_
  refine lv_aload_n hx hb dL_dog_3 rfl (lv_at hl 0 rfl) ?_
  refine lv_iload_n hx hb dL_dog_4 rfl (lv_at hl 1 rfl) ?_
  refine lv_iload_n hx hb dL_dog_5 rfl (lv_at hl 2 rfl) ?_
  refine lv_iload_n hx hb dL_dog_6 rfl (lv_at hl 3 rfl) ?_
  have hPc := hP.sub (ws' := [(h0, .inr (11, zC a))]) [0] rfl
  have hDc := hD.sub (ws' := [(h0, .inr (11, zC a))]) [0] (by decide) rfl
  have hKc := hK.sub (tys' := []) [] rfl
  have hFc := va_free (wc := [(h0, .inr (11, zC a))]) hD hS hA [0] rfl
  have hEc := (hE.kept hS.2.1).narrow hFc
  refine vx_calli (vx_runV (As := [.int p1, .int p2, .int p3]) (rest := [.int 0, .ref p4]) ⟨hx, hb, hml, hown, hts⟩ (c_X6_dog l htr dC dI e0 s.heap.size h0 a p1 p2 p3) (cwV 3 hts gL_dog_X6_dog rfl rfl rfl (by decide +kernel) ⟨Nat.le_of_ble_eq_true rfl, Nat.le_of_ble_eq_true rfl⟩) ⟨fun a U g mk q => by obtain ⟨q0, q1, qP, qK, qD, qE⟩ := q; exact ⟨q0, q1, qP, va_K.moved (u := U) (U := U.calling g mk a) (Vm.Alike.refl U.vm) qK, qD, zE.same rfl qE⟩, va_recv hKc hPc (ci := 11) (q0 := 0) rfl rfl, fun U hU hW => ⟨rfl, by rw [hU], by rw [hU]; exact hPc, va_K.moved hW.alike hKc, hDc.weaken (fun _ _ _ _ => trivial), by rw [hU]; exact zE.warm hW hEc⟩⟩ rfl rfl hl.1 rfl (lv_room (Nat.le_of_ble_eq_true rfl)) dL_dog_7 ⟨Nat.le_of_ble_eq_true rfl, Nat.le_of_ble_eq_true rfl⟩) hS (fun q _ h => hFc q h) hFc (fun q _ h => hFc q h) (fun E ce q9 u t H1 locs1 ht hvm hpx hBX hz1 hk1 hS hce hcv hcl => ?_) (fun r u t H1 locs1 ht hvm hw hB hz1 hk1 hS => absurd hw id)
  obtain rfl : E = zI := hBX
  refine vx_catch hown [] ⟨0, 12, 15, 23⟩ _ (by rw [htb]; rfl) (fun z hz => nomatch hz) (by decide) (by decide) (hts (.classLink RL 23 zI) (by decide +kernel)) (va_Nw.use rfl (zV_C_zI hE.v)) hce hcv hcl ?_
  generalize H1 = H at hS ⊢
  generalize locs1 = locs at hS ⊢
  have hP : va_P (dC, dI) vwCl [] H := fun k q h => by simp at h
  have hD : va_D A [] := ⟨fun i j p q h => by simp at h, fun k q h => by simp at h⟩
  refine lv_astore (lv' := [(5, .ref q9), (0, .ref h0), (1, .int p1), (2, .int p2), (3, .int p3), (4, .ref p4)]) hx hb dL_dog_15 hl (by decide) rfl (fun ls hl => ?_)
  refine lv_iconst (v := 1) hx hb dL_dog_17 (by decide) ?_
  refine vx_ret ?_
  exact W.iret (v := 1) hx hb hr (fun t ht hW => ⟨⟨1, (), rfl, rfl, trivial⟩, hS.F ht⟩) hS.2.2 dL_dog_18

set_option maxRecDepth 20000 in
theorem ggL_hitch_X6_hitch : GoodIn wsL_hitch wsX6_hitch := goodIn_ca (goodIn_ca (goodIn_ca (goodIn_r _ [6, 7, 8, 9, 10, 11, 12, 13, 14, 15, 16, 17, 5, 18, 19, 20, 21, 22, 23, 24, 25, 26, 27, 28, 29, 30, 31, 32, 33, 34, 35, 36, 37, 38, 39, 40, 41, 42, 43, 44, 45, 46, 47, 48, 49, 50, 51, 52, 53, 54, 55, 56, 57, 58, 59, 60, 61, 62, 63, 64, 65, 66, 67, 68, 69, 70, 71, 72, 73, 74, 75, 76, 77, 78, 79, 80, 81, 82, 83, 84, 85, 86, 87, 88, 89, 90, 91, 92, 93, 94, 95] (by decide +kernel) (by decide +kernel)) (goodIn_sub (fun _ h => List.mem_cons_of_mem _ (List.mem_append_left _ (List.mem_append_left _ (List.mem_append_right _ h)))) (by decide +kernel))) (goodIn_sub (fun _ h => List.mem_cons_of_mem _ (List.mem_append_left _ (List.mem_append_right _ h))) (by decide +kernel))) (goodIn_sub (fun _ h => List.mem_cons_of_mem _ (List.mem_append_right _ h)) (by decide +kernel))
set_option maxRecDepth 20000 in
theorem gL_hitch_X6_hitch : GoodIn wsL_hitch (wsV RL 43 RX6 yX6_hitch wsX6_hitch) := goodIn_app (goodIn_of _ (by decide +kernel)) ggL_hitch_X6_hitch
theorem dL_hitch_0 : decode cL_hitch 0 = .ok (.aload_n 3, 1) := by decide +kernel
theorem dL_hitch_1 : decode cL_hitch 1 = .ok (.iconst 0, 1) := by decide +kernel
theorem dL_hitch_2 : decode cL_hitch 2 = .ok (.aload_n 0, 1) := by decide +kernel
theorem dL_hitch_3 : decode cL_hitch 3 = .ok (.iload_n 1, 1) := by decide +kernel
theorem dL_hitch_4 : decode cL_hitch 4 = .ok (.iload_n 2, 1) := by decide +kernel
theorem dL_hitch_5 : decode cL_hitch 5 = .ok (.invokevirtual 43, 3) := by decide +kernel
theorem dL_hitch_13 : decode cL_hitch 13 = .ok (.astore 4, 2) := by decide +kernel
theorem dL_hitch_15 : decode cL_hitch 15 = .ok (.iconst 1, 1) := by decide +kernel
theorem dL_hitch_16 : decode cL_hitch 16 = .ok (.ireturn, 1) := by decide +kernel
set_option maxHeartbeats 4000000 in
set_option maxRecDepth 100000 in
theorem c_L_hitch (l : Launch) (htr : l.stackTraces = false) (dC : Nat → ClassId) (dI : Nat → Nat → Nat) (e0 sz : Nat) (h0 : Nat) (a : Nat → Nat) (p1 : Int32) (p2 : Int32) (p3 : Nat) : vx_Met l yL_hitch wsL_hitch ({ frames := 8, cells := 1, slots := 6, locals := 135 }) (va_Pc [.ref h0, .int p1, .int p2, .ref p3] (fun U => U.heap.size = sz ∧ va_P (dC, dI) vwCl [(h0, .inr (11, zC a))] U.heap ∧ va_K (dC, dI) vwCl [] U ∧ va_D (fun _ => True) [(h0, .inr (11, zC a))] ∧ zE e0 (va_A [(h0, .inr (11, zC a))] sz) U U.heap)) (va_Qi (fun (r : Int32) (_ : Unit) => r = 1) (fun _ t => True) (va_A [(h0, .inr (11, zC a))] sz)) (fun _ _ _ => False) 1 6 (va_A [(h0, .inr (11, zC a))] sz) := by
  refine vx_ofWH (cc := cL_hitch) (maxL := 5) (ret := (some .int)) (hh := [(0, 10, 13, 23), (0, 10, 17, 15), (0, 10, 21, 17)]) (by decide) rfl ?_
  intro p e s m args below meth c s₁ B hml hv
  obtain ⟨rfl, hsz, hP, hK, hD0, hE⟩ := hv
  have hx := B.exec
  have hb := B.bytes
  have hr := B.returns
  have hts := atoms_spec (ws := wsL_hitch) B.pre
  have hown : s.vm.findClass RL = some m.cls := findClass_of_methodNamed B.named
  have hlocks := B.notSynchronized
  subst hsz
  have hD := hD0.self (sz := s.heap.size)
  generalize hAe : va_A [(h0, .inr (11, zC a))] s.heap.size = A at hD hE ⊢
  have hA : ∀ q : Nat, s.heap.size ≤ q → A q := fun q h => by rw [← hAe]; exact Or.inr h
  have hS : va_S A s.heap s.heap [] := va_S.rf
  have htb := vx_table (x := yL_hitch) B (hts _ List.mem_cons_self)
  have hl := lv_entry ([.ref h0, .int p1, .int p2, .ref p3]) (n := 5) (Nat.le_of_ble_eq_true rfl)
  rw [lg_entry_eq]
  generalize (lg_sl ([.ref h0, .int p1, .int p2, .ref p3]) ++ List.replicate (5 - (lg_sl ([.ref h0, .int p1, .int p2, .ref p3])).length) Slot.unset).toArray = ls at hl ⊢
  have hl : lv_has ls 5 [(0, .ref h0), (1, .int p1), (2, .int p2), (3, .ref p3)] := hl
  refine lv_aload_n hx hb dL_hitch_0 rfl (lv_at hl 3 rfl) ?_
  refine lv_iconst (v := 0) hx hb dL_hitch_1 (by decide) ?_
  refine lv_aload_n hx hb dL_hitch_2 rfl (lv_at hl 0 rfl) ?_
  refine lv_iload_n hx hb dL_hitch_3 rfl (lv_at hl 1 rfl) ?_
  refine lv_iload_n hx hb dL_hitch_4 rfl (lv_at hl 2 rfl) ?_
  have hPc := hP.sub (ws' := [(h0, .inr (11, zC a))]) [0] rfl
  have hDc := hD.sub (ws' := [(h0, .inr (11, zC a))]) [0] (by decide) rfl
  have hKc := hK.sub (tys' := []) [] rfl
  have hFc := va_free (wc := [(h0, .inr (11, zC a))]) hD hS hA [0] rfl
  have hEc := (hE.kept hS.2.1).narrow hFc
  refine vx_calli (vx_runV (As := [.int p1, .int p2]) (rest := [.int 0, .ref p3]) ⟨hx, hb, hml, hown, hts⟩ (c_X6_hitch l htr dC dI e0 s.heap.size h0 a p1 p2) (cwV 2 hts gL_hitch_X6_hitch rfl rfl rfl (by decide +kernel) ⟨Nat.le_of_ble_eq_true rfl, Nat.le_of_ble_eq_true rfl⟩) ⟨fun a U g mk q => by obtain ⟨q0, q1, qP, qK, qD, qE⟩ := q; exact ⟨q0, q1, qP, va_K.moved (u := U) (U := U.calling g mk a) (Vm.Alike.refl U.vm) qK, qD, zE.same rfl qE⟩, va_recv hKc hPc (ci := 11) (q0 := 0) rfl rfl, fun U hU hW => ⟨rfl, by rw [hU], by rw [hU]; exact hPc, va_K.moved hW.alike hKc, hDc.weaken (fun _ _ _ _ => trivial), by rw [hU]; exact zE.warm hW hEc⟩⟩ rfl rfl hl.1 rfl (lv_room (Nat.le_of_ble_eq_true rfl)) dL_hitch_5 ⟨Nat.le_of_ble_eq_true rfl, Nat.le_of_ble_eq_true rfl⟩) hS (fun q _ h => hFc q h) hFc (fun q _ h => hFc q h) (fun E ce q9 u t H1 locs1 ht hvm hpx hBX hz1 hk1 hS hce hcv hcl => ?_) (fun r u t H1 locs1 ht hvm hw hB hz1 hk1 hS => absurd hw id)
  obtain rfl : E = zI := hBX
  refine vx_catch hown [] ⟨0, 10, 13, 23⟩ _ (by rw [htb]; rfl) (fun z hz => nomatch hz) (by decide) (by decide) (hts (.classLink RL 23 zI) (by decide +kernel)) (va_Nw.use rfl (zV_C_zI hE.v)) hce hcv hcl ?_
  generalize H1 = H at hS ⊢
  generalize locs1 = locs at hS ⊢
  have hP : va_P (dC, dI) vwCl [] H := fun k q h => by simp at h
  have hD : va_D A [] := ⟨fun i j p q h => by simp at h, fun k q h => by simp at h⟩
  refine lv_astore (lv' := [(4, .ref q9), (0, .ref h0), (1, .int p1), (2, .int p2), (3, .ref p3)]) hx hb dL_hitch_13 hl (by decide) rfl (fun ls hl => ?_)
  refine lv_iconst (v := 1) hx hb dL_hitch_15 (by decide) ?_
  refine vx_ret ?_
  exact W.iret (v := 1) hx hb hr (fun t ht hW => ⟨⟨1, (), rfl, rfl, trivial⟩, hS.F ht⟩) hS.2.2 dL_hitch_16
