set_option maxRecDepth 20000 in
theorem ggL_law_L_litter : GoodIn wsL_law wsL_litter := goodIn_ca (goodIn_ca (goodIn_ca (goodIn_ca (goodIn_ca (goodIn_r _ [1447, 283, 1448, 1449, 1450, 2, 1451, 125, 126, 19, 1431, 404, 1261, 566, 243, 244, 245, 1262, 18, 34, 35, 1430, 1452, 1453, 451, 452, 453, 454, 293, 294, 1454, 1455, 1456, 479, 455, 456, 457, 458, 78, 459, 460, 461, 462, 134, 135, 136, 137, 138, 139, 140, 141, 142, 143, 1457, 1458, 1459, 1460, 1461, 1462, 1463, 1464, 72, 73, 1465, 1466, 1467, 68, 69, 70, 71, 12, 13, 74, 75, 76, 77, 79, 80, 81, 82, 83, 409, 410, 411, 412, 1551, 1552, 1553, 1554, 1555, 1556, 1557, 1558, 1559, 1560, 1561, 1562, 1563, 1564, 1565, 1566, 1598, 1599, 1600, 1601, 1602, 1603, 1604, 1605, 1606, 1607, 1608, 1609, 1610, 1611] (by decide +kernel) (by decide +kernel)) (goodIn_sub (fun _ h => List.mem_append_left _ (List.mem_append_left _ (List.mem_append_left _ (List.mem_append_left _ (List.mem_append_left _ (List.mem_append_left _ (List.mem_append_left _ (List.mem_append_right _ h)))))))) (by decide +kernel))) (goodIn_sub (fun _ h => List.mem_append_left _ (List.mem_append_left _ (List.mem_append_left _ (List.mem_append_left _ (List.mem_append_left _ (List.mem_append_left _ (List.mem_append_right _ h))))))) (by decide +kernel))) (goodIn_sub (fun _ h => List.mem_append_left _ (List.mem_append_left _ (List.mem_append_left _ (List.mem_append_right _ h)))) (by decide +kernel))) (goodIn_sub (fun _ h => List.mem_append_left _ (List.mem_append_left _ (List.mem_append_left _ (List.mem_append_left _ (List.mem_append_left _ (List.mem_append_right _ h)))))) (by decide +kernel))) (goodIn_sub (fun _ h => List.mem_append_left _ (List.mem_append_left _ (List.mem_append_left _ (List.mem_append_left _ (List.mem_append_right _ h))))) (by decide +kernel))
set_option maxRecDepth 20000 in
theorem gL_law_L_litter : GoodIn wsL_law (va_wsS RL 313 yL_litter wsL_litter) := goodIn_app (goodIn_of _ (by decide +kernel)) ggL_law_L_litter
set_option maxRecDepth 20000 in
theorem ggL_law_X10_litter : GoodIn wsL_law wsX10_litter := goodIn_r _ [1471, 94, 467, 1437, 687, 243, 244, 245, 417, 418, 419, 468, 469, 470, 5, 471, 207, 208, 209, 90, 210, 211, 163, 164, 165, 302, 303, 304, 305, 306, 307, 308, 309, 310, 311, 312, 313, 314, 315, 316, 317, 99, 1472, 1473, 1474, 212, 213, 214, 215, 216, 1475, 1476, 1477, 424, 425, 426, 427, 12, 13, 428, 429, 430, 431, 432, 433, 434, 435, 436, 437, 438, 439, 440, 441, 225, 226, 227, 228, 229, 185, 230, 231, 232, 233, 234, 235, 236, 237, 238, 239, 240, 241, 98, 242, 246, 247, 248, 249, 250, 251, 252, 253, 254, 255, 256, 257, 258, 259, 260, 261, 262, 263, 264, 265, 266, 267, 268, 269, 270, 271, 272, 273, 274, 275, 1567, 1568, 1569, 1570, 1571, 1572, 1573, 1574, 1575, 1576, 1577, 1660, 1661, 1662, 1663, 1664, 1665, 1666, 1667, 1668, 1669, 1670, 1671, 1672, 1673, 1674, 1675, 1676, 1612, 1613, 1614] (by decide +kernel) (by decide +kernel)
set_option maxRecDepth 20000 in
theorem gL_law_X10_litter : GoodIn wsL_law (wsV RL 315 RX10 yX10_litter wsX10_litter) := goodIn_app (goodIn_of _ (by decide +kernel)) ggL_law_X10_litter
theorem dL_law_2904 : decode cL_law 2904 = .ok (.aload_n 1, 1) := by decide +kernel
theorem dL_law_2905 : decode cL_law 2905 = .ok (.aload_n 0, 1) := by decide +kernel
theorem dL_law_2906 : decode cL_law 2906 = .ok (.iload 5, 2) := by decide +kernel
theorem dL_law_2908 : decode cL_law 2908 = .ok (.iconst 1, 1) := by decide +kernel
theorem dL_law_2909 : decode cL_law 2909 = .ok (.iadd, 1) := by decide +kernel
theorem dL_law_2910 : decode cL_law 2910 = .ok (.iaload, 1) := by decide +kernel
theorem dL_law_2911 : decode cL_law 2911 = .ok (.aload_n 0, 1) := by decide +kernel
theorem dL_law_2912 : decode cL_law 2912 = .ok (.iload 5, 2) := by decide +kernel
theorem dL_law_2914 : decode cL_law 2914 = .ok (.iconst 2, 1) := by decide +kernel
theorem dL_law_2915 : decode cL_law 2915 = .ok (.iadd, 1) := by decide +kernel
theorem dL_law_2916 : decode cL_law 2916 = .ok (.iaload, 1) := by decide +kernel
theorem dL_law_2917 : decode cL_law 2917 = .ok (.aload_n 3, 1) := by decide +kernel
theorem dL_law_2918 : decode cL_law 2918 = .ok (.invokestatic 313, 3) := by decide +kernel
theorem dL_law_2921 : decode cL_law 2921 = .ok (.istore 6, 2) := by decide +kernel
theorem dL_law_2923 : decode cL_law 2923 = .ok (.aload_n 2, 1) := by decide +kernel
theorem dL_law_2924 : decode cL_law 2924 = .ok (.aload_n 0, 1) := by decide +kernel
theorem dL_law_2925 : decode cL_law 2925 = .ok (.iload 5, 2) := by decide +kernel
theorem dL_law_2927 : decode cL_law 2927 = .ok (.iconst 1, 1) := by decide +kernel
theorem dL_law_2928 : decode cL_law 2928 = .ok (.iadd, 1) := by decide +kernel
theorem dL_law_2929 : decode cL_law 2929 = .ok (.iaload, 1) := by decide +kernel
theorem dL_law_2930 : decode cL_law 2930 = .ok (.aload_n 0, 1) := by decide +kernel
theorem dL_law_2931 : decode cL_law 2931 = .ok (.iload 5, 2) := by decide +kernel
theorem dL_law_2933 : decode cL_law 2933 = .ok (.iconst 2, 1) := by decide +kernel
theorem dL_law_2934 : decode cL_law 2934 = .ok (.iadd, 1) := by decide +kernel
theorem dL_law_2935 : decode cL_law 2935 = .ok (.iaload, 1) := by decide +kernel
theorem dL_law_2936 : decode cL_law 2936 = .ok (.invokevirtual 315, 3) := by decide +kernel
theorem dL_law_2939 : decode cL_law 2939 = .ok (.istore 7, 2) := by decide +kernel
theorem dL_law_2941 : decode cL_law 2941 = .ok (.aload_n 2, 1) := by decide +kernel
theorem dL_law_2942 : decode cL_law 2942 = .ok (.invokevirtual 183, 3) := by decide +kernel
theorem dL_law_2945 : decode cL_law 2945 = .ok (.iload 6, 2) := by decide +kernel
theorem dL_law_2947 : decode cL_law 2947 = .ok (.if_icmp .eq 5, 3) := by decide +kernel
theorem dL_law_2952 : decode cL_law 2952 = .ok (.iload 6, 2) := by decide +kernel
theorem dL_law_2954 : decode cL_law 2954 = .ok (.ifCond .ne 15, 3) := by decide +kernel
theorem dL_law_2969 : decode cL_law 2969 = .ok (.goto 290, 3) := by decide +kernel
set_option maxHeartbeats 4000000 in
set_option maxRecDepth 100000 in
/-- litter, called on the two fresh objects -/
theorem zl_41 {p : Program} {l : Launch} {e : Env} {s : State} {m : MethodId} {below : List Frame} {meth : Method} {c : Code} {b : Nat} {xs : Nat → Int32} {A : Nat → Prop} (C0 : lw_At p s m meth c b 5 xs) (hA : ∀ q : Nat, s.heap.size ≤ q → A q) (hA2 : ∀ q : Nat, A q → s.heap.size ≤ q) (htr : l.stackTraces = false) (dC : Nat → ClassId) (dI : Nat → Nat → Nat) (e0 h0 g0 o od : Nat) (a bb : Nat → Nat) (cL cT cO cD : ClassId) (hE : zE e0 A s s.heap) (H : Heap) (locs : List Loc) (ls : Array Slot) (hK : va_K (dC, dI) vwCl [(cL, (.object RX1)), (cT, (.object RX5)), (cO, .long), (cD, .double)] s) (hP : va_P (dC, dI) vwCl [(h0, .inr (11, zC a)), ((a 0), .inl (cL, 10, .inr (.inr (.inr (.inr (fun _ => none)))))), ((a 3), .inl (cT, 6, .inr (.inr (.inr (.inr (fun _ => none)))))), (g0, .inr (15, zM 0 bb)), ((bb 0), .inr (4, [.int 0, .ref e0, .int 0])), ((bb 1), .inr (4, [.int 0, .ref e0, .int 0])), ((bb 2), .inr (4, [.int 0, .ref e0, .int 0])), ((bb 3), .inr (4, [.int 0, .ref e0, .int 0])), (o, .inl (cO, 1, .inr (.inl (fun _ => 0)))), (od, .inl (cD, 1, .inr (.inr (.inr (.inl (fun _ => 0))))))] H) (hD : va_D A [(h0, .inr (11, zC a)), ((a 0), .inl (cL, 10, .inr (.inr (.inr (.inr (fun _ => none)))))), ((a 3), .inl (cT, 6, .inr (.inr (.inr (.inr (fun _ => none)))))), (g0, .inr (15, zM 0 bb)), ((bb 0), .inr (4, [.int 0, .ref e0, .int 0])), ((bb 1), .inr (4, [.int 0, .ref e0, .int 0])), ((bb 2), .inr (4, [.int 0, .ref e0, .int 0])), ((bb 3), .inr (4, [.int 0, .ref e0, .int 0])), (o, .inl (cO, 1, .inr (.inl (fun _ => 0)))), (od, .inl (cD, 1, .inr (.inr (.inr (.inl (fun _ => 0))))))]) (hS : va_S A s.heap H locs) (hl : lv_has ls 9 [(0, .ref b), (1, .ref h0), (2, .ref g0), (3, .ref o), (4, .ref od), (5, .int 0)]) : W p l e room_1 s m #[Value.ref b] below meth c H locs (86) (1094) (lw_Z below #[Value.ref b] s) (F0 m 2904 ls []) := by
  obtain ⟨hx, hb, hr, hml, hown, ht0, hX, hbl, hlocks, hgv⟩ := id C0
  have hts : ∀ w ∈ zwL_law, w.before #[Value.ref b] s = true := fun w h => ht0 w (zL_in w h)
  have hbA : ¬ A b := fun h => absurd hbl (Nat.not_lt.mpr (hA2 b h))
  refine lv_aload_n hx hb dL_law_2904 rfl (lv_at hl 1 rfl) ?_
  refine lv_aload_n hx hb dL_law_2905 rfl (lv_at hl 0 rfl) ?_
  refine lv_iload hx hb dL_law_2906 (lv_at hl 5 rfl) ?_
  refine lv_iconst (v := 1) hx hb dL_law_2908 (by decide) ?_
  refine lv_iadd hx hb dL_law_2909 ?_
  refine lv_topi (fun y1 e2 => ?_)
  obtain rfl : y1 = 1 := e2.trans (by decide)
  refine va_sld hx hb hX hbl hbA hS (by unfold vp_in; decide) dL_law_2910 ?_
  refine lv_aload_n hx hb dL_law_2911 rfl (lv_at hl 0 rfl) ?_
  refine lv_iload hx hb dL_law_2912 (lv_at hl 5 rfl) ?_
  refine lv_iconst (v := 2) hx hb dL_law_2914 (by decide) ?_
  refine lv_iadd hx hb dL_law_2915 ?_
  refine lv_topi (fun y3 e4 => ?_)
  obtain rfl : y3 = 2 := e4.trans (by decide)
  refine va_sld hx hb hX hbl hbA hS (by unfold vp_in; decide) dL_law_2916 ?_
  refine lv_aload_n hx hb dL_law_2917 rfl (lv_at hl 3 rfl) ?_
  have hPc := hP.sub (ws' := [(h0, .inr (11, zC a))]) [0] rfl
  have hDc := hD.sub (ws' := [(h0, .inr (11, zC a))]) [0] (by decide) rfl
  have hKc := hK.sub (tys' := []) [] rfl
  have hFc := va_free (wc := [(h0, .inr (11, zC a))]) hD hS hA [0] rfl
  have hEc := (hE.kept hS.2.1).narrow hFc
  refine vx_calli (vx_runSX (As := [.ref h0, .int (xs (1 : Int32).toNatClampNeg), .int (xs (2 : Int32).toNatClampNeg), .ref o]) (rest := []) ⟨hx, hb, hml, hown, hts⟩ (c_L_litter l htr dC dI H.size h0 a (xs (1 : Int32).toNatClampNeg) (xs (2 : Int32).toNatClampNeg) o) (vx_cwSW 4 hts gL_law_L_litter rfl rfl rfl (by decide +kernel) ⟨Nat.le_of_ble_eq_true rfl, Nat.le_of_ble_eq_true rfl⟩) ⟨fun a U g mk q => by obtain ⟨q0, q1, qP, qK, qD, qE⟩ := q; exact ⟨q0, q1, qP, va_K.moved (u := U) (U := U.calling g mk a) (Vm.Alike.refl U.vm) qK, qD, zE.same rfl qE⟩, fun U hU hW => ⟨rfl, by rw [hU], by rw [hU]; exact hPc, va_K.moved hW.alike hKc, hDc.weaken (fun _ _ _ _ => trivial), by rw [hU]; exact zE.warm hW hEc⟩⟩ rfl rfl hl.1 rfl (lv_room (Nat.le_of_ble_eq_true rfl)) dL_law_2918 ⟨Nat.le_of_ble_eq_true rfl, Nat.le_of_ble_eq_true rfl⟩) hS (fun q _ h => hFc q h) hFc (fun q _ h => hFc q h) (fun E ce q9 u t H1 locs1 ht hvm hpx hBX hz1 hk1 hS hce hcv hcl => absurd hpx id) (fun r5 u t H1 locs ht hvm hw hB hz1 hk1 hS => ?_)
  have hP1 : va_P (dC, dI) vwCl [] H1 := fun k q h => by simp at h
  have hD1 : va_D (va_A [(h0, .inr (11, zC a))] H.size) [] := ⟨fun i j p q h => by simp at h, fun k q h => by simp at h⟩
  obtain ⟨hP, hD⟩ := va_join (wr := [((a 0), .inl (cL, 10, .inr (.inr (.inr (.inr (fun _ => none)))))), ((a 3), .inl (cT, 6, .inr (.inr (.inr (.inr (fun _ => none)))))), (g0, .inr (15, zM 0 bb)), ((bb 0), .inr (4, [.int 0, .ref e0, .int 0])), ((bb 1), .inr (4, [.int 0, .ref e0, .int 0])), ((bb 2), .inr (4, [.int 0, .ref e0, .int 0])), ((bb 3), .inr (4, [.int 0, .ref e0, .int 0])), (o, .inl (cO, 1, .inr (.inl (fun _ => 0)))), (od, .inl (cD, 1, .inr (.inr (.inr (.inl (fun _ => 0))))))]) (w1 := []) hP hD [0] [1, 2, 3, 4, 5, 6, 7, 8, 9] rfl rfl (by decide) (by decide) hk1 hFc hP1 hD1
  generalize H1 = H at hP hS ⊢
  have hP : va_P (dC, dI) vwCl [((a 0), .inl (cL, 10, .inr (.inr (.inr (.inr (fun _ => none)))))), ((a 3), .inl (cT, 6, .inr (.inr (.inr (.inr (fun _ => none)))))), (g0, .inr (15, zM 0 bb)), ((bb 0), .inr (4, [.int 0, .ref e0, .int 0])), ((bb 1), .inr (4, [.int 0, .ref e0, .int 0])), ((bb 2), .inr (4, [.int 0, .ref e0, .int 0])), ((bb 3), .inr (4, [.int 0, .ref e0, .int 0])), (o, .inl (cO, 1, .inr (.inl (fun _ => 0)))), (od, .inl (cD, 1, .inr (.inr (.inr (.inl (fun _ => 0))))))] H := hP
  have hD : va_D A [((a 0), .inl (cL, 10, .inr (.inr (.inr (.inr (fun _ => none)))))), ((a 3), .inl (cT, 6, .inr (.inr (.inr (.inr (fun _ => none)))))), (g0, .inr (15, zM 0 bb)), ((bb 0), .inr (4, [.int 0, .ref e0, .int 0])), ((bb 1), .inr (4, [.int 0, .ref e0, .int 0])), ((bb 2), .inr (4, [.int 0, .ref e0, .int 0])), ((bb 3), .inr (4, [.int 0, .ref e0, .int 0])), (o, .inl (cO, 1, .inr (.inl (fun _ => 0)))), (od, .inl (cD, 1, .inr (.inr (.inr (.inl (fun _ => 0))))))] := hD
  obtain rfl : r5 = 1 := hw
  refine lv_istore (lv' := [(6, .int 1), (0, .ref b), (1, .ref h0), (2, .ref g0), (3, .ref o), (4, .ref od), (5, .int 0)]) hx hb dL_law_2921 hl (by decide) rfl (fun ls hl => ?_)
  refine lv_aload_n hx hb dL_law_2923 rfl (lv_at hl 3 rfl) ?_
  refine lv_aload_n hx hb dL_law_2924 rfl (lv_at hl 1 rfl) ?_
  refine lv_iload hx hb dL_law_2925 (lv_at hl 6 rfl) ?_
  refine lv_iconst (v := 1) hx hb dL_law_2927 (by decide) ?_
  refine lv_iadd hx hb dL_law_2928 ?_
  refine lv_topi (fun y6 e7 => ?_)
  obtain rfl : y6 = 1 := e7.trans (by decide)
  refine va_sld hx hb hX hbl hbA hS (by unfold vp_in; decide) dL_law_2929 ?_
  refine lv_aload_n hx hb dL_law_2930 rfl (lv_at hl 1 rfl) ?_
  refine lv_iload hx hb dL_law_2931 (lv_at hl 6 rfl) ?_
  refine lv_iconst (v := 2) hx hb dL_law_2933 (by decide) ?_
  refine lv_iadd hx hb dL_law_2934 ?_
  refine lv_topi (fun y8 e9 => ?_)
  obtain rfl : y8 = 2 := e9.trans (by decide)
  refine va_sld hx hb hX hbl hbA hS (by unfold vp_in; decide) dL_law_2935 ?_
  have hPc := hP.sub (ws' := [(g0, .inr (15, zM 0 bb)), ((bb 0), .inr (4, [.int 0, .ref e0, .int 0])), ((bb 1), .inr (4, [.int 0, .ref e0, .int 0])), ((bb 2), .inr (4, [.int 0, .ref e0, .int 0])), ((bb 3), .inr (4, [.int 0, .ref e0, .int 0]))]) [2, 3, 4, 5, 6] rfl
  have hDc := hD.sub (ws' := [(g0, .inr (15, zM 0 bb)), ((bb 0), .inr (4, [.int 0, .ref e0, .int 0])), ((bb 1), .inr (4, [.int 0, .ref e0, .int 0])), ((bb 2), .inr (4, [.int 0, .ref e0, .int 0])), ((bb 3), .inr (4, [.int 0, .ref e0, .int 0]))]) [2, 3, 4, 5, 6] (by decide) rfl
  have hKc := hK.sub (tys' := []) [] rfl
  have hFc := va_free (wc := [(g0, .inr (15, zM 0 bb)), ((bb 0), .inr (4, [.int 0, .ref e0, .int 0])), ((bb 1), .inr (4, [.int 0, .ref e0, .int 0])), ((bb 2), .inr (4, [.int 0, .ref e0, .int 0])), ((bb 3), .inr (4, [.int 0, .ref e0, .int 0]))]) hD hS hA [2, 3, 4, 5, 6] rfl
  have hEc := (hE.kept hS.2.1).narrow hFc
  refine va_calli (va_runV (As := [.int (xs (1 : Int32).toNatClampNeg), .int (xs (2 : Int32).toNatClampNeg)]) (rest := []) ⟨hx, hb, hml, hown, hts⟩ (c_X10_litter l htr dC dI H.size g0 0 bb (xs (1 : Int32).toNatClampNeg) (xs (2 : Int32).toNatClampNeg)) (cwV 2 hts gL_law_X10_litter rfl rfl rfl (by decide +kernel) ⟨Nat.le_of_ble_eq_true rfl, Nat.le_of_ble_eq_true rfl⟩) ⟨fun a U g mk q => by obtain ⟨q0, q1, qP, qK, qD, qE⟩ := q; exact ⟨q0, q1, qP, va_K.moved (u := U) (U := U.calling g mk a) (Vm.Alike.refl U.vm) qK, qD, zE.same rfl qE⟩, va_recv hKc hPc (ci := 15) (q0 := 0) rfl rfl, fun U hU hW => ⟨rfl, by rw [hU], by rw [hU]; exact hPc, va_K.moved hW.alike hKc, hDc.weaken (fun _ _ _ _ => trivial), by rw [hU]; exact zE.warm hW hEc⟩⟩ rfl rfl hl.1 rfl (lv_room (Nat.le_of_ble_eq_true rfl)) dL_law_2936 ⟨Nat.le_of_ble_eq_true rfl, Nat.le_of_ble_eq_true rfl⟩) hS (fun q _ h => hFc q h) hFc (fun r10 u t H1 locs ht hvm hw hB hz1 hk1 hS => ?_)
  obtain ⟨hP1, hK1, hD1⟩ := hB
  rw [ht] at hP1
  obtain ⟨hP, hD⟩ := va_join (wr := [((a 0), .inl (cL, 10, .inr (.inr (.inr (.inr (fun _ => none)))))), ((a 3), .inl (cT, 6, .inr (.inr (.inr (.inr (fun _ => none)))))), (o, .inl (cO, 1, .inr (.inl (fun _ => 0)))), (od, .inl (cD, 1, .inr (.inr (.inr (.inl (fun _ => 0))))))]) (w1 := [(g0, .inr (15, zM 1 bb))]) hP hD [2, 3, 4, 5, 6] [0, 1, 7, 8] rfl rfl (by decide) (by decide) hk1 hFc hP1 hD1
  generalize H1 = H at hP hS ⊢
  have hP : va_P (dC, dI) vwCl [((a 0), .inl (cL, 10, .inr (.inr (.inr (.inr (fun _ => none)))))), ((a 3), .inl (cT, 6, .inr (.inr (.inr (.inr (fun _ => none)))))), (o, .inl (cO, 1, .inr (.inl (fun _ => 0)))), (od, .inl (cD, 1, .inr (.inr (.inr (.inl (fun _ => 0)))))), (g0, .inr (15, zM 1 bb))] H := hP
  have hD : va_D A [((a 0), .inl (cL, 10, .inr (.inr (.inr (.inr (fun _ => none)))))), ((a 3), .inl (cT, 6, .inr (.inr (.inr (.inr (fun _ => none)))))), (o, .inl (cO, 1, .inr (.inl (fun _ => 0)))), (od, .inl (cD, 1, .inr (.inr (.inr (.inl (fun _ => 0)))))), (g0, .inr (15, zM 1 bb))] := hD
  obtain rfl : r10 = 0 := hw
  refine lv_istore (lv' := [(7, .int 0), (6, .int 1), (0, .ref b), (1, .ref h0), (2, .ref g0), (3, .ref o), (4, .ref od), (5, .int 0)]) hx hb dL_law_2939 hl (by decide) rfl (fun ls hl => ?_)
  refine lv_aload_n hx hb dL_law_2941 rfl (lv_at hl 4 rfl) ?_
  have hPc := hP.sub (ws' := [(g0, .inr (15, [.int 1, .ref (bb 0), .ref (bb 1), .ref (bb 2), .ref (bb 3), .int 0, .long 0, .int 0, .int 0, .int 0, .int 0]))]) [4] rfl
  have hDc := hD.sub (ws' := [(g0, .inr (15, [.int 1, .ref (bb 0), .ref (bb 1), .ref (bb 2), .ref (bb 3), .int 0, .long 0, .int 0, .int 0, .int 0, .int 0]))]) [4] (by decide) rfl
  have hKc := hK.sub (tys' := []) [] rfl
  have hFc := va_free (wc := [(g0, .inr (15, [.int 1, .ref (bb 0), .ref (bb 1), .ref (bb 2), .ref (bb 3), .int 0, .long 0, .int 0, .int 0, .int 0, .int 0]))]) hD hS hA [4] rfl
  refine va_calli (va_runV (As := []) (rest := []) ⟨hx, hb, hml, hown, hts⟩ (c_X10_thrown l htr dC dI H.size g0 1 (bb 0) (bb 1) (bb 2) (bb 3) 0 0 0 0 0 0) (cwV 0 hts gL_law_X10_thrown rfl rfl rfl (by decide +kernel) ⟨Nat.le_of_ble_eq_true rfl, Nat.le_of_ble_eq_true rfl⟩) ⟨fun a U g mk q => by obtain ⟨q0, q1, qP, qK, qD⟩ := q; exact ⟨q0, q1, qP, va_K.moved (u := U) (U := U.calling g mk a) (Vm.Alike.refl U.vm) qK, qD⟩, va_recv hKc hPc (ci := 15) (q0 := 0) rfl rfl, fun U hU hW => ⟨rfl, by rw [hU], by rw [hU]; exact hPc, va_K.moved hW.alike hKc, hDc.weaken (fun _ _ _ _ => trivial)⟩⟩ rfl rfl hl.1 rfl (lv_room (Nat.le_of_ble_eq_true rfl)) dL_law_2942 ⟨Nat.le_of_ble_eq_true rfl, Nat.le_of_ble_eq_true rfl⟩) hS (fun q _ h => hFc q h) hFc (fun r11 u t H1 locs ht hvm hw hB hz1 hk1 hS => ?_)
  obtain ⟨hP1, hK1, hD1⟩ := hB
  rw [ht] at hP1
  obtain ⟨hP, hD⟩ := va_join (wr := [((a 0), .inl (cL, 10, .inr (.inr (.inr (.inr (fun _ => none)))))), ((a 3), .inl (cT, 6, .inr (.inr (.inr (.inr (fun _ => none)))))), (o, .inl (cO, 1, .inr (.inl (fun _ => 0)))), (od, .inl (cD, 1, .inr (.inr (.inr (.inl (fun _ => 0))))))]) (w1 := [(g0, .inr (15, [.int 1, .ref (bb 0), .ref (bb 1), .ref (bb 2), .ref (bb 3), .int 0, .long 0, .int 0, .int 0, .int 0, .int 0]))]) hP hD [4] [0, 1, 2, 3] rfl rfl (by decide) (by decide) hk1 hFc hP1 hD1
  generalize H1 = H at hP hS ⊢
  have hP : va_P (dC, dI) vwCl [((a 0), .inl (cL, 10, .inr (.inr (.inr (.inr (fun _ => none)))))), ((a 3), .inl (cT, 6, .inr (.inr (.inr (.inr (fun _ => none)))))), (o, .inl (cO, 1, .inr (.inl (fun _ => 0)))), (od, .inl (cD, 1, .inr (.inr (.inr (.inl (fun _ => 0)))))), (g0, .inr (15, [.int 1, .ref (bb 0), .ref (bb 1), .ref (bb 2), .ref (bb 3), .int 0, .long 0, .int 0, .int 0, .int 0, .int 0]))] H := hP
  have hD : va_D A [((a 0), .inl (cL, 10, .inr (.inr (.inr (.inr (fun _ => none)))))), ((a 3), .inl (cT, 6, .inr (.inr (.inr (.inr (fun _ => none)))))), (o, .inl (cO, 1, .inr (.inl (fun _ => 0)))), (od, .inl (cD, 1, .inr (.inr (.inr (.inl (fun _ => 0)))))), (g0, .inr (15, [.int 1, .ref (bb 0), .ref (bb 1), .ref (bb 2), .ref (bb 3), .int 0, .long 0, .int 0, .int 0, .int 0, .int 0]))] := hD
  obtain rfl : r11 = 1 := hw
  refine lv_iload hx hb dL_law_2945 (lv_at hl 1 rfl) ?_
  refine lv_icmp_eq (tgt := 2952) hx hb dL_law_2947 (by decide) (fun _ => ?_) (fun c12 => absurd (by decide) c12)
  refine lv_iload hx hb dL_law_2952 (lv_at hl 1 rfl) ?_
  refine lv_if_ne (tgt := 2969) hx hb dL_law_2954 (by decide) (fun _ => ?_) (fun c13 => absurd c13 (by decide))
  refine lv_goto (tgt := 3259) hx hb dL_law_2969 (by decide) ?_
  exact zl_end C0 hA2 (Nat.le_of_ble_eq_true rfl) (Nat.le_of_ble_eq_true rfl) hS (lv_sub hl [7, 2] rfl)
set_option maxRecDepth 20000 in
theorem ggL_law_L_areKin : GoodIn wsL_law wsL_areKin := goodIn_ca (goodIn_ca (goodIn_r _ [1480, 283, 1481, 1482, 1483, 2, 1484, 451, 452, 453, 454, 293, 294, 404, 1457, 1458, 1459, 1460, 19, 1452, 1453, 1461, 1462, 1463, 35, 1464, 72, 73, 1551, 1552, 1553, 1554, 1555, 1556, 1557, 1558, 1559, 1560, 1561, 1562, 1563, 1564, 1565, 1566, 1598, 1599, 1600, 1601, 1602, 1603, 1604, 1605, 1606, 1607, 1608, 1609, 1610, 1611] (by decide +kernel) (by decide +kernel)) (goodIn_sub (fun _ h => List.mem_append_left _ (List.mem_append_left _ (List.mem_append_left _ (List.mem_append_left _ (List.mem_append_left _ (List.mem_append_left _ (List.mem_append_left _ (List.mem_append_right _ h)))))))) (by decide +kernel))) (goodIn_sub (fun _ h => List.mem_append_left _ (List.mem_append_left _ (List.mem_append_left _ (List.mem_append_right _ h)))) (by decide +kernel))
set_option maxRecDepth 20000 in
theorem gL_law_L_areKin : GoodIn wsL_law (va_wsS RL 316 yL_areKin wsL_areKin) := goodIn_app (goodIn_of _ (by decide +kernel)) ggL_law_L_areKin
set_option maxRecDepth 20000 in
theorem ggL_law_X10_areKin_ : GoodIn wsL_law wsX10_areKin_ := goodIn_r _ [1488, 94, 467, 468, 469, 470, 5, 471, 207, 208, 209, 90, 210, 211, 163, 164, 165, 212, 213, 214, 215, 216, 302, 303, 304, 305, 306, 307, 308, 309, 310, 311, 312, 313, 314, 315, 316, 317, 99, 1475, 1476, 1477, 1567, 1568, 1569, 1570, 1571, 1572, 1573, 1574, 1575, 1576, 1577, 1612, 1613, 1614, 1660, 1661, 1662, 1663, 1664, 1665, 1666, 1667, 1668, 1669, 1670, 1671, 1672, 1673, 1674, 1675, 1676] (by decide +kernel) (by decide +kernel)
set_option maxRecDepth 20000 in
theorem gL_law_X10_areKin_ : GoodIn wsL_law (wsV RL 318 RX10 yX10_areKin_ wsX10_areKin_) := goodIn_app (goodIn_of _ (by decide +kernel)) ggL_law_X10_areKin_
theorem dL_law_2972 : decode cL_law 2972 = .ok (.aload_n 1, 1) := by decide +kernel
theorem dL_law_2973 : decode cL_law 2973 = .ok (.aload_n 0, 1) := by decide +kernel
theorem dL_law_2974 : decode cL_law 2974 = .ok (.iload 5, 2) := by decide +kernel
theorem dL_law_2976 : decode cL_law 2976 = .ok (.iconst 1, 1) := by decide +kernel
theorem dL_law_2977 : decode cL_law 2977 = .ok (.iadd, 1) := by decide +kernel
theorem dL_law_2978 : decode cL_law 2978 = .ok (.iaload, 1) := by decide +kernel
theorem dL_law_2979 : decode cL_law 2979 = .ok (.aload_n 0, 1) := by decide +kernel
theorem dL_law_2980 : decode cL_law 2980 = .ok (.iload 5, 2) := by decide +kernel
theorem dL_law_2982 : decode cL_law 2982 = .ok (.iconst 2, 1) := by decide +kernel
theorem dL_law_2983 : decode cL_law 2983 = .ok (.iadd, 1) := by decide +kernel
theorem dL_law_2984 : decode cL_law 2984 = .ok (.iaload, 1) := by decide +kernel
theorem dL_law_2985 : decode cL_law 2985 = .ok (.aload_n 3, 1) := by decide +kernel
theorem dL_law_2986 : decode cL_law 2986 = .ok (.invokestatic 316, 3) := by decide +kernel
theorem dL_law_2989 : decode cL_law 2989 = .ok (.istore 6, 2) := by decide +kernel
theorem dL_law_2991 : decode cL_law 2991 = .ok (.aload_n 2, 1) := by decide +kernel
theorem dL_law_2992 : decode cL_law 2992 = .ok (.aload_n 0, 1) := by decide +kernel
theorem dL_law_2993 : decode cL_law 2993 = .ok (.iload 5, 2) := by decide +kernel
theorem dL_law_2995 : decode cL_law 2995 = .ok (.iconst 1, 1) := by decide +kernel
theorem dL_law_2996 : decode cL_law 2996 = .ok (.iadd, 1) := by decide +kernel
theorem dL_law_2997 : decode cL_law 2997 = .ok (.iaload, 1) := by decide +kernel
theorem dL_law_2998 : decode cL_law 2998 = .ok (.aload_n 0, 1) := by decide +kernel
theorem dL_law_2999 : decode cL_law 2999 = .ok (.iload 5, 2) := by decide +kernel
theorem dL_law_3001 : decode cL_law 3001 = .ok (.iconst 2, 1) := by decide +kernel
theorem dL_law_3002 : decode cL_law 3002 = .ok (.iadd, 1) := by decide +kernel
theorem dL_law_3003 : decode cL_law 3003 = .ok (.iaload, 1) := by decide +kernel
theorem dL_law_3004 : decode cL_law 3004 = .ok (.invokevirtual 318, 3) := by decide +kernel
theorem dL_law_3007 : decode cL_law 3007 = .ok (.istore 7, 2) := by decide +kernel
theorem dL_law_3009 : decode cL_law 3009 = .ok (.aload_n 2, 1) := by decide +kernel
theorem dL_law_3010 : decode cL_law 3010 = .ok (.invokevirtual 183, 3) := by decide +kernel
theorem dL_law_3013 : decode cL_law 3013 = .ok (.iload 6, 2) := by decide +kernel
theorem dL_law_3015 : decode cL_law 3015 = .ok (.if_icmp .eq 5, 3) := by decide +kernel
theorem dL_law_3020 : decode cL_law 3020 = .ok (.iload 6, 2) := by decide +kernel
theorem dL_law_3022 : decode cL_law 3022 = .ok (.ifCond .ne 22, 3) := by decide +kernel
theorem dL_law_3044 : decode cL_law 3044 = .ok (.goto 215, 3) := by decide +kernel
set_option maxHeartbeats 4000000 in
set_option maxRecDepth 100000 in
/-- areKin, called on the two fresh objects -/
theorem zl_42 {p : Program} {l : Launch} {e : Env} {s : State} {m : MethodId} {below : List Frame} {meth : Method} {c : Code} {b : Nat} {xs : Nat → Int32} {A : Nat → Prop} (C0 : lw_At p s m meth c b 5 xs) (hA : ∀ q : Nat, s.heap.size ≤ q → A q) (hA2 : ∀ q : Nat, A q → s.heap.size ≤ q) (htr : l.stackTraces = false) (dC : Nat → ClassId) (dI : Nat → Nat → Nat) (e0 h0 g0 o od : Nat) (a bb : Nat → Nat) (cL cT cO cD : ClassId) (hE : zE e0 A s s.heap) (H : Heap) (locs : List Loc) (ls : Array Slot) (hK : va_K (dC, dI) vwCl [(cL, (.object RX1)), (cT, (.object RX5)), (cO, .long), (cD, .double)] s) (hP : va_P (dC, dI) vwCl [(h0, .inr (11, zC a)), ((a 0), .inl (cL, 10, .inr (.inr (.inr (.inr (fun _ => none)))))), ((a 3), .inl (cT, 6, .inr (.inr (.inr (.inr (fun _ => none)))))), (g0, .inr (15, zM 0 bb)), ((bb 0), .inr (4, [.int 0, .ref e0, .int 0])), ((bb 1), .inr (4, [.int 0, .ref e0, .int 0])), ((bb 2), .inr (4, [.int 0, .ref e0, .int 0])), ((bb 3), .inr (4, [.int 0, .ref e0, .int 0])), (o, .inl (cO, 1, .inr (.inl (fun _ => 0)))), (od, .inl (cD, 1, .inr (.inr (.inr (.inl (fun _ => 0))))))] H) (hD : va_D A [(h0, .inr (11, zC a)), ((a 0), .inl (cL, 10, .inr (.inr (.inr (.inr (fun _ => none)))))), ((a 3), .inl (cT, 6, .inr (.inr (.inr (.inr (fun _ => none)))))), (g0, .inr (15, zM 0 bb)), ((bb 0), .inr (4, [.int 0, .ref e0, .int 0])), ((bb 1), .inr (4, [.int 0, .ref e0, .int 0])), ((bb 2), .inr (4, [.int 0, .ref e0, .int 0])), ((bb 3), .inr (4, [.int 0, .ref e0, .int 0])), (o, .inl (cO, 1, .inr (.inl (fun _ => 0)))), (od, .inl (cD, 1, .inr (.inr (.inr (.inl (fun _ => 0))))))]) (hS : va_S A s.heap H locs) (hl : lv_has ls 9 [(0, .ref b), (1, .ref h0), (2, .ref g0), (3, .ref o), (4, .ref od), (5, .int 0)]) : W p l e room_1 s m #[Value.ref b] below meth c H locs (86) (1094) (lw_Z below #[Value.ref b] s) (F0 m 2972 ls []) := by
  obtain ⟨hx, hb, hr, hml, hown, ht0, hX, hbl, hlocks, hgv⟩ := id C0
  have hts : ∀ w ∈ zwL_law, w.before #[Value.ref b] s = true := fun w h => ht0 w (zL_in w h)
  have hbA : ¬ A b := fun h => absurd hbl (Nat.not_lt.mpr (hA2 b h))
  refine lv_aload_n hx hb dL_law_2972 rfl (lv_at hl 1 rfl) ?_
  refine lv_aload_n hx hb dL_law_2973 rfl (lv_at hl 0 rfl) ?_
  refine lv_iload hx hb dL_law_2974 (lv_at hl 5 rfl) ?_
  refine lv_iconst (v := 1) hx hb dL_law_2976 (by decide) ?_
  refine lv_iadd hx hb dL_law_2977 ?_
  refine lv_topi (fun y1 e2 => ?_)
  obtain rfl : y1 = 1 := e2.trans (by decide)
  refine va_sld hx hb hX hbl hbA hS (by unfold vp_in; decide) dL_law_2978 ?_
  refine lv_aload_n hx hb dL_law_2979 rfl (lv_at hl 0 rfl) ?_
  refine lv_iload hx hb dL_law_2980 (lv_at hl 5 rfl) ?_
  refine lv_iconst (v := 2) hx hb dL_law_2982 (by decide) ?_
  refine lv_iadd hx hb dL_law_2983 ?_
  refine lv_topi (fun y3 e4 => ?_)
  obtain rfl : y3 = 2 := e4.trans (by decide)
  refine va_sld hx hb hX hbl hbA hS (by unfold vp_in; decide) dL_law_2984 ?_
  refine lv_aload_n hx hb dL_law_2985 rfl (lv_at hl 3 rfl) ?_
  have hPc := hP.sub (ws' := [(h0, .inr (11, zC a))]) [0] rfl
  have hDc := hD.sub (ws' := [(h0, .inr (11, zC a))]) [0] (by decide) rfl
  have hKc := hK.sub (tys' := []) [] rfl
  have hFc := va_free (wc := [(h0, .inr (11, zC a))]) hD hS hA [0] rfl
  have hEc := (hE.kept hS.2.1).narrow hFc
  refine vx_calli (vx_runSX (As := [.ref h0, .int (xs (1 : Int32).toNatClampNeg), .int (xs (2 : Int32).toNatClampNeg), .ref o]) (rest := []) ⟨hx, hb, hml, hown, hts⟩ (c_L_areKin l htr dC dI H.size h0 a (xs (1 : Int32).toNatClampNeg) (xs (2 : Int32).toNatClampNeg) o) (vx_cwSW 4 hts gL_law_L_areKin rfl rfl rfl (by decide +kernel) ⟨Nat.le_of_ble_eq_true rfl, Nat.le_of_ble_eq_true rfl⟩) ⟨fun a U g mk q => by obtain ⟨q0, q1, qP, qK, qD, qE⟩ := q; exact ⟨q0, q1, qP, va_K.moved (u := U) (U := U.calling g mk a) (Vm.Alike.refl U.vm) qK, qD, zE.same rfl qE⟩, fun U hU hW => ⟨rfl, by rw [hU], by rw [hU]; exact hPc, va_K.moved hW.alike hKc, hDc.weaken (fun _ _ _ _ => trivial), by rw [hU]; exact zE.warm hW hEc⟩⟩ rfl rfl hl.1 rfl (lv_room (Nat.le_of_ble_eq_true rfl)) dL_law_2986 ⟨Nat.le_of_ble_eq_true rfl, Nat.le_of_ble_eq_true rfl⟩) hS (fun q _ h => hFc q h) hFc (fun q _ h => hFc q h) (fun E ce q9 u t H1 locs1 ht hvm hpx hBX hz1 hk1 hS hce hcv hcl => absurd hpx id) (fun r5 u t H1 locs ht hvm hw hB hz1 hk1 hS => ?_)
  have hP1 : va_P (dC, dI) vwCl [] H1 := fun k q h => by simp at h
  have hD1 : va_D (va_A [(h0, .inr (11, zC a))] H.size) [] := ⟨fun i j p q h => by simp at h, fun k q h => by simp at h⟩
  obtain ⟨hP, hD⟩ := va_join (wr := [((a 0), .inl (cL, 10, .inr (.inr (.inr (.inr (fun _ => none)))))), ((a 3), .inl (cT, 6, .inr (.inr (.inr (.inr (fun _ => none)))))), (g0, .inr (15, zM 0 bb)), ((bb 0), .inr (4, [.int 0, .ref e0, .int 0])), ((bb 1), .inr (4, [.int 0, .ref e0, .int 0])), ((bb 2), .inr (4, [.int 0, .ref e0, .int 0])), ((bb 3), .inr (4, [.int 0, .ref e0, .int 0])), (o, .inl (cO, 1, .inr (.inl (fun _ => 0)))), (od, .inl (cD, 1, .inr (.inr (.inr (.inl (fun _ => 0))))))]) (w1 := []) hP hD [0] [1, 2, 3, 4, 5, 6, 7, 8, 9] rfl rfl (by decide) (by decide) hk1 hFc hP1 hD1
  generalize H1 = H at hP hS ⊢
  have hP : va_P (dC, dI) vwCl [((a 0), .inl (cL, 10, .inr (.inr (.inr (.inr (fun _ => none)))))), ((a 3), .inl (cT, 6, .inr (.inr (.inr (.inr (fun _ => none)))))), (g0, .inr (15, zM 0 bb)), ((bb 0), .inr (4, [.int 0, .ref e0, .int 0])), ((bb 1), .inr (4, [.int 0, .ref e0, .int 0])), ((bb 2), .inr (4, [.int 0, .ref e0, .int 0])), ((bb 3), .inr (4, [.int 0, .ref e0, .int 0])), (o, .inl (cO, 1, .inr (.inl (fun _ => 0)))), (od, .inl (cD, 1, .inr (.inr (.inr (.inl (fun _ => 0))))))] H := hP
  have hD : va_D A [((a 0), .inl (cL, 10, .inr (.inr (.inr (.inr (fun _ => none)))))), ((a 3), .inl (cT, 6, .inr (.inr (.inr (.inr (fun _ => none)))))), (g0, .inr (15, zM 0 bb)), ((bb 0), .inr (4, [.int 0, .ref e0, .int 0])), ((bb 1), .inr (4, [.int 0, .ref e0, .int 0])), ((bb 2), .inr (4, [.int 0, .ref e0, .int 0])), ((bb 3), .inr (4, [.int 0, .ref e0, .int 0])), (o, .inl (cO, 1, .inr (.inl (fun _ => 0)))), (od, .inl (cD, 1, .inr (.inr (.inr (.inl (fun _ => 0))))))] := hD
  obtain rfl : r5 = 1 := hw
  refine lv_istore (lv' := [(6, .int 1), (0, .ref b), (1, .ref h0), (2, .ref g0), (3, .ref o), (4, .ref od), (5, .int 0)]) hx hb dL_law_2989 hl (by decide) rfl (fun ls hl => ?_)
  refine lv_aload_n hx hb dL_law_2991 rfl (lv_at hl 3 rfl) ?_
  refine lv_aload_n hx hb dL_law_2992 rfl (lv_at hl 1 rfl) ?_
  refine lv_iload hx hb dL_law_2993 (lv_at hl 6 rfl) ?_
  refine lv_iconst (v := 1) hx hb dL_law_2995 (by decide) ?_
  refine lv_iadd hx hb dL_law_2996 ?_
  refine lv_topi (fun y6 e7 => ?_)
  obtain rfl : y6 = 1 := e7.trans (by decide)
  refine va_sld hx hb hX hbl hbA hS (by unfold vp_in; decide) dL_law_2997 ?_
  refine lv_aload_n hx hb dL_law_2998 rfl (lv_at hl 1 rfl) ?_
  refine lv_iload hx hb dL_law_2999 (lv_at hl 6 rfl) ?_
  refine lv_iconst (v := 2) hx hb dL_law_3001 (by decide) ?_
  refine lv_iadd hx hb dL_law_3002 ?_
  refine lv_topi (fun y8 e9 => ?_)
  obtain rfl : y8 = 2 := e9.trans (by decide)
  refine va_sld hx hb hX hbl hbA hS (by unfold vp_in; decide) dL_law_3003 ?_
  have hPc := hP.sub (ws' := [(g0, .inr (15, zM 0 bb)), ((bb 0), .inr (4, [.int 0, .ref e0, .int 0])), ((bb 1), .inr (4, [.int 0, .ref e0, .int 0])), ((bb 2), .inr (4, [.int 0, .ref e0, .int 0])), ((bb 3), .inr (4, [.int 0, .ref e0, .int 0]))]) [2, 3, 4, 5, 6] rfl
  have hDc := hD.sub (ws' := [(g0, .inr (15, zM 0 bb)), ((bb 0), .inr (4, [.int 0, .ref e0, .int 0])), ((bb 1), .inr (4, [.int 0, .ref e0, .int 0])), ((bb 2), .inr (4, [.int 0, .ref e0, .int 0])), ((bb 3), .inr (4, [.int 0, .ref e0, .int 0]))]) [2, 3, 4, 5, 6] (by decide) rfl
  have hKc := hK.sub (tys' := []) [] rfl
  have hFc := va_free (wc := [(g0, .inr (15, zM 0 bb)), ((bb 0), .inr (4, [.int 0, .ref e0, .int 0])), ((bb 1), .inr (4, [.int 0, .ref e0, .int 0])), ((bb 2), .inr (4, [.int 0, .ref e0, .int 0])), ((bb 3), .inr (4, [.int 0, .ref e0, .int 0]))]) hD hS hA [2, 3, 4, 5, 6] rfl
  have hEc := (hE.kept hS.2.1).narrow hFc
  refine va_calli (va_runV (As := [.int (xs (1 : Int32).toNatClampNeg), .int (xs (2 : Int32).toNatClampNeg)]) (rest := []) ⟨hx, hb, hml, hown, hts⟩ (c_X10_areKin_ l htr dC dI H.size g0 0 bb (xs (1 : Int32).toNatClampNeg) (xs (2 : Int32).toNatClampNeg)) (cwV 2 hts gL_law_X10_areKin_ rfl rfl rfl (by decide +kernel) ⟨Nat.le_of_ble_eq_true rfl, Nat.le_of_ble_eq_true rfl⟩) ⟨fun a U g mk q => by obtain ⟨q0, q1, qP, qK, qD, qE⟩ := q; exact ⟨q0, q1, qP, va_K.moved (u := U) (U := U.calling g mk a) (Vm.Alike.refl U.vm) qK, qD, zE.same rfl qE⟩, va_recv hKc hPc (ci := 15) (q0 := 0) rfl rfl, fun U hU hW => ⟨rfl, by rw [hU], by rw [hU]; exact hPc, va_K.moved hW.alike hKc, hDc.weaken (fun _ _ _ _ => trivial), by rw [hU]; exact zE.warm hW hEc⟩⟩ rfl rfl hl.1 rfl (lv_room (Nat.le_of_ble_eq_true rfl)) dL_law_3004 ⟨Nat.le_of_ble_eq_true rfl, Nat.le_of_ble_eq_true rfl⟩) hS (fun q _ h => hFc q h) hFc (fun r10 u t H1 locs ht hvm hw hB hz1 hk1 hS => ?_)
  obtain ⟨hP1, hK1, hD1⟩ := hB
  rw [ht] at hP1
  obtain ⟨hP, hD⟩ := va_join (wr := [((a 0), .inl (cL, 10, .inr (.inr (.inr (.inr (fun _ => none)))))), ((a 3), .inl (cT, 6, .inr (.inr (.inr (.inr (fun _ => none)))))), (o, .inl (cO, 1, .inr (.inl (fun _ => 0)))), (od, .inl (cD, 1, .inr (.inr (.inr (.inl (fun _ => 0))))))]) (w1 := [(g0, .inr (15, zM 1 bb))]) hP hD [2, 3, 4, 5, 6] [0, 1, 7, 8] rfl rfl (by decide) (by decide) hk1 hFc hP1 hD1
  generalize H1 = H at hP hS ⊢
  have hP : va_P (dC, dI) vwCl [((a 0), .inl (cL, 10, .inr (.inr (.inr (.inr (fun _ => none)))))), ((a 3), .inl (cT, 6, .inr (.inr (.inr (.inr (fun _ => none)))))), (o, .inl (cO, 1, .inr (.inl (fun _ => 0)))), (od, .inl (cD, 1, .inr (.inr (.inr (.inl (fun _ => 0)))))), (g0, .inr (15, zM 1 bb))] H := hP
  have hD : va_D A [((a 0), .inl (cL, 10, .inr (.inr (.inr (.inr (fun _ => none)))))), ((a 3), .inl (cT, 6, .inr (.inr (.inr (.inr (fun _ => none)))))), (o, .inl (cO, 1, .inr (.inl (fun _ => 0)))), (od, .inl (cD, 1, .inr (.inr (.inr (.inl (fun _ => 0)))))), (g0, .inr (15, zM 1 bb))] := hD
  obtain rfl : r10 = 0 := hw
  refine lv_istore (lv' := [(7, .int 0), (6, .int 1), (0, .ref b), (1, .ref h0), (2, .ref g0), (3, .ref o), (4, .ref od), (5, .int 0)]) hx hb dL_law_3007 hl (by decide) rfl (fun ls hl => ?_)
  refine lv_aload_n hx hb dL_law_3009 rfl (lv_at hl 4 rfl) ?_
  have hPc := hP.sub (ws' := [(g0, .inr (15, [.int 1, .ref (bb 0), .ref (bb 1), .ref (bb 2), .ref (bb 3), .int 0, .long 0, .int 0, .int 0, .int 0, .int 0]))]) [4] rfl
  have hDc := hD.sub (ws' := [(g0, .inr (15, [.int 1, .ref (bb 0), .ref (bb 1), .ref (bb 2), .ref (bb 3), .int 0, .long 0, .int 0, .int 0, .int 0, .int 0]))]) [4] (by decide) rfl
  have hKc := hK.sub (tys' := []) [] rfl
  have hFc := va_free (wc := [(g0, .inr (15, [.int 1, .ref (bb 0), .ref (bb 1), .ref (bb 2), .ref (bb 3), .int 0, .long 0, .int 0, .int 0, .int 0, .int 0]))]) hD hS hA [4] rfl
  refine va_calli (va_runV (As := []) (rest := []) ⟨hx, hb, hml, hown, hts⟩ (c_X10_thrown l htr dC dI H.size g0 1 (bb 0) (bb 1) (bb 2) (bb 3) 0 0 0 0 0 0) (cwV 0 hts gL_law_X10_thrown rfl rfl rfl (by decide +kernel) ⟨Nat.le_of_ble_eq_true rfl, Nat.le_of_ble_eq_true rfl⟩) ⟨fun a U g mk q => by obtain ⟨q0, q1, qP, qK, qD⟩ := q; exact ⟨q0, q1, qP, va_K.moved (u := U) (U := U.calling g mk a) (Vm.Alike.refl U.vm) qK, qD⟩, va_recv hKc hPc (ci := 15) (q0 := 0) rfl rfl, fun U hU hW => ⟨rfl, by rw [hU], by rw [hU]; exact hPc, va_K.moved hW.alike hKc, hDc.weaken (fun _ _ _ _ => trivial)⟩⟩ rfl rfl hl.1 rfl (lv_room (Nat.le_of_ble_eq_true rfl)) dL_law_3010 ⟨Nat.le_of_ble_eq_true rfl, Nat.le_of_ble_eq_true rfl⟩) hS (fun q _ h => hFc q h) hFc (fun r11 u t H1 locs ht hvm hw hB hz1 hk1 hS => ?_)
  obtain ⟨hP1, hK1, hD1⟩ := hB
  rw [ht] at hP1
  obtain ⟨hP, hD⟩ := va_join (wr := [((a 0), .inl (cL, 10, .inr (.inr (.inr (.inr (fun _ => none)))))), ((a 3), .inl (cT, 6, .inr (.inr (.inr (.inr (fun _ => none)))))), (o, .inl (cO, 1, .inr (.inl (fun _ => 0)))), (od, .inl (cD, 1, .inr (.inr (.inr (.inl (fun _ => 0))))))]) (w1 := [(g0, .inr (15, [.int 1, .ref (bb 0), .ref (bb 1), .ref (bb 2), .ref (bb 3), .int 0, .long 0, .int 0, .int 0, .int 0, .int 0]))]) hP hD [4] [0, 1, 2, 3] rfl rfl (by decide) (by decide) hk1 hFc hP1 hD1
  generalize H1 = H at hP hS ⊢
  have hP : va_P (dC, dI) vwCl [((a 0), .inl (cL, 10, .inr (.inr (.inr (.inr (fun _ => none)))))), ((a 3), .inl (cT, 6, .inr (.inr (.inr (.inr (fun _ => none)))))), (o, .inl (cO, 1, .inr (.inl (fun _ => 0)))), (od, .inl (cD, 1, .inr (.inr (.inr (.inl (fun _ => 0)))))), (g0, .inr (15, [.int 1, .ref (bb 0), .ref (bb 1), .ref (bb 2), .ref (bb 3), .int 0, .long 0, .int 0, .int 0, .int 0, .int 0]))] H := hP
  have hD : va_D A [((a 0), .inl (cL, 10, .inr (.inr (.inr (.inr (fun _ => none)))))), ((a 3), .inl (cT, 6, .inr (.inr (.inr (.inr (fun _ => none)))))), (o, .inl (cO, 1, .inr (.inl (fun _ => 0)))), (od, .inl (cD, 1, .inr (.inr (.inr (.inl (fun _ => 0)))))), (g0, .inr (15, [.int 1, .ref (bb 0), .ref (bb 1), .ref (bb 2), .ref (bb 3), .int 0, .long 0, .int 0, .int 0, .int 0, .int 0]))] := hD
  obtain rfl : r11 = 1 := hw
  refine lv_iload hx hb dL_law_3013 (lv_at hl 1 rfl) ?_
  refine lv_icmp_eq (tgt := 3020) hx hb dL_law_3015 (by decide) (fun _ => ?_) (fun c12 => absurd (by decide) c12)
  refine lv_iload hx hb dL_law_3020 (lv_at hl 1 rfl) ?_
  refine lv_if_ne (tgt := 3044) hx hb dL_law_3022 (by decide) (fun _ => ?_) (fun c13 => absurd c13 (by decide))
  refine lv_goto (tgt := 3259) hx hb dL_law_3044 (by decide) ?_
  exact zl_end C0 hA2 (Nat.le_of_ble_eq_true rfl) (Nat.le_of_ble_eq_true rfl) hS (lv_sub hl [7, 2] rfl)
set_option maxRecDepth 20000 in
theorem ggL_law_L_train : GoodIn wsL_law wsL_train := goodIn_ca (goodIn_ca (goodIn_ca (goodIn_ca (goodIn_r _ [1491, 283, 1492, 1493, 1494, 2, 1495, 19, 1496, 1261, 1497, 270, 244, 271, 451, 452, 453, 454, 293, 294, 404, 122, 123, 124, 125, 126, 455, 456, 457, 35, 458, 78, 459, 460, 461, 462, 134, 135, 136, 137, 138, 1551, 1552, 1553, 1554, 1555, 1556, 1557, 1558, 1559, 1560, 1561, 1562, 1563, 1564, 1565, 1566, 1598, 1599, 1600, 1601, 1602, 1603, 1604, 1605, 1606, 1607, 1608, 1609, 1610, 1611] (by decide +kernel) (by decide +kernel)) (goodIn_sub (fun _ h => List.mem_append_left _ (List.mem_append_left _ (List.mem_append_left _ (List.mem_append_left _ (List.mem_append_left _ (List.mem_append_left _ (List.mem_append_left _ (List.mem_append_right _ h)))))))) (by decide +kernel))) (goodIn_sub (fun _ h => List.mem_append_left _ (List.mem_append_left _ (List.mem_append_left _ (List.mem_append_right _ h)))) (by decide +kernel))) (goodIn_sub (fun _ h => List.mem_append_left _ (List.mem_append_left _ (List.mem_append_left _ (List.mem_append_left _ (List.mem_append_left _ (List.mem_append_left _ (List.mem_append_right _ h))))))) (by decide +kernel))) (goodIn_sub (fun _ h => List.mem_append_left _ (List.mem_append_left _ (List.mem_append_left _ (List.mem_append_left _ (List.mem_append_left _ (List.mem_append_right _ h)))))) (by decide +kernel))
set_option maxRecDepth 20000 in
theorem gL_law_L_train : GoodIn wsL_law (va_wsS RL 319 yL_train wsL_train) := goodIn_app (goodIn_of _ (by decide +kernel)) ggL_law_L_train
set_option maxRecDepth 20000 in
theorem ggL_law_X10_train : GoodIn wsL_law wsX10_train := goodIn_r _ [1501, 94, 467, 1502, 718, 270, 244, 271, 468, 469, 470, 5, 471, 207, 208, 209, 90, 210, 211, 163, 164, 165, 302, 303, 304, 305, 306, 307, 308, 309, 310, 311, 312, 313, 314, 315, 316, 317, 99, 212, 213, 214, 215, 216, 1567, 1568, 1569, 1570, 1571, 1572, 1573, 1574, 1575, 1576, 1577, 1660, 1661, 1662, 1663, 1664, 1665, 1666, 1667, 1668, 1669, 1670, 1671, 1672, 1673, 1674, 1675, 1676, 1612, 1613, 1614] (by decide +kernel) (by decide +kernel)
set_option maxRecDepth 20000 in
theorem gL_law_X10_train : GoodIn wsL_law (wsV RL 321 RX10 yX10_train wsX10_train) := goodIn_app (goodIn_of _ (by decide +kernel)) ggL_law_X10_train
theorem dL_law_3047 : decode cL_law 3047 = .ok (.aload_n 1, 1) := by decide +kernel
theorem dL_law_3048 : decode cL_law 3048 = .ok (.aload_n 0, 1) := by decide +kernel
theorem dL_law_3049 : decode cL_law 3049 = .ok (.iload 5, 2) := by decide +kernel
theorem dL_law_3051 : decode cL_law 3051 = .ok (.iconst 1, 1) := by decide +kernel
theorem dL_law_3052 : decode cL_law 3052 = .ok (.iadd, 1) := by decide +kernel
theorem dL_law_3053 : decode cL_law 3053 = .ok (.iaload, 1) := by decide +kernel
theorem dL_law_3054 : decode cL_law 3054 = .ok (.aload_n 0, 1) := by decide +kernel
theorem dL_law_3055 : decode cL_law 3055 = .ok (.iload 5, 2) := by decide +kernel
theorem dL_law_3057 : decode cL_law 3057 = .ok (.iconst 2, 1) := by decide +kernel
theorem dL_law_3058 : decode cL_law 3058 = .ok (.iadd, 1) := by decide +kernel
theorem dL_law_3059 : decode cL_law 3059 = .ok (.iaload, 1) := by decide +kernel
theorem dL_law_3060 : decode cL_law 3060 = .ok (.aload_n 3, 1) := by decide +kernel
theorem dL_law_3061 : decode cL_law 3061 = .ok (.invokestatic 319, 3) := by decide +kernel
theorem dL_law_3064 : decode cL_law 3064 = .ok (.istore 6, 2) := by decide +kernel
theorem dL_law_3066 : decode cL_law 3066 = .ok (.aload_n 2, 1) := by decide +kernel
theorem dL_law_3067 : decode cL_law 3067 = .ok (.aload_n 0, 1) := by decide +kernel
theorem dL_law_3068 : decode cL_law 3068 = .ok (.iload 5, 2) := by decide +kernel
theorem dL_law_3070 : decode cL_law 3070 = .ok (.iconst 1, 1) := by decide +kernel
theorem dL_law_3071 : decode cL_law 3071 = .ok (.iadd, 1) := by decide +kernel
theorem dL_law_3072 : decode cL_law 3072 = .ok (.iaload, 1) := by decide +kernel
theorem dL_law_3073 : decode cL_law 3073 = .ok (.aload_n 0, 1) := by decide +kernel
theorem dL_law_3074 : decode cL_law 3074 = .ok (.iload 5, 2) := by decide +kernel
theorem dL_law_3076 : decode cL_law 3076 = .ok (.iconst 2, 1) := by decide +kernel
theorem dL_law_3077 : decode cL_law 3077 = .ok (.iadd, 1) := by decide +kernel
theorem dL_law_3078 : decode cL_law 3078 = .ok (.iaload, 1) := by decide +kernel
theorem dL_law_3079 : decode cL_law 3079 = .ok (.invokevirtual 321, 3) := by decide +kernel
theorem dL_law_3082 : decode cL_law 3082 = .ok (.istore 7, 2) := by decide +kernel
theorem dL_law_3084 : decode cL_law 3084 = .ok (.aload_n 2, 1) := by decide +kernel
theorem dL_law_3085 : decode cL_law 3085 = .ok (.invokevirtual 183, 3) := by decide +kernel
theorem dL_law_3088 : decode cL_law 3088 = .ok (.iload 6, 2) := by decide +kernel
theorem dL_law_3090 : decode cL_law 3090 = .ok (.if_icmp .eq 5, 3) := by decide +kernel
theorem dL_law_3095 : decode cL_law 3095 = .ok (.iload 6, 2) := by decide +kernel
theorem dL_law_3097 : decode cL_law 3097 = .ok (.ifCond .ne 15, 3) := by decide +kernel
theorem dL_law_3112 : decode cL_law 3112 = .ok (.goto 147, 3) := by decide +kernel
set_option maxHeartbeats 4000000 in
set_option maxRecDepth 100000 in
/-- train, called on the two fresh objects -/
theorem zl_43 {p : Program} {l : Launch} {e : Env} {s : State} {m : MethodId} {below : List Frame} {meth : Method} {c : Code} {b : Nat} {xs : Nat → Int32} {A : Nat → Prop} (C0 : lw_At p s m meth c b 5 xs) (hA : ∀ q : Nat, s.heap.size ≤ q → A q) (hA2 : ∀ q : Nat, A q → s.heap.size ≤ q) (htr : l.stackTraces = false) (dC : Nat → ClassId) (dI : Nat → Nat → Nat) (e0 h0 g0 o od : Nat) (a bb : Nat → Nat) (cL cT cO cD : ClassId) (hE : zE e0 A s s.heap) (H : Heap) (locs : List Loc) (ls : Array Slot) (hK : va_K (dC, dI) vwCl [(cL, (.object RX1)), (cT, (.object RX5)), (cO, .long), (cD, .double)] s) (hP : va_P (dC, dI) vwCl [(h0, .inr (11, zC a)), ((a 0), .inl (cL, 10, .inr (.inr (.inr (.inr (fun _ => none)))))), ((a 3), .inl (cT, 6, .inr (.inr (.inr (.inr (fun _ => none)))))), (g0, .inr (15, zM 0 bb)), ((bb 0), .inr (4, [.int 0, .ref e0, .int 0])), ((bb 1), .inr (4, [.int 0, .ref e0, .int 0])), ((bb 2), .inr (4, [.int 0, .ref e0, .int 0])), ((bb 3), .inr (4, [.int 0, .ref e0, .int 0])), (o, .inl (cO, 1, .inr (.inl (fun _ => 0)))), (od, .inl (cD, 1, .inr (.inr (.inr (.inl (fun _ => 0))))))] H) (hD : va_D A [(h0, .inr (11, zC a)), ((a 0), .inl (cL, 10, .inr (.inr (.inr (.inr (fun _ => none)))))), ((a 3), .inl (cT, 6, .inr (.inr (.inr (.inr (fun _ => none)))))), (g0, .inr (15, zM 0 bb)), ((bb 0), .inr (4, [.int 0, .ref e0, .int 0])), ((bb 1), .inr (4, [.int 0, .ref e0, .int 0])), ((bb 2), .inr (4, [.int 0, .ref e0, .int 0])), ((bb 3), .inr (4, [.int 0, .ref e0, .int 0])), (o, .inl (cO, 1, .inr (.inl (fun _ => 0)))), (od, .inl (cD, 1, .inr (.inr (.inr (.inl (fun _ => 0))))))]) (hS : va_S A s.heap H locs) (hl : lv_has ls 9 [(0, .ref b), (1, .ref h0), (2, .ref g0), (3, .ref o), (4, .ref od), (5, .int 0)]) : W p l e room_1 s m #[Value.ref b] below meth c H locs (86) (1094) (lw_Z below #[Value.ref b] s) (F0 m 3047 ls []) := by
  obtain ⟨hx, hb, hr, hml, hown, ht0, hX, hbl, hlocks, hgv⟩ := id C0
  have hts : ∀ w ∈ zwL_law, w.before #[Value.ref b] s = true := fun w h => ht0 w (zL_in w h)
  have hbA : ¬ A b := fun h => absurd hbl (Nat.not_lt.mpr (hA2 b h))
  refine lv_aload_n hx hb dL_law_3047 rfl (lv_at hl 1 rfl) ?_
  refine lv_aload_n hx hb dL_law_3048 rfl (lv_at hl 0 rfl) ?_
  refine lv_iload hx hb dL_law_3049 (lv_at hl 5 rfl) ?_
  refine lv_iconst (v := 1) hx hb dL_law_3051 (by decide) ?_
  refine lv_iadd hx hb dL_law_3052 ?_
  refine lv_topi (fun y1 e2 => ?_)
  obtain rfl : y1 = 1 := e2.trans (by decide)
  refine va_sld hx hb hX hbl hbA hS (by unfold vp_in; decide) dL_law_3053 ?_
  refine lv_aload_n hx hb dL_law_3054 rfl (lv_at hl 0 rfl) ?_
  refine lv_iload hx hb dL_law_3055 (lv_at hl 5 rfl) ?_
  refine lv_iconst (v := 2) hx hb dL_law_3057 (by decide) ?_
  refine lv_iadd hx hb dL_law_3058 ?_
  refine lv_topi (fun y3 e4 => ?_)
  obtain rfl : y3 = 2 := e4.trans (by decide)
  refine va_sld hx hb hX hbl hbA hS (by unfold vp_in; decide) dL_law_3059 ?_
  refine lv_aload_n hx hb dL_law_3060 rfl (lv_at hl 3 rfl) ?_
  have hPc := hP.sub (ws' := [(h0, .inr (11, zC a))]) [0] rfl
  have hDc := hD.sub (ws' := [(h0, .inr (11, zC a))]) [0] (by decide) rfl
  have hKc := hK.sub (tys' := []) [] rfl
  have hFc := va_free (wc := [(h0, .inr (11, zC a))]) hD hS hA [0] rfl
  have hEc := (hE.kept hS.2.1).narrow hFc
  refine vx_calli (vx_runSX (As := [.ref h0, .int (xs (1 : Int32).toNatClampNeg), .int (xs (2 : Int32).toNatClampNeg), .ref o]) (rest := []) ⟨hx, hb, hml, hown, hts⟩ (c_L_train l htr dC dI H.size h0 a (xs (1 : Int32).toNatClampNeg) (xs (2 : Int32).toNatClampNeg) o) (vx_cwSW 4 hts gL_law_L_train rfl rfl rfl (by decide +kernel) ⟨Nat.le_of_ble_eq_true rfl, Nat.le_of_ble_eq_true rfl⟩) ⟨fun a U g mk q => by obtain ⟨q0, q1, qP, qK, qD, qE⟩ := q; exact ⟨q0, q1, qP, va_K.moved (u := U) (U := U.calling g mk a) (Vm.Alike.refl U.vm) qK, qD, zE.same rfl qE⟩, fun U hU hW => ⟨rfl, by rw [hU], by rw [hU]; exact hPc, va_K.moved hW.alike hKc, hDc.weaken (fun _ _ _ _ => trivial), by rw [hU]; exact zE.warm hW hEc⟩⟩ rfl rfl hl.1 rfl (lv_room (Nat.le_of_ble_eq_true rfl)) dL_law_3061 ⟨Nat.le_of_ble_eq_true rfl, Nat.le_of_ble_eq_true rfl⟩) hS (fun q _ h => hFc q h) hFc (fun q _ h => hFc q h) (fun E ce q9 u t H1 locs1 ht hvm hpx hBX hz1 hk1 hS hce hcv hcl => absurd hpx id) (fun r5 u t H1 locs ht hvm hw hB hz1 hk1 hS => ?_)
  have hP1 : va_P (dC, dI) vwCl [] H1 := fun k q h => by simp at h
  have hD1 : va_D (va_A [(h0, .inr (11, zC a))] H.size) [] := ⟨fun i j p q h => by simp at h, fun k q h => by simp at h⟩
  obtain ⟨hP, hD⟩ := va_join (wr := [((a 0), .inl (cL, 10, .inr (.inr (.inr (.inr (fun _ => none)))))), ((a 3), .inl (cT, 6, .inr (.inr (.inr (.inr (fun _ => none)))))), (g0, .inr (15, zM 0 bb)), ((bb 0), .inr (4, [.int 0, .ref e0, .int 0])), ((bb 1), .inr (4, [.int 0, .ref e0, .int 0])), ((bb 2), .inr (4, [.int 0, .ref e0, .int 0])), ((bb 3), .inr (4, [.int 0, .ref e0, .int 0])), (o, .inl (cO, 1, .inr (.inl (fun _ => 0)))), (od, .inl (cD, 1, .inr (.inr (.inr (.inl (fun _ => 0))))))]) (w1 := []) hP hD [0] [1, 2, 3, 4, 5, 6, 7, 8, 9] rfl rfl (by decide) (by decide) hk1 hFc hP1 hD1
  generalize H1 = H at hP hS ⊢
  have hP : va_P (dC, dI) vwCl [((a 0), .inl (cL, 10, .inr (.inr (.inr (.inr (fun _ => none)))))), ((a 3), .inl (cT, 6, .inr (.inr (.inr (.inr (fun _ => none)))))), (g0, .inr (15, zM 0 bb)), ((bb 0), .inr (4, [.int 0, .ref e0, .int 0])), ((bb 1), .inr (4, [.int 0, .ref e0, .int 0])), ((bb 2), .inr (4, [.int 0, .ref e0, .int 0])), ((bb 3), .inr (4, [.int 0, .ref e0, .int 0])), (o, .inl (cO, 1, .inr (.inl (fun _ => 0)))), (od, .inl (cD, 1, .inr (.inr (.inr (.inl (fun _ => 0))))))] H := hP
  have hD : va_D A [((a 0), .inl (cL, 10, .inr (.inr (.inr (.inr (fun _ => none)))))), ((a 3), .inl (cT, 6, .inr (.inr (.inr (.inr (fun _ => none)))))), (g0, .inr (15, zM 0 bb)), ((bb 0), .inr (4, [.int 0, .ref e0, .int 0])), ((bb 1), .inr (4, [.int 0, .ref e0, .int 0])), ((bb 2), .inr (4, [.int 0, .ref e0, .int 0])), ((bb 3), .inr (4, [.int 0, .ref e0, .int 0])), (o, .inl (cO, 1, .inr (.inl (fun _ => 0)))), (od, .inl (cD, 1, .inr (.inr (.inr (.inl (fun _ => 0))))))] := hD
  obtain rfl : r5 = 1 := hw
  refine lv_istore (lv' := [(6, .int 1), (0, .ref b), (1, .ref h0), (2, .ref g0), (3, .ref o), (4, .ref od), (5, .int 0)]) hx hb dL_law_3064 hl (by decide) rfl (fun ls hl => ?_)
  refine lv_aload_n hx hb dL_law_3066 rfl (lv_at hl 3 rfl) ?_
  refine lv_aload_n hx hb dL_law_3067 rfl (lv_at hl 1 rfl) ?_
  refine lv_iload hx hb dL_law_3068 (lv_at hl 6 rfl) ?_
  refine lv_iconst (v := 1) hx hb dL_law_3070 (by decide) ?_
  refine lv_iadd hx hb dL_law_3071 ?_
  refine lv_topi (fun y6 e7 => ?_)
  obtain rfl : y6 = 1 := e7.trans (by decide)
  refine va_sld hx hb hX hbl hbA hS (by unfold vp_in; decide) dL_law_3072 ?_
  refine lv_aload_n hx hb dL_law_3073 rfl (lv_at hl 1 rfl) ?_
  refine lv_iload hx hb dL_law_3074 (lv_at hl 6 rfl) ?_
  refine lv_iconst (v := 2) hx hb dL_law_3076 (by decide) ?_
  refine lv_iadd hx hb dL_law_3077 ?_
  refine lv_topi (fun y8 e9 => ?_)
  obtain rfl : y8 = 2 := e9.trans (by decide)
  refine va_sld hx hb hX hbl hbA hS (by unfold vp_in; decide) dL_law_3078 ?_
  have hPc := hP.sub (ws' := [(g0, .inr (15, zM 0 bb)), ((bb 0), .inr (4, [.int 0, .ref e0, .int 0])), ((bb 1), .inr (4, [.int 0, .ref e0, .int 0])), ((bb 2), .inr (4, [.int 0, .ref e0, .int 0])), ((bb 3), .inr (4, [.int 0, .ref e0, .int 0]))]) [2, 3, 4, 5, 6] rfl
  have hDc := hD.sub (ws' := [(g0, .inr (15, zM 0 bb)), ((bb 0), .inr (4, [.int 0, .ref e0, .int 0])), ((bb 1), .inr (4, [.int 0, .ref e0, .int 0])), ((bb 2), .inr (4, [.int 0, .ref e0, .int 0])), ((bb 3), .inr (4, [.int 0, .ref e0, .int 0]))]) [2, 3, 4, 5, 6] (by decide) rfl
  have hKc := hK.sub (tys' := []) [] rfl
  have hFc := va_free (wc := [(g0, .inr (15, zM 0 bb)), ((bb 0), .inr (4, [.int 0, .ref e0, .int 0])), ((bb 1), .inr (4, [.int 0, .ref e0, .int 0])), ((bb 2), .inr (4, [.int 0, .ref e0, .int 0])), ((bb 3), .inr (4, [.int 0, .ref e0, .int 0]))]) hD hS hA [2, 3, 4, 5, 6] rfl
  have hEc := (hE.kept hS.2.1).narrow hFc
  refine va_calli (va_runV (As := [.int (xs (1 : Int32).toNatClampNeg), .int (xs (2 : Int32).toNatClampNeg)]) (rest := []) ⟨hx, hb, hml, hown, hts⟩ (c_X10_train l htr dC dI H.size g0 0 bb (xs (1 : Int32).toNatClampNeg) (xs (2 : Int32).toNatClampNeg)) (cwV 2 hts gL_law_X10_train rfl rfl rfl (by decide +kernel) ⟨Nat.le_of_ble_eq_true rfl, Nat.le_of_ble_eq_true rfl⟩) ⟨fun a U g mk q => by obtain ⟨q0, q1, qP, qK, qD, qE⟩ := q; exact ⟨q0, q1, qP, va_K.moved (u := U) (U := U.calling g mk a) (Vm.Alike.refl U.vm) qK, qD, zE.same rfl qE⟩, va_recv hKc hPc (ci := 15) (q0 := 0) rfl rfl, fun U hU hW => ⟨rfl, by rw [hU], by rw [hU]; exact hPc, va_K.moved hW.alike hKc, hDc.weaken (fun _ _ _ _ => trivial), by rw [hU]; exact zE.warm hW hEc⟩⟩ rfl rfl hl.1 rfl (lv_room (Nat.le_of_ble_eq_true rfl)) dL_law_3079 ⟨Nat.le_of_ble_eq_true rfl, Nat.le_of_ble_eq_true rfl⟩) hS (fun q _ h => hFc q h) hFc (fun r10 u t H1 locs ht hvm hw hB hz1 hk1 hS => ?_)
  obtain ⟨hP1, hK1, hD1⟩ := hB
  rw [ht] at hP1
  obtain ⟨hP, hD⟩ := va_join (wr := [((a 0), .inl (cL, 10, .inr (.inr (.inr (.inr (fun _ => none)))))), ((a 3), .inl (cT, 6, .inr (.inr (.inr (.inr (fun _ => none)))))), (o, .inl (cO, 1, .inr (.inl (fun _ => 0)))), (od, .inl (cD, 1, .inr (.inr (.inr (.inl (fun _ => 0))))))]) (w1 := [(g0, .inr (15, zM 1 bb))]) hP hD [2, 3, 4, 5, 6] [0, 1, 7, 8] rfl rfl (by decide) (by decide) hk1 hFc hP1 hD1
  generalize H1 = H at hP hS ⊢
  have hP : va_P (dC, dI) vwCl [((a 0), .inl (cL, 10, .inr (.inr (.inr (.inr (fun _ => none)))))), ((a 3), .inl (cT, 6, .inr (.inr (.inr (.inr (fun _ => none)))))), (o, .inl (cO, 1, .inr (.inl (fun _ => 0)))), (od, .inl (cD, 1, .inr (.inr (.inr (.inl (fun _ => 0)))))), (g0, .inr (15, zM 1 bb))] H := hP
  have hD : va_D A [((a 0), .inl (cL, 10, .inr (.inr (.inr (.inr (fun _ => none)))))), ((a 3), .inl (cT, 6, .inr (.inr (.inr (.inr (fun _ => none)))))), (o, .inl (cO, 1, .inr (.inl (fun _ => 0)))), (od, .inl (cD, 1, .inr (.inr (.inr (.inl (fun _ => 0)))))), (g0, .inr (15, zM 1 bb))] := hD
  obtain rfl : r10 = 0 := hw
  refine lv_istore (lv' := [(7, .int 0), (6, .int 1), (0, .ref b), (1, .ref h0), (2, .ref g0), (3, .ref o), (4, .ref od), (5, .int 0)]) hx hb dL_law_3082 hl (by decide) rfl (fun ls hl => ?_)
  refine lv_aload_n hx hb dL_law_3084 rfl (lv_at hl 4 rfl) ?_
  have hPc := hP.sub (ws' := [(g0, .inr (15, [.int 1, .ref (bb 0), .ref (bb 1), .ref (bb 2), .ref (bb 3), .int 0, .long 0, .int 0, .int 0, .int 0, .int 0]))]) [4] rfl
  have hDc := hD.sub (ws' := [(g0, .inr (15, [.int 1, .ref (bb 0), .ref (bb 1), .ref (bb 2), .ref (bb 3), .int 0, .long 0, .int 0, .int 0, .int 0, .int 0]))]) [4] (by decide) rfl
  have hKc := hK.sub (tys' := []) [] rfl
  have hFc := va_free (wc := [(g0, .inr (15, [.int 1, .ref (bb 0), .ref (bb 1), .ref (bb 2), .ref (bb 3), .int 0, .long 0, .int 0, .int 0, .int 0, .int 0]))]) hD hS hA [4] rfl
  refine va_calli (va_runV (As := []) (rest := []) ⟨hx, hb, hml, hown, hts⟩ (c_X10_thrown l htr dC dI H.size g0 1 (bb 0) (bb 1) (bb 2) (bb 3) 0 0 0 0 0 0) (cwV 0 hts gL_law_X10_thrown rfl rfl rfl (by decide +kernel) ⟨Nat.le_of_ble_eq_true rfl, Nat.le_of_ble_eq_true rfl⟩) ⟨fun a U g mk q => by obtain ⟨q0, q1, qP, qK, qD⟩ := q; exact ⟨q0, q1, qP, va_K.moved (u := U) (U := U.calling g mk a) (Vm.Alike.refl U.vm) qK, qD⟩, va_recv hKc hPc (ci := 15) (q0 := 0) rfl rfl, fun U hU hW => ⟨rfl, by rw [hU], by rw [hU]; exact hPc, va_K.moved hW.alike hKc, hDc.weaken (fun _ _ _ _ => trivial)⟩⟩ rfl rfl hl.1 rfl (lv_room (Nat.le_of_ble_eq_true rfl)) dL_law_3085 ⟨Nat.le_of_ble_eq_true rfl, Nat.le_of_ble_eq_true rfl⟩) hS (fun q _ h => hFc q h) hFc (fun r11 u t H1 locs ht hvm hw hB hz1 hk1 hS => ?_)
  obtain ⟨hP1, hK1, hD1⟩ := hB
  rw [ht] at hP1
  obtain ⟨hP, hD⟩ := va_join (wr := [((a 0), .inl (cL, 10, .inr (.inr (.inr (.inr (fun _ => none)))))), ((a 3), .inl (cT, 6, .inr (.inr (.inr (.inr (fun _ => none)))))), (o, .inl (cO, 1, .inr (.inl (fun _ => 0)))), (od, .inl (cD, 1, .inr (.inr (.inr (.inl (fun _ => 0))))))]) (w1 := [(g0, .inr (15, [.int 1, .ref (bb 0), .ref (bb 1), .ref (bb 2), .ref (bb 3), .int 0, .long 0, .int 0, .int 0, .int 0, .int 0]))]) hP hD [4] [0, 1, 2, 3] rfl rfl (by decide) (by decide) hk1 hFc hP1 hD1
  generalize H1 = H at hP hS ⊢
  have hP : va_P (dC, dI) vwCl [((a 0), .inl (cL, 10, .inr (.inr (.inr (.inr (fun _ => none)))))), ((a 3), .inl (cT, 6, .inr (.inr (.inr (.inr (fun _ => none)))))), (o, .inl (cO, 1, .inr (.inl (fun _ => 0)))), (od, .inl (cD, 1, .inr (.inr (.inr (.inl (fun _ => 0)))))), (g0, .inr (15, [.int 1, .ref (bb 0), .ref (bb 1), .ref (bb 2), .ref (bb 3), .int 0, .long 0, .int 0, .int 0, .int 0, .int 0]))] H := hP
  have hD : va_D A [((a 0), .inl (cL, 10, .inr (.inr (.inr (.inr (fun _ => none)))))), ((a 3), .inl (cT, 6, .inr (.inr (.inr (.inr (fun _ => none)))))), (o, .inl (cO, 1, .inr (.inl (fun _ => 0)))), (od, .inl (cD, 1, .inr (.inr (.inr (.inl (fun _ => 0)))))), (g0, .inr (15, [.int 1, .ref (bb 0), .ref (bb 1), .ref (bb 2), .ref (bb 3), .int 0, .long 0, .int 0, .int 0, .int 0, .int 0]))] := hD
  obtain rfl : r11 = 1 := hw
  refine lv_iload hx hb dL_law_3088 (lv_at hl 1 rfl) ?_
  refine lv_icmp_eq (tgt := 3095) hx hb dL_law_3090 (by decide) (fun _ => ?_) (fun c12 => absurd (by decide) c12)
  refine lv_iload hx hb dL_law_3095 (lv_at hl 1 rfl) ?_
  refine lv_if_ne (tgt := 3112) hx hb dL_law_3097 (by decide) (fun _ => ?_) (fun c13 => absurd c13 (by decide))
  refine lv_goto (tgt := 3259) hx hb dL_law_3112 (by decide) ?_
  exact zl_end C0 hA2 (Nat.le_of_ble_eq_true rfl) (Nat.le_of_ble_eq_true rfl) hS (lv_sub hl [7, 2] rfl)
set_option maxRecDepth 20000 in
theorem ggL_law_L_inShare : GoodIn wsL_law wsL_inShare := goodIn_ca (goodIn_ca (goodIn_r _ [1505, 1506, 1507, 1508, 1509, 2, 1510, 1511, 1512, 520, 1513, 1514, 1515, 1516, 404, 19, 449, 1551, 1552, 1553, 1554, 1555, 1556, 1557, 1558, 1559, 1560, 1561, 1562, 1563, 1564, 1565, 1566, 1598, 1599, 1600, 1601, 1602, 1603, 1604, 1605, 1606, 1607, 1608, 1609, 1610, 1611] (by decide +kernel) (by decide +kernel)) (goodIn_sub (fun _ h => List.mem_append_left _ (List.mem_append_left _ (List.mem_append_left _ (List.mem_append_left _ (List.mem_append_left _ (List.mem_append_left _ (List.mem_append_left _ (List.mem_append_right _ h)))))))) (by decide +kernel))) (goodIn_sub (fun _ h => List.mem_append_right _ h) (by decide +kernel))
set_option maxRecDepth 20000 in
theorem gL_law_L_inShare : GoodIn wsL_law (va_wsS RL 322 yL_inShare wsL_inShare) := goodIn_app (goodIn_of _ (by decide +kernel)) ggL_law_L_inShare
set_option maxRecDepth 20000 in
theorem ggL_law_X10_inShare : GoodIn wsL_law wsX10_inShare := goodIn_r _ [1520, 93, 170, 542, 171, 172, 173, 90, 174, 175, 176, 177, 178, 179, 180, 181, 182, 12, 13, 183, 184, 185, 186, 187, 188, 189, 190, 191, 192, 193, 194, 195, 196, 197, 198, 199, 200, 201, 202, 203, 204, 205, 206, 207, 208, 209, 210, 211, 212, 213, 214, 5, 215, 216, 1567, 1568, 1569, 1570, 1571, 1572, 1573, 1574, 1575, 1576, 1577, 1634, 1635, 1636, 1637, 1638, 1639, 1640, 1641, 1642, 1643, 1644, 1645, 1646, 1647, 1648, 1649, 1650, 1651, 1652, 1653, 1654, 1655, 1630, 1631, 1632, 1633, 1612, 1613, 1614] (by decide +kernel) (by decide +kernel)
set_option maxRecDepth 20000 in
theorem gL_law_X10_inShare : GoodIn wsL_law (wsV RL 325 RX10 yX10_inShare wsX10_inShare) := goodIn_app (goodIn_of _ (by decide +kernel)) ggL_law_X10_inShare
theorem dL_law_3115 : decode cL_law 3115 = .ok (.aload_n 1, 1) := by decide +kernel
theorem dL_law_3116 : decode cL_law 3116 = .ok (.aload 4, 2) := by decide +kernel
theorem dL_law_3118 : decode cL_law 3118 = .ok (.invokestatic 322, 3) := by decide +kernel
theorem dL_law_3121 : decode cL_law 3121 = .ok (.istore 6, 2) := by decide +kernel
theorem dL_law_3123 : decode cL_law 3123 = .ok (.aload_n 2, 1) := by decide +kernel
theorem dL_law_3124 : decode cL_law 3124 = .ok (.invokevirtual 325, 3) := by decide +kernel
theorem dL_law_3127 : decode cL_law 3127 = .ok (.fstore 7, 2) := by decide +kernel
theorem dL_law_3129 : decode cL_law 3129 = .ok (.aload_n 2, 1) := by decide +kernel
theorem dL_law_3130 : decode cL_law 3130 = .ok (.invokevirtual 183, 3) := by decide +kernel
theorem dL_law_3133 : decode cL_law 3133 = .ok (.iload 6, 2) := by decide +kernel
theorem dL_law_3135 : decode cL_law 3135 = .ok (.if_icmp .eq 5, 3) := by decide +kernel
theorem dL_law_3140 : decode cL_law 3140 = .ok (.iload 6, 2) := by decide +kernel
theorem dL_law_3142 : decode cL_law 3142 = .ok (.ifCond .ne 36, 3) := by decide +kernel
theorem dL_law_3178 : decode cL_law 3178 = .ok (.goto 81, 3) := by decide +kernel
set_option maxHeartbeats 4000000 in
set_option maxRecDepth 100000 in
/-- inShare, called on the two fresh objects -/
theorem zl_44 {p : Program} {l : Launch} {e : Env} {s : State} {m : MethodId} {below : List Frame} {meth : Method} {c : Code} {b : Nat} {xs : Nat → Int32} {A : Nat → Prop} (C0 : lw_At p s m meth c b 5 xs) (hA : ∀ q : Nat, s.heap.size ≤ q → A q) (hA2 : ∀ q : Nat, A q → s.heap.size ≤ q) (htr : l.stackTraces = false) (dC : Nat → ClassId) (dI : Nat → Nat → Nat) (e0 h0 g0 o od : Nat) (a bb : Nat → Nat) (cL cT cO cD : ClassId) (hE : zE e0 A s s.heap) (H : Heap) (locs : List Loc) (ls : Array Slot) (hK : va_K (dC, dI) vwCl [(cL, (.object RX1)), (cT, (.object RX5)), (cO, .long), (cD, .double)] s) (hP : va_P (dC, dI) vwCl [(h0, .inr (11, zC a)), ((a 0), .inl (cL, 10, .inr (.inr (.inr (.inr (fun _ => none)))))), ((a 3), .inl (cT, 6, .inr (.inr (.inr (.inr (fun _ => none)))))), (g0, .inr (15, zM 0 bb)), ((bb 0), .inr (4, [.int 0, .ref e0, .int 0])), ((bb 1), .inr (4, [.int 0, .ref e0, .int 0])), ((bb 2), .inr (4, [.int 0, .ref e0, .int 0])), ((bb 3), .inr (4, [.int 0, .ref e0, .int 0])), (o, .inl (cO, 1, .inr (.inl (fun _ => 0)))), (od, .inl (cD, 1, .inr (.inr (.inr (.inl (fun _ => 0))))))] H) (hD : va_D A [(h0, .inr (11, zC a)), ((a 0), .inl (cL, 10, .inr (.inr (.inr (.inr (fun _ => none)))))), ((a 3), .inl (cT, 6, .inr (.inr (.inr (.inr (fun _ => none)))))), (g0, .inr (15, zM 0 bb)), ((bb 0), .inr (4, [.int 0, .ref e0, .int 0])), ((bb 1), .inr (4, [.int 0, .ref e0, .int 0])), ((bb 2), .inr (4, [.int 0, .ref e0, .int 0])), ((bb 3), .inr (4, [.int 0, .ref e0, .int 0])), (o, .inl (cO, 1, .inr (.inl (fun _ => 0)))), (od, .inl (cD, 1, .inr (.inr (.inr (.inl (fun _ => 0))))))]) (hS : va_S A s.heap H locs) (hl : lv_has ls 9 [(0, .ref b), (1, .ref h0), (2, .ref g0), (3, .ref o), (4, .ref od), (5, .int 0)]) : W p l e room_1 s m #[Value.ref b] below meth c H locs (86) (1094) (lw_Z below #[Value.ref b] s) (F0 m 3115 ls []) := by
  obtain ⟨hx, hb, hr, hml, hown, ht0, hX, hbl, hlocks, hgv⟩ := id C0
  have hts : ∀ w ∈ zwL_law, w.before #[Value.ref b] s = true := fun w h => ht0 w (zL_in w h)
  have hbA : ¬ A b := fun h => absurd hbl (Nat.not_lt.mpr (hA2 b h))
  refine lv_aload_n hx hb dL_law_3115 rfl (lv_at hl 1 rfl) ?_
  refine lv_aload hx hb dL_law_3116 (lv_at hl 4 rfl) ?_
  have hPc := hP.sub (ws' := [(h0, .inr (11, zC a))]) [0] rfl
  have hDc := hD.sub (ws' := [(h0, .inr (11, zC a))]) [0] (by decide) rfl
  have hKc := hK.sub (tys' := []) [] rfl
  have hFc := va_free (wc := [(h0, .inr (11, zC a))]) hD hS hA [0] rfl
  have hEc := (hE.kept hS.2.1).narrow hFc
  refine vx_calli (vx_runSX (As := [.ref h0, .ref od]) (rest := []) ⟨hx, hb, hml, hown, hts⟩ (c_L_inShare_no l htr dC dI H.size h0 a od) (vx_cwSW 2 hts gL_law_L_inShare rfl rfl rfl (by decide +kernel) ⟨Nat.le_of_ble_eq_true rfl, Nat.le_of_ble_eq_true rfl⟩) ⟨fun a U g mk q => by obtain ⟨q0, q1, qP, qK, qD, qE⟩ := q; exact ⟨q0, q1, qP, va_K.moved (u := U) (U := U.calling g mk a) (Vm.Alike.refl U.vm) qK, qD, zE.same rfl qE⟩, fun U hU hW => ⟨rfl, by rw [hU], by rw [hU]; exact hPc, va_K.moved hW.alike hKc, hDc.weaken (fun _ _ _ _ => trivial), by rw [hU]; exact zE.warm hW hEc⟩⟩ rfl rfl hl.1 rfl (lv_room (Nat.le_of_ble_eq_true rfl)) dL_law_3118 ⟨Nat.le_of_ble_eq_true rfl, Nat.le_of_ble_eq_true rfl⟩) hS (fun q _ h => hFc q h) hFc (fun q _ h => hFc q h) (fun E ce q9 u t H1 locs1 ht hvm hpx hBX hz1 hk1 hS hce hcv hcl => absurd hpx id) (fun r1 u t H1 locs ht hvm hw hB hz1 hk1 hS => ?_)
  have hP1 : va_P (dC, dI) vwCl [] H1 := fun k q h => by simp at h
  have hD1 : va_D (va_A [(h0, .inr (11, zC a))] H.size) [] := ⟨fun i j p q h => by simp at h, fun k q h => by simp at h⟩
  obtain ⟨hP, hD⟩ := va_join (wr := [((a 0), .inl (cL, 10, .inr (.inr (.inr (.inr (fun _ => none)))))), ((a 3), .inl (cT, 6, .inr (.inr (.inr (.inr (fun _ => none)))))), (g0, .inr (15, zM 0 bb)), ((bb 0), .inr (4, [.int 0, .ref e0, .int 0])), ((bb 1), .inr (4, [.int 0, .ref e0, .int 0])), ((bb 2), .inr (4, [.int 0, .ref e0, .int 0])), ((bb 3), .inr (4, [.int 0, .ref e0, .int 0])), (o, .inl (cO, 1, .inr (.inl (fun _ => 0)))), (od, .inl (cD, 1, .inr (.inr (.inr (.inl (fun _ => 0))))))]) (w1 := []) hP hD [0] [1, 2, 3, 4, 5, 6, 7, 8, 9] rfl rfl (by decide) (by decide) hk1 hFc hP1 hD1
  generalize H1 = H at hP hS ⊢
  have hP : va_P (dC, dI) vwCl [((a 0), .inl (cL, 10, .inr (.inr (.inr (.inr (fun _ => none)))))), ((a 3), .inl (cT, 6, .inr (.inr (.inr (.inr (fun _ => none)))))), (g0, .inr (15, zM 0 bb)), ((bb 0), .inr (4, [.int 0, .ref e0, .int 0])), ((bb 1), .inr (4, [.int 0, .ref e0, .int 0])), ((bb 2), .inr (4, [.int 0, .ref e0, .int 0])), ((bb 3), .inr (4, [.int 0, .ref e0, .int 0])), (o, .inl (cO, 1, .inr (.inl (fun _ => 0)))), (od, .inl (cD, 1, .inr (.inr (.inr (.inl (fun _ => 0))))))] H := hP
  have hD : va_D A [((a 0), .inl (cL, 10, .inr (.inr (.inr (.inr (fun _ => none)))))), ((a 3), .inl (cT, 6, .inr (.inr (.inr (.inr (fun _ => none)))))), (g0, .inr (15, zM 0 bb)), ((bb 0), .inr (4, [.int 0, .ref e0, .int 0])), ((bb 1), .inr (4, [.int 0, .ref e0, .int 0])), ((bb 2), .inr (4, [.int 0, .ref e0, .int 0])), ((bb 3), .inr (4, [.int 0, .ref e0, .int 0])), (o, .inl (cO, 1, .inr (.inl (fun _ => 0)))), (od, .inl (cD, 1, .inr (.inr (.inr (.inl (fun _ => 0))))))] := hD
  obtain rfl : r1 = 1 := hw
  refine lv_istore (lv' := [(6, .int 1), (0, .ref b), (1, .ref h0), (2, .ref g0), (3, .ref o), (4, .ref od), (5, .int 0)]) hx hb dL_law_3121 hl (by decide) rfl (fun ls hl => ?_)
  refine lv_aload_n hx hb dL_law_3123 rfl (lv_at hl 3 rfl) ?_
  have hPc := hP.sub (ws' := [(g0, .inr (15, zM 0 bb)), ((bb 0), .inr (4, [.int 0, .ref e0, .int 0])), ((bb 1), .inr (4, [.int 0, .ref e0, .int 0])), ((bb 2), .inr (4, [.int 0, .ref e0, .int 0])), ((bb 3), .inr (4, [.int 0, .ref e0, .int 0]))]) [2, 3, 4, 5, 6] rfl
  have hDc := hD.sub (ws' := [(g0, .inr (15, zM 0 bb)), ((bb 0), .inr (4, [.int 0, .ref e0, .int 0])), ((bb 1), .inr (4, [.int 0, .ref e0, .int 0])), ((bb 2), .inr (4, [.int 0, .ref e0, .int 0])), ((bb 3), .inr (4, [.int 0, .ref e0, .int 0]))]) [2, 3, 4, 5, 6] (by decide) rfl
  have hKc := hK.sub (tys' := []) [] rfl
  have hFc := va_free (wc := [(g0, .inr (15, zM 0 bb)), ((bb 0), .inr (4, [.int 0, .ref e0, .int 0])), ((bb 1), .inr (4, [.int 0, .ref e0, .int 0])), ((bb 2), .inr (4, [.int 0, .ref e0, .int 0])), ((bb 3), .inr (4, [.int 0, .ref e0, .int 0]))]) hD hS hA [2, 3, 4, 5, 6] rfl
  have hEc := (hE.kept hS.2.1).narrow hFc
  refine va_callf (va_runV (As := []) (rest := []) ⟨hx, hb, hml, hown, hts⟩ (c_X10_inShare l htr dC dI H.size g0 0 bb) (cwV 0 hts gL_law_X10_inShare rfl rfl rfl (by decide +kernel) ⟨Nat.le_of_ble_eq_true rfl, Nat.le_of_ble_eq_true rfl⟩) ⟨fun a U g mk q => by obtain ⟨q0, q1, qP, qK, qD, qE⟩ := q; exact ⟨q0, q1, qP, va_K.moved (u := U) (U := U.calling g mk a) (Vm.Alike.refl U.vm) qK, qD, zE.same rfl qE⟩, va_recv hKc hPc (ci := 15) (q0 := 0) rfl rfl, fun U hU hW => ⟨rfl, by rw [hU], by rw [hU]; exact hPc, va_K.moved hW.alike hKc, hDc.weaken (fun _ _ _ _ => trivial), by rw [hU]; exact zE.warm hW hEc⟩⟩ rfl rfl hl.1 rfl (lv_room (Nat.le_of_ble_eq_true rfl)) dL_law_3124 ⟨Nat.le_of_ble_eq_true rfl, Nat.le_of_ble_eq_true rfl⟩) hS (fun q _ h => hFc q h) hFc (fun r2 u t H1 locs ht hvm hw hB hz1 hk1 hS => ?_)
  obtain ⟨hP1, hK1, hD1⟩ := hB
  rw [ht] at hP1
  obtain ⟨hP, hD⟩ := va_join (wr := [((a 0), .inl (cL, 10, .inr (.inr (.inr (.inr (fun _ => none)))))), ((a 3), .inl (cT, 6, .inr (.inr (.inr (.inr (fun _ => none)))))), (o, .inl (cO, 1, .inr (.inl (fun _ => 0)))), (od, .inl (cD, 1, .inr (.inr (.inr (.inl (fun _ => 0))))))]) (w1 := [(g0, .inr (15, zM 1 bb))]) hP hD [2, 3, 4, 5, 6] [0, 1, 7, 8] rfl rfl (by decide) (by decide) hk1 hFc hP1 hD1
  generalize H1 = H at hP hS ⊢
  have hP : va_P (dC, dI) vwCl [((a 0), .inl (cL, 10, .inr (.inr (.inr (.inr (fun _ => none)))))), ((a 3), .inl (cT, 6, .inr (.inr (.inr (.inr (fun _ => none)))))), (o, .inl (cO, 1, .inr (.inl (fun _ => 0)))), (od, .inl (cD, 1, .inr (.inr (.inr (.inl (fun _ => 0)))))), (g0, .inr (15, zM 1 bb))] H := hP
  have hD : va_D A [((a 0), .inl (cL, 10, .inr (.inr (.inr (.inr (fun _ => none)))))), ((a 3), .inl (cT, 6, .inr (.inr (.inr (.inr (fun _ => none)))))), (o, .inl (cO, 1, .inr (.inl (fun _ => 0)))), (od, .inl (cD, 1, .inr (.inr (.inr (.inl (fun _ => 0)))))), (g0, .inr (15, zM 1 bb))] := hD
  refine lv_fstore (lv' := [(7, .float r2), (6, .int 1), (0, .ref b), (1, .ref h0), (2, .ref g0), (3, .ref o), (4, .ref od), (5, .int 0)]) hx hb dL_law_3127 hl (by decide) rfl (fun ls hl => ?_)
  refine lv_aload_n hx hb dL_law_3129 rfl (lv_at hl 4 rfl) ?_
  have hPc := hP.sub (ws' := [(g0, .inr (15, [.int 1, .ref (bb 0), .ref (bb 1), .ref (bb 2), .ref (bb 3), .int 0, .long 0, .int 0, .int 0, .int 0, .int 0]))]) [4] rfl
  have hDc := hD.sub (ws' := [(g0, .inr (15, [.int 1, .ref (bb 0), .ref (bb 1), .ref (bb 2), .ref (bb 3), .int 0, .long 0, .int 0, .int 0, .int 0, .int 0]))]) [4] (by decide) rfl
  have hKc := hK.sub (tys' := []) [] rfl
  have hFc := va_free (wc := [(g0, .inr (15, [.int 1, .ref (bb 0), .ref (bb 1), .ref (bb 2), .ref (bb 3), .int 0, .long 0, .int 0, .int 0, .int 0, .int 0]))]) hD hS hA [4] rfl
  refine va_calli (va_runV (As := []) (rest := []) ⟨hx, hb, hml, hown, hts⟩ (c_X10_thrown l htr dC dI H.size g0 1 (bb 0) (bb 1) (bb 2) (bb 3) 0 0 0 0 0 0) (cwV 0 hts gL_law_X10_thrown rfl rfl rfl (by decide +kernel) ⟨Nat.le_of_ble_eq_true rfl, Nat.le_of_ble_eq_true rfl⟩) ⟨fun a U g mk q => by obtain ⟨q0, q1, qP, qK, qD⟩ := q; exact ⟨q0, q1, qP, va_K.moved (u := U) (U := U.calling g mk a) (Vm.Alike.refl U.vm) qK, qD⟩, va_recv hKc hPc (ci := 15) (q0 := 0) rfl rfl, fun U hU hW => ⟨rfl, by rw [hU], by rw [hU]; exact hPc, va_K.moved hW.alike hKc, hDc.weaken (fun _ _ _ _ => trivial)⟩⟩ rfl rfl hl.1 rfl (lv_room (Nat.le_of_ble_eq_true rfl)) dL_law_3130 ⟨Nat.le_of_ble_eq_true rfl, Nat.le_of_ble_eq_true rfl⟩) hS (fun q _ h => hFc q h) hFc (fun r3 u t H1 locs ht hvm hw hB hz1 hk1 hS => ?_)
  obtain ⟨hP1, hK1, hD1⟩ := hB
  rw [ht] at hP1
  obtain ⟨hP, hD⟩ := va_join (wr := [((a 0), .inl (cL, 10, .inr (.inr (.inr (.inr (fun _ => none)))))), ((a 3), .inl (cT, 6, .inr (.inr (.inr (.inr (fun _ => none)))))), (o, .inl (cO, 1, .inr (.inl (fun _ => 0)))), (od, .inl (cD, 1, .inr (.inr (.inr (.inl (fun _ => 0))))))]) (w1 := [(g0, .inr (15, [.int 1, .ref (bb 0), .ref (bb 1), .ref (bb 2), .ref (bb 3), .int 0, .long 0, .int 0, .int 0, .int 0, .int 0]))]) hP hD [4] [0, 1, 2, 3] rfl rfl (by decide) (by decide) hk1 hFc hP1 hD1
  generalize H1 = H at hP hS ⊢
  have hP : va_P (dC, dI) vwCl [((a 0), .inl (cL, 10, .inr (.inr (.inr (.inr (fun _ => none)))))), ((a 3), .inl (cT, 6, .inr (.inr (.inr (.inr (fun _ => none)))))), (o, .inl (cO, 1, .inr (.inl (fun _ => 0)))), (od, .inl (cD, 1, .inr (.inr (.inr (.inl (fun _ => 0)))))), (g0, .inr (15, [.int 1, .ref (bb 0), .ref (bb 1), .ref (bb 2), .ref (bb 3), .int 0, .long 0, .int 0, .int 0, .int 0, .int 0]))] H := hP
  have hD : va_D A [((a 0), .inl (cL, 10, .inr (.inr (.inr (.inr (fun _ => none)))))), ((a 3), .inl (cT, 6, .inr (.inr (.inr (.inr (fun _ => none)))))), (o, .inl (cO, 1, .inr (.inl (fun _ => 0)))), (od, .inl (cD, 1, .inr (.inr (.inr (.inl (fun _ => 0)))))), (g0, .inr (15, [.int 1, .ref (bb 0), .ref (bb 1), .ref (bb 2), .ref (bb 3), .int 0, .long 0, .int 0, .int 0, .int 0, .int 0]))] := hD
  obtain rfl : r3 = 1 := hw
  refine lv_iload hx hb dL_law_3133 (lv_at hl 1 rfl) ?_
  refine lv_icmp_eq (tgt := 3140) hx hb dL_law_3135 (by decide) (fun _ => ?_) (fun c4 => absurd (by decide) c4)
  refine lv_iload hx hb dL_law_3140 (lv_at hl 1 rfl) ?_
  refine lv_if_ne (tgt := 3178) hx hb dL_law_3142 (by decide) (fun _ => ?_) (fun c5 => absurd c5 (by decide))
  refine lv_goto (tgt := 3259) hx hb dL_law_3178 (by decide) ?_
  exact zl_end C0 hA2 (Nat.le_of_ble_eq_true rfl) (Nat.le_of_ble_eq_true rfl) hS (lv_sub hl [7, 2] rfl)
set_option maxRecDepth 20000 in
theorem ggL_law_L_meanFeet : GoodIn wsL_law wsL_meanFeet := goodIn_ca (goodIn_ca (goodIn_r _ [1523, 1506, 1524, 1525, 1526, 2, 1527, 1511, 1512, 404, 19, 449, 1257, 1513, 1514, 1515, 1516, 1551, 1552, 1553, 1554, 1555, 1556, 1557, 1558, 1559, 1560, 1561, 1562, 1563, 1564, 1565, 1566, 1598, 1599, 1600, 1601, 1602, 1603, 1604, 1605, 1606, 1607, 1608, 1609, 1610, 1611] (by decide +kernel) (by decide +kernel)) (goodIn_sub (fun _ h => List.mem_append_left _ (List.mem_append_left _ (List.mem_append_left _ (List.mem_append_left _ (List.mem_append_left _ (List.mem_append_left _ (List.mem_append_left _ (List.mem_append_right _ h)))))))) (by decide +kernel))) (goodIn_sub (fun _ h => List.mem_append_right _ h) (by decide +kernel))
set_option maxRecDepth 20000 in
theorem gL_law_L_meanFeet : GoodIn wsL_law (va_wsS RL 326 yL_meanFeet wsL_meanFeet) := goodIn_app (goodIn_of _ (by decide +kernel)) ggL_law_L_meanFeet
set_option maxRecDepth 20000 in
theorem ggL_law_X10_meanFeet : GoodIn wsL_law wsX10_meanFeet := goodIn_r _ [1531, 93, 170, 467, 171, 172, 173, 90, 174, 175, 176, 177, 178, 179, 180, 181, 182, 12, 13, 183, 184, 185, 186, 187, 188, 189, 190, 191, 192, 193, 194, 195, 196, 197, 198, 199, 200, 201, 202, 203, 204, 205, 206, 212, 213, 214, 5, 215, 216, 1567, 1568, 1569, 1570, 1571, 1572, 1573, 1574, 1575, 1576, 1577, 1634, 1635, 1636, 1637, 1638, 1639, 1640, 1641, 1642, 1643, 1644, 1645, 1646, 1647, 1648, 1649, 1650, 1651, 1652, 1653, 1654, 1655, 1660, 1661, 1662, 1663, 1664, 1665, 1666, 1667, 1668, 1669, 1670, 1671, 1672, 1673, 1674, 1675, 1676, 1630, 1631, 1632, 1633, 1612, 1613, 1614] (by decide +kernel) (by decide +kernel)
set_option maxRecDepth 20000 in
theorem gL_law_X10_meanFeet : GoodIn wsL_law (wsV RL 328 RX10 yX10_meanFeet wsX10_meanFeet) := goodIn_app (goodIn_of _ (by decide +kernel)) ggL_law_X10_meanFeet
theorem dL_law_3181 : decode cL_law 3181 = .ok (.aload_n 1, 1) := by decide +kernel
theorem dL_law_3182 : decode cL_law 3182 = .ok (.aload 4, 2) := by decide +kernel
theorem dL_law_3184 : decode cL_law 3184 = .ok (.invokestatic 326, 3) := by decide +kernel
theorem dL_law_3187 : decode cL_law 3187 = .ok (.istore 6, 2) := by decide +kernel
theorem dL_law_3189 : decode cL_law 3189 = .ok (.aload_n 2, 1) := by decide +kernel
theorem dL_law_3190 : decode cL_law 3190 = .ok (.invokevirtual 328, 3) := by decide +kernel
theorem dL_law_3193 : decode cL_law 3193 = .ok (.dstore 7, 2) := by decide +kernel
theorem dL_law_3195 : decode cL_law 3195 = .ok (.aload_n 2, 1) := by decide +kernel
theorem dL_law_3196 : decode cL_law 3196 = .ok (.invokevirtual 183, 3) := by decide +kernel
theorem dL_law_3199 : decode cL_law 3199 = .ok (.iload 6, 2) := by decide +kernel
theorem dL_law_3201 : decode cL_law 3201 = .ok (.if_icmp .eq 5, 3) := by decide +kernel
theorem dL_law_3206 : decode cL_law 3206 = .ok (.iload 6, 2) := by decide +kernel
theorem dL_law_3208 : decode cL_law 3208 = .ok (.ifCond .ne 35, 3) := by decide +kernel
theorem dL_law_3243 : decode cL_law 3243 = .ok (.goto 16, 3) := by decide +kernel
set_option maxHeartbeats 4000000 in
set_option maxRecDepth 100000 in
/-- meanFeet, called on the two fresh objects -/
theorem zl_45 {p : Program} {l : Launch} {e : Env} {s : State} {m : MethodId} {below : List Frame} {meth : Method} {c : Code} {b : Nat} {xs : Nat → Int32} {A : Nat → Prop} (C0 : lw_At p s m meth c b 5 xs) (hA : ∀ q : Nat, s.heap.size ≤ q → A q) (hA2 : ∀ q : Nat, A q → s.heap.size ≤ q) (htr : l.stackTraces = false) (dC : Nat → ClassId) (dI : Nat → Nat → Nat) (e0 h0 g0 o od : Nat) (a bb : Nat → Nat) (cL cT cO cD : ClassId) (hE : zE e0 A s s.heap) (H : Heap) (locs : List Loc) (ls : Array Slot) (hK : va_K (dC, dI) vwCl [(cL, (.object RX1)), (cT, (.object RX5)), (cO, .long), (cD, .double)] s) (hP : va_P (dC, dI) vwCl [(h0, .inr (11, zC a)), ((a 0), .inl (cL, 10, .inr (.inr (.inr (.inr (fun _ => none)))))), ((a 3), .inl (cT, 6, .inr (.inr (.inr (.inr (fun _ => none)))))), (g0, .inr (15, zM 0 bb)), ((bb 0), .inr (4, [.int 0, .ref e0, .int 0])), ((bb 1), .inr (4, [.int 0, .ref e0, .int 0])), ((bb 2), .inr (4, [.int 0, .ref e0, .int 0])), ((bb 3), .inr (4, [.int 0, .ref e0, .int 0])), (o, .inl (cO, 1, .inr (.inl (fun _ => 0)))), (od, .inl (cD, 1, .inr (.inr (.inr (.inl (fun _ => 0))))))] H) (hD : va_D A [(h0, .inr (11, zC a)), ((a 0), .inl (cL, 10, .inr (.inr (.inr (.inr (fun _ => none)))))), ((a 3), .inl (cT, 6, .inr (.inr (.inr (.inr (fun _ => none)))))), (g0, .inr (15, zM 0 bb)), ((bb 0), .inr (4, [.int 0, .ref e0, .int 0])), ((bb 1), .inr (4, [.int 0, .ref e0, .int 0])), ((bb 2), .inr (4, [.int 0, .ref e0, .int 0])), ((bb 3), .inr (4, [.int 0, .ref e0, .int 0])), (o, .inl (cO, 1, .inr (.inl (fun _ => 0)))), (od, .inl (cD, 1, .inr (.inr (.inr (.inl (fun _ => 0))))))]) (hS : va_S A s.heap H locs) (hl : lv_has ls 9 [(0, .ref b), (1, .ref h0), (2, .ref g0), (3, .ref o), (4, .ref od), (5, .int 0)]) : W p l e room_1 s m #[Value.ref b] below meth c H locs (86) (1094) (lw_Z below #[Value.ref b] s) (F0 m 3181 ls []) := by
  obtain ⟨hx, hb, hr, hml, hown, ht0, hX, hbl, hlocks, hgv⟩ := id C0
  have hts : ∀ w ∈ zwL_law, w.before #[Value.ref b] s = true := fun w h => ht0 w (zL_in w h)
  have hbA : ¬ A b := fun h => absurd hbl (Nat.not_lt.mpr (hA2 b h))
  refine lv_aload_n hx hb dL_law_3181 rfl (lv_at hl 1 rfl) ?_
  refine lv_aload hx hb dL_law_3182 (lv_at hl 4 rfl) ?_
  have hPc := hP.sub (ws' := [(h0, .inr (11, zC a))]) [0] rfl
  have hDc := hD.sub (ws' := [(h0, .inr (11, zC a))]) [0] (by decide) rfl
  have hKc := hK.sub (tys' := []) [] rfl
  have hFc := va_free (wc := [(h0, .inr (11, zC a))]) hD hS hA [0] rfl
  have hEc := (hE.kept hS.2.1).narrow hFc
  refine vx_calli (vx_runSX (As := [.ref h0, .ref od]) (rest := []) ⟨hx, hb, hml, hown, hts⟩ (c_L_meanFeet_no l htr dC dI H.size h0 a od) (vx_cwSW 2 hts gL_law_L_meanFeet rfl rfl rfl (by decide +kernel) ⟨Nat.le_of_ble_eq_true rfl, Nat.le_of_ble_eq_true rfl⟩) ⟨fun a U g mk q => by obtain ⟨q0, q1, qP, qK, qD, qE⟩ := q; exact ⟨q0, q1, qP, va_K.moved (u := U) (U := U.calling g mk a) (Vm.Alike.refl U.vm) qK, qD, zE.same rfl qE⟩, fun U hU hW => ⟨rfl, by rw [hU], by rw [hU]; exact hPc, va_K.moved hW.alike hKc, hDc.weaken (fun _ _ _ _ => trivial), by rw [hU]; exact zE.warm hW hEc⟩⟩ rfl rfl hl.1 rfl (lv_room (Nat.le_of_ble_eq_true rfl)) dL_law_3184 ⟨Nat.le_of_ble_eq_true rfl, Nat.le_of_ble_eq_true rfl⟩) hS (fun q _ h => hFc q h) hFc (fun q _ h => hFc q h) (fun E ce q9 u t H1 locs1 ht hvm hpx hBX hz1 hk1 hS hce hcv hcl => absurd hpx id) (fun r1 u t H1 locs ht hvm hw hB hz1 hk1 hS => ?_)
  have hP1 : va_P (dC, dI) vwCl [] H1 := fun k q h => by simp at h
  have hD1 : va_D (va_A [(h0, .inr (11, zC a))] H.size) [] := ⟨fun i j p q h => by simp at h, fun k q h => by simp at h⟩
  obtain ⟨hP, hD⟩ := va_join (wr := [((a 0), .inl (cL, 10, .inr (.inr (.inr (.inr (fun _ => none)))))), ((a 3), .inl (cT, 6, .inr (.inr (.inr (.inr (fun _ => none)))))), (g0, .inr (15, zM 0 bb)), ((bb 0), .inr (4, [.int 0, .ref e0, .int 0])), ((bb 1), .inr (4, [.int 0, .ref e0, .int 0])), ((bb 2), .inr (4, [.int 0, .ref e0, .int 0])), ((bb 3), .inr (4, [.int 0, .ref e0, .int 0])), (o, .inl (cO, 1, .inr (.inl (fun _ => 0)))), (od, .inl (cD, 1, .inr (.inr (.inr (.inl (fun _ => 0))))))]) (w1 := []) hP hD [0] [1, 2, 3, 4, 5, 6, 7, 8, 9] rfl rfl (by decide) (by decide) hk1 hFc hP1 hD1
  generalize H1 = H at hP hS ⊢
  have hP : va_P (dC, dI) vwCl [((a 0), .inl (cL, 10, .inr (.inr (.inr (.inr (fun _ => none)))))), ((a 3), .inl (cT, 6, .inr (.inr (.inr (.inr (fun _ => none)))))), (g0, .inr (15, zM 0 bb)), ((bb 0), .inr (4, [.int 0, .ref e0, .int 0])), ((bb 1), .inr (4, [.int 0, .ref e0, .int 0])), ((bb 2), .inr (4, [.int 0, .ref e0, .int 0])), ((bb 3), .inr (4, [.int 0, .ref e0, .int 0])), (o, .inl (cO, 1, .inr (.inl (fun _ => 0)))), (od, .inl (cD, 1, .inr (.inr (.inr (.inl (fun _ => 0))))))] H := hP
  have hD : va_D A [((a 0), .inl (cL, 10, .inr (.inr (.inr (.inr (fun _ => none)))))), ((a 3), .inl (cT, 6, .inr (.inr (.inr (.inr (fun _ => none)))))), (g0, .inr (15, zM 0 bb)), ((bb 0), .inr (4, [.int 0, .ref e0, .int 0])), ((bb 1), .inr (4, [.int 0, .ref e0, .int 0])), ((bb 2), .inr (4, [.int 0, .ref e0, .int 0])), ((bb 3), .inr (4, [.int 0, .ref e0, .int 0])), (o, .inl (cO, 1, .inr (.inl (fun _ => 0)))), (od, .inl (cD, 1, .inr (.inr (.inr (.inl (fun _ => 0))))))] := hD
  obtain rfl : r1 = 1 := hw
  refine lv_istore (lv' := [(6, .int 1), (0, .ref b), (1, .ref h0), (2, .ref g0), (3, .ref o), (4, .ref od), (5, .int 0)]) hx hb dL_law_3187 hl (by decide) rfl (fun ls hl => ?_)
  refine lv_aload_n hx hb dL_law_3189 rfl (lv_at hl 3 rfl) ?_
  have hPc := hP.sub (ws' := [(g0, .inr (15, zM 0 bb)), ((bb 0), .inr (4, [.int 0, .ref e0, .int 0])), ((bb 1), .inr (4, [.int 0, .ref e0, .int 0])), ((bb 2), .inr (4, [.int 0, .ref e0, .int 0])), ((bb 3), .inr (4, [.int 0, .ref e0, .int 0]))]) [2, 3, 4, 5, 6] rfl
  have hDc := hD.sub (ws' := [(g0, .inr (15, zM 0 bb)), ((bb 0), .inr (4, [.int 0, .ref e0, .int 0])), ((bb 1), .inr (4, [.int 0, .ref e0, .int 0])), ((bb 2), .inr (4, [.int 0, .ref e0, .int 0])), ((bb 3), .inr (4, [.int 0, .ref e0, .int 0]))]) [2, 3, 4, 5, 6] (by decide) rfl
  have hKc := hK.sub (tys' := []) [] rfl
  have hFc := va_free (wc := [(g0, .inr (15, zM 0 bb)), ((bb 0), .inr (4, [.int 0, .ref e0, .int 0])), ((bb 1), .inr (4, [.int 0, .ref e0, .int 0])), ((bb 2), .inr (4, [.int 0, .ref e0, .int 0])), ((bb 3), .inr (4, [.int 0, .ref e0, .int 0]))]) hD hS hA [2, 3, 4, 5, 6] rfl
  have hEc := (hE.kept hS.2.1).narrow hFc
  refine va_calld (va_runV (As := []) (rest := []) ⟨hx, hb, hml, hown, hts⟩ (c_X10_meanFeet l htr dC dI H.size g0 0 bb) (cwV 0 hts gL_law_X10_meanFeet rfl rfl rfl (by decide +kernel) ⟨Nat.le_of_ble_eq_true rfl, Nat.le_of_ble_eq_true rfl⟩) ⟨fun a U g mk q => by obtain ⟨q0, q1, qP, qK, qD, qE⟩ := q; exact ⟨q0, q1, qP, va_K.moved (u := U) (U := U.calling g mk a) (Vm.Alike.refl U.vm) qK, qD, zE.same rfl qE⟩, va_recv hKc hPc (ci := 15) (q0 := 0) rfl rfl, fun U hU hW => ⟨rfl, by rw [hU], by rw [hU]; exact hPc, va_K.moved hW.alike hKc, hDc.weaken (fun _ _ _ _ => trivial), by rw [hU]; exact zE.warm hW hEc⟩⟩ rfl rfl hl.1 rfl (lv_room (Nat.le_of_ble_eq_true rfl)) dL_law_3190 ⟨Nat.le_of_ble_eq_true rfl, Nat.le_of_ble_eq_true rfl⟩) hS (fun q _ h => hFc q h) hFc (fun r2 u t H1 locs ht hvm hw hB hz1 hk1 hS => ?_)
  obtain ⟨hP1, hK1, hD1⟩ := hB
  rw [ht] at hP1
  obtain ⟨hP, hD⟩ := va_join (wr := [((a 0), .inl (cL, 10, .inr (.inr (.inr (.inr (fun _ => none)))))), ((a 3), .inl (cT, 6, .inr (.inr (.inr (.inr (fun _ => none)))))), (o, .inl (cO, 1, .inr (.inl (fun _ => 0)))), (od, .inl (cD, 1, .inr (.inr (.inr (.inl (fun _ => 0))))))]) (w1 := [(g0, .inr (15, zM 1 bb))]) hP hD [2, 3, 4, 5, 6] [0, 1, 7, 8] rfl rfl (by decide) (by decide) hk1 hFc hP1 hD1
  generalize H1 = H at hP hS ⊢
  have hP : va_P (dC, dI) vwCl [((a 0), .inl (cL, 10, .inr (.inr (.inr (.inr (fun _ => none)))))), ((a 3), .inl (cT, 6, .inr (.inr (.inr (.inr (fun _ => none)))))), (o, .inl (cO, 1, .inr (.inl (fun _ => 0)))), (od, .inl (cD, 1, .inr (.inr (.inr (.inl (fun _ => 0)))))), (g0, .inr (15, zM 1 bb))] H := hP
  have hD : va_D A [((a 0), .inl (cL, 10, .inr (.inr (.inr (.inr (fun _ => none)))))), ((a 3), .inl (cT, 6, .inr (.inr (.inr (.inr (fun _ => none)))))), (o, .inl (cO, 1, .inr (.inl (fun _ => 0)))), (od, .inl (cD, 1, .inr (.inr (.inr (.inl (fun _ => 0)))))), (g0, .inr (15, zM 1 bb))] := hD
  refine lv_dstore (lv' := [(7, .double r2), (6, .int 1), (0, .ref b), (1, .ref h0), (2, .ref g0), (3, .ref o), (4, .ref od), (5, .int 0)]) hx hb dL_law_3193 hl (by decide) rfl (fun ls hl => ?_)
  refine lv_aload_n hx hb dL_law_3195 rfl (lv_at hl 4 rfl) ?_
  have hPc := hP.sub (ws' := [(g0, .inr (15, [.int 1, .ref (bb 0), .ref (bb 1), .ref (bb 2), .ref (bb 3), .int 0, .long 0, .int 0, .int 0, .int 0, .int 0]))]) [4] rfl
  have hDc := hD.sub (ws' := [(g0, .inr (15, [.int 1, .ref (bb 0), .ref (bb 1), .ref (bb 2), .ref (bb 3), .int 0, .long 0, .int 0, .int 0, .int 0, .int 0]))]) [4] (by decide) rfl
  have hKc := hK.sub (tys' := []) [] rfl
  have hFc := va_free (wc := [(g0, .inr (15, [.int 1, .ref (bb 0), .ref (bb 1), .ref (bb 2), .ref (bb 3), .int 0, .long 0, .int 0, .int 0, .int 0, .int 0]))]) hD hS hA [4] rfl
  refine va_calli (va_runV (As := []) (rest := []) ⟨hx, hb, hml, hown, hts⟩ (c_X10_thrown l htr dC dI H.size g0 1 (bb 0) (bb 1) (bb 2) (bb 3) 0 0 0 0 0 0) (cwV 0 hts gL_law_X10_thrown rfl rfl rfl (by decide +kernel) ⟨Nat.le_of_ble_eq_true rfl, Nat.le_of_ble_eq_true rfl⟩) ⟨fun a U g mk q => by obtain ⟨q0, q1, qP, qK, qD⟩ := q; exact ⟨q0, q1, qP, va_K.moved (u := U) (U := U.calling g mk a) (Vm.Alike.refl U.vm) qK, qD⟩, va_recv hKc hPc (ci := 15) (q0 := 0) rfl rfl, fun U hU hW => ⟨rfl, by rw [hU], by rw [hU]; exact hPc, va_K.moved hW.alike hKc, hDc.weaken (fun _ _ _ _ => trivial)⟩⟩ rfl rfl hl.1 rfl (lv_room (Nat.le_of_ble_eq_true rfl)) dL_law_3196 ⟨Nat.le_of_ble_eq_true rfl, Nat.le_of_ble_eq_true rfl⟩) hS (fun q _ h => hFc q h) hFc (fun r3 u t H1 locs ht hvm hw hB hz1 hk1 hS => ?_)
  obtain ⟨hP1, hK1, hD1⟩ := hB
  rw [ht] at hP1
  obtain ⟨hP, hD⟩ := va_join (wr := [((a 0), .inl (cL, 10, .inr (.inr (.inr (.inr (fun _ => none)))))), ((a 3), .inl (cT, 6, .inr (.inr (.inr (.inr (fun _ => none)))))), (o, .inl (cO, 1, .inr (.inl (fun _ => 0)))), (od, .inl (cD, 1, .inr (.inr (.inr (.inl (fun _ => 0))))))]) (w1 := [(g0, .inr (15, [.int 1, .ref (bb 0), .ref (bb 1), .ref (bb 2), .ref (bb 3), .int 0, .long 0, .int 0, .int 0, .int 0, .int 0]))]) hP hD [4] [0, 1, 2, 3] rfl rfl (by decide) (by decide) hk1 hFc hP1 hD1
  generalize H1 = H at hP hS ⊢
  have hP : va_P (dC, dI) vwCl [((a 0), .inl (cL, 10, .inr (.inr (.inr (.inr (fun _ => none)))))), ((a 3), .inl (cT, 6, .inr (.inr (.inr (.inr (fun _ => none)))))), (o, .inl (cO, 1, .inr (.inl (fun _ => 0)))), (od, .inl (cD, 1, .inr (.inr (.inr (.inl (fun _ => 0)))))), (g0, .inr (15, [.int 1, .ref (bb 0), .ref (bb 1), .ref (bb 2), .ref (bb 3), .int 0, .long 0, .int 0, .int 0, .int 0, .int 0]))] H := hP
  have hD : va_D A [((a 0), .inl (cL, 10, .inr (.inr (.inr (.inr (fun _ => none)))))), ((a 3), .inl (cT, 6, .inr (.inr (.inr (.inr (fun _ => none)))))), (o, .inl (cO, 1, .inr (.inl (fun _ => 0)))), (od, .inl (cD, 1, .inr (.inr (.inr (.inl (fun _ => 0)))))), (g0, .inr (15, [.int 1, .ref (bb 0), .ref (bb 1), .ref (bb 2), .ref (bb 3), .int 0, .long 0, .int 0, .int 0, .int 0, .int 0]))] := hD
  obtain rfl : r3 = 1 := hw
  refine lv_iload hx hb dL_law_3199 (lv_at hl 1 rfl) ?_
  refine lv_icmp_eq (tgt := 3206) hx hb dL_law_3201 (by decide) (fun _ => ?_) (fun c4 => absurd (by decide) c4)
  refine lv_iload hx hb dL_law_3206 (lv_at hl 1 rfl) ?_
  refine lv_if_ne (tgt := 3243) hx hb dL_law_3208 (by decide) (fun _ => ?_) (fun c5 => absurd c5 (by decide))
  refine lv_goto (tgt := 3259) hx hb dL_law_3243 (by decide) ?_
  exact zl_end C0 hA2 (Nat.le_of_ble_eq_true rfl) (Nat.le_of_ble_eq_true rfl) hS (lv_sub hl [7, 2] rfl)
set_option maxRecDepth 20000 in
theorem ggL_law_X10_isTrue : GoodIn wsL_law wsX10_isTrue := goodIn_r _ [1550, 216, 1567, 1568, 1569, 1570, 1571, 1572, 1573, 1574, 1575, 1576, 1577] (by decide +kernel) (by decide +kernel)
set_option maxRecDepth 20000 in
theorem gL_law_X10_isTrue : GoodIn wsL_law (wsV RL 333 RX10 yX10_isTrue wsX10_isTrue) := goodIn_app (goodIn_of _ (by decide +kernel)) ggL_law_X10_isTrue
set_option maxRecDepth 20000 in
theorem ggL_law_X6_isTrue : GoodIn wsL_law wsX6_isTrue := goodIn_ca (goodIn_ca (goodIn_r _ [1535, 404, 19, 131, 21, 132, 133, 525, 999, 1000, 23, 1536, 1537, 1538, 35, 1539, 74, 75, 76, 77, 81, 82, 83, 1540, 1541, 1542, 1543, 1544, 1545, 2, 1546, 934, 935, 936, 32, 937, 67, 48, 1116, 1117, 1118, 1119, 1120, 1121, 1122, 1123, 53, 54, 55, 56, 57, 58, 59, 60, 61, 62, 63, 64, 65, 66, 46, 1124, 1125, 1126, 1127, 78, 1128, 1129, 1130, 1131, 1132, 1133, 1134, 1135, 1136, 1137, 558, 559, 560, 561, 15, 562, 518, 563, 564, 565, 566, 243, 244, 245, 567, 568, 569, 570, 571, 572, 573, 480, 574, 575, 576, 577, 119, 578, 579, 580, 581, 582, 583, 584, 585, 586, 587, 588, 589, 348, 590, 591, 592, 593, 594, 325, 17, 595, 596, 597, 598, 599, 600, 601, 602, 603, 604, 605, 606, 607, 608, 609, 610, 611, 612, 613, 614, 615, 616, 617, 618, 619, 620, 621, 622, 623, 624, 288, 625, 626, 627, 628, 629, 630, 631, 632, 633, 634, 635, 636, 637, 638, 639, 640, 641, 642, 643, 644, 645, 646, 647, 648, 752, 753, 754, 755, 756, 757, 758, 759, 760, 270, 271, 822, 823, 824, 825, 519, 826, 827, 828, 829, 842, 843, 844, 845, 857, 858, 859, 860, 773, 774, 775, 776, 777, 778, 779, 780, 517, 526, 527, 528, 529, 792, 793, 794, 795, 807, 808, 809, 810, 496, 1551, 1552, 1553, 1554, 1555, 1556, 1557, 1558, 1559, 1560, 1561, 1562, 1563, 1564, 1565, 1566, 1620, 1621, 1622, 1623, 1624, 1581, 1582, 1583, 1584, 1585, 1586, 1587, 1588, 1589, 1590, 1591, 1592, 1593, 1594, 1595, 1596, 1597, 1578, 1579, 1580, 1598, 1599, 1600, 1601, 1602, 1603, 1604, 1605, 1606, 1607, 1608, 1609, 1610, 1611, 1615, 1616, 1617, 1618, 1619, 1656, 1657, 1658, 1659] (by decide +kernel) (by decide +kernel)) (goodIn_sub (fun _ h => List.mem_append_left _ (List.mem_append_left _ (List.mem_append_left _ (List.mem_append_left _ (List.mem_append_left _ (List.mem_append_left _ (List.mem_append_left _ (List.mem_append_right _ h)))))))) (by decide +kernel))) (goodIn_sub (fun _ h => List.mem_append_left _ (List.mem_append_left _ (List.mem_append_right _ h))) (by decide +kernel))
set_option maxRecDepth 20000 in
theorem gL_law_X6_isTrue : GoodIn wsL_law (wsV RL 329 RX6 yX6_isTrue wsX6_isTrue) := goodIn_app (goodIn_of _ (by decide +kernel)) ggL_law_X6_isTrue
theorem dL_law_3246 : decode cL_law 3246 = .ok (.aload_n 1, 1) := by decide +kernel
theorem dL_law_3247 : decode cL_law 3247 = .ok (.invokevirtual 329, 3) := by decide +kernel
theorem dL_law_3250 : decode cL_law 3250 = .ok (.aload_n 2, 1) := by decide +kernel
theorem dL_law_3251 : decode cL_law 3251 = .ok (.invokevirtual 333, 3) := by decide +kernel
theorem dL_law_3254 : decode cL_law 3254 = .ok (.if_icmp .eq 5, 3) := by decide +kernel
set_option maxHeartbeats 4000000 in
set_option maxRecDepth 100000 in
/-- isTrue, called on the two fresh objects -/
theorem zl_46 {p : Program} {l : Launch} {e : Env} {s : State} {m : MethodId} {below : List Frame} {meth : Method} {c : Code} {b : Nat} {xs : Nat → Int32} {A : Nat → Prop} (C0 : lw_At p s m meth c b 5 xs) (hA : ∀ q : Nat, s.heap.size ≤ q → A q) (hA2 : ∀ q : Nat, A q → s.heap.size ≤ q) (htr : l.stackTraces = false) (dC : Nat → ClassId) (dI : Nat → Nat → Nat) (e0 h0 g0 o od : Nat) (a bb : Nat → Nat) (cL cT cO cD : ClassId) (hE : zE e0 A s s.heap) (H : Heap) (locs : List Loc) (ls : Array Slot) (hK : va_K (dC, dI) vwCl [(cL, (.object RX1)), (cT, (.object RX5)), (cO, .long), (cD, .double)] s) (hP : va_P (dC, dI) vwCl [(h0, .inr (11, zC a)), ((a 0), .inl (cL, 10, .inr (.inr (.inr (.inr (fun _ => none)))))), ((a 3), .inl (cT, 6, .inr (.inr (.inr (.inr (fun _ => none)))))), (g0, .inr (15, zM 0 bb)), ((bb 0), .inr (4, [.int 0, .ref e0, .int 0])), ((bb 1), .inr (4, [.int 0, .ref e0, .int 0])), ((bb 2), .inr (4, [.int 0, .ref e0, .int 0])), ((bb 3), .inr (4, [.int 0, .ref e0, .int 0])), (o, .inl (cO, 1, .inr (.inl (fun _ => 0)))), (od, .inl (cD, 1, .inr (.inr (.inr (.inl (fun _ => 0))))))] H) (hD : va_D A [(h0, .inr (11, zC a)), ((a 0), .inl (cL, 10, .inr (.inr (.inr (.inr (fun _ => none)))))), ((a 3), .inl (cT, 6, .inr (.inr (.inr (.inr (fun _ => none)))))), (g0, .inr (15, zM 0 bb)), ((bb 0), .inr (4, [.int 0, .ref e0, .int 0])), ((bb 1), .inr (4, [.int 0, .ref e0, .int 0])), ((bb 2), .inr (4, [.int 0, .ref e0, .int 0])), ((bb 3), .inr (4, [.int 0, .ref e0, .int 0])), (o, .inl (cO, 1, .inr (.inl (fun _ => 0)))), (od, .inl (cD, 1, .inr (.inr (.inr (.inl (fun _ => 0))))))]) (hS : va_S A s.heap H locs) (hl : lv_has ls 9 [(0, .ref b), (1, .ref h0), (2, .ref g0), (3, .ref o), (4, .ref od), (5, .int 0)]) : W p l e room_1 s m #[Value.ref b] below meth c H locs (86) (1094) (lw_Z below #[Value.ref b] s) (F0 m 3246 ls []) := by
  obtain ⟨hx, hb, hr, hml, hown, ht0, hX, hbl, hlocks, hgv⟩ := id C0
  have hts : ∀ w ∈ zwL_law, w.before #[Value.ref b] s = true := fun w h => ht0 w (zL_in w h)
  have hbA : ¬ A b := fun h => absurd hbl (Nat.not_lt.mpr (hA2 b h))
  refine lv_aload_n hx hb dL_law_3246 rfl (lv_at hl 1 rfl) ?_
  have hPc := hP.sub (ws' := [(h0, .inr (11, zC a))]) [0] rfl
  have hDc := hD.sub (ws' := [(h0, .inr (11, zC a))]) [0] (by decide) rfl
  have hKc := hK.sub (tys' := []) [] rfl
  have hFc := va_free (wc := [(h0, .inr (11, zC a))]) hD hS hA [0] rfl
  have hEc := (hE.kept hS.2.1).narrow hFc
  refine va_calli (va_runV (As := []) (rest := []) ⟨hx, hb, hml, hown, hts⟩ (c_X6_isTrue l htr dC dI H.size h0 a) (cwV 0 hts gL_law_X6_isTrue rfl rfl rfl (by decide +kernel) ⟨Nat.le_of_ble_eq_true rfl, Nat.le_of_ble_eq_true rfl⟩) ⟨fun a U g mk q => by obtain ⟨q0, q1, qP, qK, qD, qE⟩ := q; exact ⟨q0, q1, qP, va_K.moved (u := U) (U := U.calling g mk a) (Vm.Alike.refl U.vm) qK, qD, zE.same rfl qE⟩, va_recv hKc hPc (ci := 11) (q0 := 0) rfl rfl, fun U hU hW => ⟨rfl, by rw [hU], by rw [hU]; exact hPc, va_K.moved hW.alike hKc, hDc.weaken (fun _ _ _ _ => trivial), by rw [hU]; exact zE.warm hW hEc⟩⟩ rfl rfl hl.1 rfl (lv_room (Nat.le_of_ble_eq_true rfl)) dL_law_3247 ⟨Nat.le_of_ble_eq_true rfl, Nat.le_of_ble_eq_true rfl⟩) hS (fun q _ h => hFc q h) hFc (fun r1 u t H1 locs ht hvm hw hB hz1 hk1 hS => ?_)
  have hP1 : va_P (dC, dI) vwCl [] H1 := fun k q h => by simp at h
  have hD1 : va_D (va_A [(h0, .inr (11, zC a))] H.size) [] := ⟨fun i j p q h => by simp at h, fun k q h => by simp at h⟩
  obtain ⟨hP, hD⟩ := va_join (wr := [((a 0), .inl (cL, 10, .inr (.inr (.inr (.inr (fun _ => none)))))), ((a 3), .inl (cT, 6, .inr (.inr (.inr (.inr (fun _ => none)))))), (g0, .inr (15, zM 0 bb)), ((bb 0), .inr (4, [.int 0, .ref e0, .int 0])), ((bb 1), .inr (4, [.int 0, .ref e0, .int 0])), ((bb 2), .inr (4, [.int 0, .ref e0, .int 0])), ((bb 3), .inr (4, [.int 0, .ref e0, .int 0])), (o, .inl (cO, 1, .inr (.inl (fun _ => 0)))), (od, .inl (cD, 1, .inr (.inr (.inr (.inl (fun _ => 0))))))]) (w1 := []) hP hD [0] [1, 2, 3, 4, 5, 6, 7, 8, 9] rfl rfl (by decide) (by decide) hk1 hFc hP1 hD1
  generalize H1 = H at hP hS ⊢
  have hP : va_P (dC, dI) vwCl [((a 0), .inl (cL, 10, .inr (.inr (.inr (.inr (fun _ => none)))))), ((a 3), .inl (cT, 6, .inr (.inr (.inr (.inr (fun _ => none)))))), (g0, .inr (15, zM 0 bb)), ((bb 0), .inr (4, [.int 0, .ref e0, .int 0])), ((bb 1), .inr (4, [.int 0, .ref e0, .int 0])), ((bb 2), .inr (4, [.int 0, .ref e0, .int 0])), ((bb 3), .inr (4, [.int 0, .ref e0, .int 0])), (o, .inl (cO, 1, .inr (.inl (fun _ => 0)))), (od, .inl (cD, 1, .inr (.inr (.inr (.inl (fun _ => 0))))))] H := hP
  have hD : va_D A [((a 0), .inl (cL, 10, .inr (.inr (.inr (.inr (fun _ => none)))))), ((a 3), .inl (cT, 6, .inr (.inr (.inr (.inr (fun _ => none)))))), (g0, .inr (15, zM 0 bb)), ((bb 0), .inr (4, [.int 0, .ref e0, .int 0])), ((bb 1), .inr (4, [.int 0, .ref e0, .int 0])), ((bb 2), .inr (4, [.int 0, .ref e0, .int 0])), ((bb 3), .inr (4, [.int 0, .ref e0, .int 0])), (o, .inl (cO, 1, .inr (.inl (fun _ => 0)))), (od, .inl (cD, 1, .inr (.inr (.inr (.inl (fun _ => 0))))))] := hD
  obtain rfl : r1 = 1 := hw
  refine lv_aload_n hx hb dL_law_3250 rfl (lv_at hl 2 rfl) ?_
  have hPc := hP.sub (ws' := [(g0, .inr (15, zM 0 bb)), ((bb 0), .inr (4, [.int 0, .ref e0, .int 0])), ((bb 1), .inr (4, [.int 0, .ref e0, .int 0])), ((bb 2), .inr (4, [.int 0, .ref e0, .int 0])), ((bb 3), .inr (4, [.int 0, .ref e0, .int 0]))]) [2, 3, 4, 5, 6] rfl
  have hDc := hD.sub (ws' := [(g0, .inr (15, zM 0 bb)), ((bb 0), .inr (4, [.int 0, .ref e0, .int 0])), ((bb 1), .inr (4, [.int 0, .ref e0, .int 0])), ((bb 2), .inr (4, [.int 0, .ref e0, .int 0])), ((bb 3), .inr (4, [.int 0, .ref e0, .int 0]))]) [2, 3, 4, 5, 6] (by decide) rfl
  have hKc := hK.sub (tys' := []) [] rfl
  have hFc := va_free (wc := [(g0, .inr (15, zM 0 bb)), ((bb 0), .inr (4, [.int 0, .ref e0, .int 0])), ((bb 1), .inr (4, [.int 0, .ref e0, .int 0])), ((bb 2), .inr (4, [.int 0, .ref e0, .int 0])), ((bb 3), .inr (4, [.int 0, .ref e0, .int 0]))]) hD hS hA [2, 3, 4, 5, 6] rfl
  have hEc := (hE.kept hS.2.1).narrow hFc
  refine va_calli (va_runV (As := []) (rest := [.int 1]) ⟨hx, hb, hml, hown, hts⟩ (c_X10_isTrue l htr dC dI H.size g0 0 bb) (cwV 0 hts gL_law_X10_isTrue rfl rfl rfl (by decide +kernel) ⟨Nat.le_of_ble_eq_true rfl, Nat.le_of_ble_eq_true rfl⟩) ⟨fun a U g mk q => by obtain ⟨q0, q1, qP, qK, qD, qE⟩ := q; exact ⟨q0, q1, qP, va_K.moved (u := U) (U := U.calling g mk a) (Vm.Alike.refl U.vm) qK, qD, zE.same rfl qE⟩, va_recv hKc hPc (ci := 15) (q0 := 0) rfl rfl, fun U hU hW => ⟨rfl, by rw [hU], by rw [hU]; exact hPc, va_K.moved hW.alike hKc, hDc.weaken (fun _ _ _ _ => trivial), by rw [hU]; exact zE.warm hW hEc⟩⟩ rfl rfl hl.1 rfl (lv_room (Nat.le_of_ble_eq_true rfl)) dL_law_3251 ⟨Nat.le_of_ble_eq_true rfl, Nat.le_of_ble_eq_true rfl⟩) hS (fun q _ h => hFc q h) hFc (fun r2 u t H1 locs ht hvm hw hB hz1 hk1 hS => ?_)
  obtain ⟨hP1, hK1, hD1⟩ := hB
  rw [ht] at hP1
  obtain ⟨hP, hD⟩ := va_join (wr := [((a 0), .inl (cL, 10, .inr (.inr (.inr (.inr (fun _ => none)))))), ((a 3), .inl (cT, 6, .inr (.inr (.inr (.inr (fun _ => none)))))), (o, .inl (cO, 1, .inr (.inl (fun _ => 0)))), (od, .inl (cD, 1, .inr (.inr (.inr (.inl (fun _ => 0))))))]) (w1 := [(g0, .inr (15, zM 0 bb))]) hP hD [2, 3, 4, 5, 6] [0, 1, 7, 8] rfl rfl (by decide) (by decide) hk1 hFc hP1 hD1
  generalize H1 = H at hP hS ⊢
  have hP : va_P (dC, dI) vwCl [((a 0), .inl (cL, 10, .inr (.inr (.inr (.inr (fun _ => none)))))), ((a 3), .inl (cT, 6, .inr (.inr (.inr (.inr (fun _ => none)))))), (o, .inl (cO, 1, .inr (.inl (fun _ => 0)))), (od, .inl (cD, 1, .inr (.inr (.inr (.inl (fun _ => 0)))))), (g0, .inr (15, zM 0 bb))] H := hP
  have hD : va_D A [((a 0), .inl (cL, 10, .inr (.inr (.inr (.inr (fun _ => none)))))), ((a 3), .inl (cT, 6, .inr (.inr (.inr (.inr (fun _ => none)))))), (o, .inl (cO, 1, .inr (.inl (fun _ => 0)))), (od, .inl (cD, 1, .inr (.inr (.inr (.inl (fun _ => 0)))))), (g0, .inr (15, zM 0 bb))] := hD
  obtain rfl : r2 = 1 := hw
  refine lv_icmp_eq (tgt := 3259) hx hb dL_law_3254 (by decide) (fun _ => ?_) (fun c3 => absurd (by decide) c3)
  exact zl_end C0 hA2 (Nat.le_of_ble_eq_true rfl) (Nat.le_of_ble_eq_true rfl) hS (lv_sub hl [5, 0] rfl)
