set_option maxRecDepth 20000 in
theorem ggX6_init_X0_init : GoodIn wsX6_init wsX0_init := goodIn_r _ [60, 61, 2, 3, 62, 63, 64, 65, 66, 67, 68, 69, 70, 71, 72, 73, 110, 111, 112, 113, 114, 115, 116, 117, 118, 119, 120, 121, 122, 123] (by decide +kernel) (by decide +kernel)
set_option maxRecDepth 20000 in
theorem gX6_init_X0_init : GoodIn wsX6_init (wsX0_init) := ggX6_init_X0_init
theorem dX6_init_95 : decode cX6_init 95 = .ok (.iload_n 2, 1) := by decide +kernel
theorem dX6_init_96 : decode cX6_init 96 = .ok (.bipush 14, 2) := by decide +kernel
theorem dX6_init_98 : decode cX6_init 98 = .ok (.if_icmp .ge 31, 3) := by decide +kernel
theorem dX6_init_101 : decode cX6_init 101 = .ok (.aload_n 0, 1) := by decide +kernel
theorem dX6_init_102 : decode cX6_init 102 = .ok (.getfield 35, 3) := by decide +kernel
theorem dX6_init_105 : decode cX6_init 105 = .ok (.iload_n 1, 1) := by decide +kernel
theorem dX6_init_106 : decode cX6_init 106 = .ok (.aaload, 1) := by decide +kernel
theorem dX6_init_107 : decode cX6_init 107 = .ok (.getfield 54, 3) := by decide +kernel
theorem dX6_init_110 : decode cX6_init 110 = .ok (.iload_n 2, 1) := by decide +kernel
theorem dX6_init_111 : decode cX6_init 111 = .ok (.new 21, 3) := by decide +kernel
theorem dX6_init_114 : decode cX6_init 114 = .ok (.dup, 1) := by decide +kernel
theorem dX6_init_115 : decode cX6_init 115 = .ok (.iconst (-1), 1) := by decide +kernel
theorem dX6_init_116 : decode cX6_init 116 = .ok (.iconst 1, 1) := by decide +kernel
theorem dX6_init_117 : decode cX6_init 117 = .ok (.iconst 0, 1) := by decide +kernel
theorem dX6_init_118 : decode cX6_init 118 = .ok (.iconst 0, 1) := by decide +kernel
theorem dX6_init_119 : decode cX6_init 119 = .ok (.invokespecial 57, 3) := by decide +kernel
theorem dX6_init_122 : decode cX6_init 122 = .ok (.aastore, 1) := by decide +kernel
theorem dX6_init_123 : decode cX6_init 123 = .ok (.iinc 2 1, 3) := by decide +kernel
theorem dX6_init_126 : decode cX6_init 126 = .ok (.goto (-31), 3) := by decide +kernel
set_option maxHeartbeats 4000000 in
set_option maxRecDepth 100000 in
/-- the fourteen dogs of a trial party -/
theorem zi_inner (l : Launch) (htr : l.stackTraces = false) (dC : Nat → ClassId) (dI : Nat → Nat → Nat) (e0 : Nat) (h0 : Nat) (a : Nat → Nat) (cL cT kT cP : ClassId) (f : Nat → Option Nat) (q w1 w2 i C S : Nat) (hi : i < 4) (hC : C + 14 ≤ 78) (hSl : S + 196 ≤ 1053) (hf : f (nI i).toNatClampNeg = some q) {p : Program} {e : Env} {s : State} {m : MethodId} {below : List Frame} {meth : Method} {c : Code} {A : Nat → Prop} {Q : State → Prop} (hx : p.tables.exec = Jvm.exec) (hb : c.code = cX6_init) (hml : c.maxLocals = 3) (hts : ∀ w ∈ wsX6_init, w.before #[Value.ref h0] s = true) (hown : s.vm.findClass RX6 = some m.cls) (hE : zE e0 A s s.heap) (hA : ∀ q : Nat, s.heap.size ≤ q → A q) (hK : va_K (dC, dI) vwCl [(cL, (.object RX1)), (cT, (.object RX5)), (kT, (.object RX2)), (cP, (.object RX0))] s)
    (kk : ∀ (H : Heap) (locs : List Loc) (ls : Array Slot), va_P (dC, dI) vwCl [(h0, .inr (11, zC a)), ((a 0), .inl (cL, 10, .inr (.inr (.inr (.inr (fun _ => none)))))), ((a 3), .inl (cT, 6, .inr (.inr (.inr (.inr (fun _ => none)))))), ((a 4), .inl (kT, 4, .inr (.inr (.inr (.inr f)))))] H → va_D A [(h0, .inr (11, zC a)), ((a 0), .inl (cL, 10, .inr (.inr (.inr (.inr (fun _ => none)))))), ((a 3), .inl (cT, 6, .inr (.inr (.inr (.inr (fun _ => none)))))), ((a 4), .inl (kT, 4, .inr (.inr (.inr (.inr f)))))] → va_S A s.heap H locs → lv_has ls 3 [(1, .int (nI i)), (0, .ref h0)] → W p l e (headSpec wsX6_init ({ frames := 6, cells := 78, slots := 1053, locals := 120 })).room s m #[Value.ref h0] below meth c H locs (C + 14) (S + 14 * 14) Q (F0 m 129 ls [])) :
    ∀ (n j : Nat), j + n = 14 → ∀ (H : Heap) (locs : List Loc) (g : Nat → Option Nat) (ls : Array Slot), va_P (dC, dI) vwCl [(h0, .inr (11, zC a)), ((a 0), .inl (cL, 10, .inr (.inr (.inr (.inr (fun _ => none)))))), ((a 3), .inl (cT, 6, .inr (.inr (.inr (.inr (fun _ => none)))))), ((a 4), .inl (kT, 4, .inr (.inr (.inr (.inr f))))), (q, .inr (7, [.int 45, .int 0, .int 0, .int 0, .int 0, .int 100, .int 0, .int 3, .int 6, .int 0, .int 2, .int 0, .int 0, .int 0, .ref w1, .ref w2, .int 0])), (w2, .inl (cP, 14, .inr (.inr (.inr (.inr g)))))] H → va_D A [(h0, .inr (11, zC a)), ((a 0), .inl (cL, 10, .inr (.inr (.inr (.inr (fun _ => none)))))), ((a 3), .inl (cT, 6, .inr (.inr (.inr (.inr (fun _ => none)))))), ((a 4), .inl (kT, 4, .inr (.inr (.inr (.inr f))))), (q, .inr (7, [.int 45, .int 0, .int 0, .int 0, .int 0, .int 100, .int 0, .int 3, .int 6, .int 0, .int 2, .int 0, .int 0, .int 0, .ref w1, .ref w2, .int 0])), (w2, .inl (cP, 14, .inr (.inr (.inr (.inr g)))))] → va_S A s.heap H locs → lv_has ls 3 [(2, .int (nI j)), (1, .int (nI i)), (0, .ref h0)] → W p l e (headSpec wsX6_init ({ frames := 6, cells := 78, slots := 1053, locals := 120 })).room s m #[Value.ref h0] below meth c H locs (C + j) (S + 14 * j) Q (F0 m 95 ls []) := by
  intro n
  induction n with
  | zero =>
    intro j hj H locs g ls hP hD hS hl
    obtain rfl : j = 14 := by omega
    refine lv_iload_n hx hb dX6_init_95 rfl (lv_at hl 0 rfl) ?_
    refine lv_bipush (v := 14) hx hb dX6_init_96 (by decide) ?_
    refine lv_icmp_ge (tgt := 129) hx hb dX6_init_98 (by decide) (fun _ => ?_) (fun c9 => absurd (by decide) c9)
    exact kk H locs ls (hP.sub (ws' := [(h0, .inr (11, zC a)), ((a 0), .inl (cL, 10, .inr (.inr (.inr (.inr (fun _ => none)))))), ((a 3), .inl (cT, 6, .inr (.inr (.inr (.inr (fun _ => none)))))), ((a 4), .inl (kT, 4, .inr (.inr (.inr (.inr f)))))]) [0, 1, 2, 3] rfl) (hD.sub (ws' := [(h0, .inr (11, zC a)), ((a 0), .inl (cL, 10, .inr (.inr (.inr (.inr (fun _ => none)))))), ((a 3), .inl (cT, 6, .inr (.inr (.inr (.inr (fun _ => none)))))), ((a 4), .inl (kT, 4, .inr (.inr (.inr (.inr f)))))]) [0, 1, 2, 3] (by decide) rfl) hS (lv_sub hl [1, 2] rfl)
  | succ n ih =>
    intro j hjn H locs g ls hP hD hS hl
    have hj : j < 14 := by omega
    refine lv_iload_n hx hb dX6_init_95 rfl (lv_at hl 0 rfl) ?_
    refine lv_bipush (v := 14) hx hb dX6_init_96 (by decide) ?_
    refine lv_icmp_ge (tgt := 129) hx hb dX6_init_98 (by decide) (fun c1 => absurd c1 (nI_ge (a := j) (b := 14) hj (by decide))) (fun c1 => ?_)
    refine lv_aload_n hx hb dX6_init_101 rfl (lv_at hl 2 rfl) ?_
    refine va_get (D := (dC, dI)) (ci := 11) (v := .ref (a 4)) (C := RX6) (T := TX6) (N := 16) hx hb hts (by decide +kernel) hown hK hP 0 rfl rfl 11 (by decide) (hts (.fieldLink RX6 35 "Gangline" "trials" "[LGangline$Party;") (by decide +kernel)) (fun _ h9 => h9) rfl dX6_init_102 ?_
    refine lv_iload_n hx hb dX6_init_105 rfl (lv_at hl 1 rfl) ?_
    refine va_aldq hx hb hK hP 3 2 rfl rfl (vp_in_nI hi (by decide)) dX6_init_106 ?_
    rw [hf]
    refine W.eq (g2 := F0 m 107 ls [.ref q]) rfl ?_
    refine va_get (D := (dC, dI)) (ci := 7) (v := .ref w2) (C := RX2) (T := TX2) (N := 17) hx hb hts (by decide +kernel) hown hK hP 4 rfl rfl 15 (by decide) (hts (.fieldLink RX6 54 "Gangline$Party" "pack" "[LGangline$Dog;") (by decide +kernel)) (fun _ h9 => h9) rfl dX6_init_107 ?_
    refine lv_iload_n hx hb dX6_init_110 rfl (lv_at hl 0 rfl) ?_
    refine va_new (ci := 5) (fs := [.int 0, .int 0, .int 0, .int 0, .int 0, .int 0, .int 0, .int 0, .int 0, .int 0, .int 0, .int 0, .int 0, .int 0]) (C := RX0) (T := TX0) (N := 14) hx hb hts (by decide +kernel) tyX0 tyX0_ok hown (hts (.classLink RX6 21 RX0) (by decide +kernel)) (hts (.instantiable RX0 14) (by decide +kernel)) (hts (.initialized RX0) (by decide +kernel)) hK hP hD hS hA rfl (fun j hj => by rcases (show j = 0 ∨ j = 1 ∨ j = 2 ∨ j = 3 ∨ j = 4 ∨ j = 5 ∨ j = 6 ∨ j = 7 ∨ j = 8 ∨ j = 9 ∨ j = 10 ∨ j = 11 ∨ j = 12 ∨ j = 13 by omega) with rfl | rfl | rfl | rfl | rfl | rfl | rfl | rfl | rfl | rfl | rfl | rfl | rfl | rfl <;> rfl) ((show C + j + 1 ≤ 78 by omega)) ((show S + 14 * j + 14 ≤ 1053 by omega)) dX6_init_111 (fun q2 H hP hD hS => ?_)
    have hP : va_P (dC, dI) vwCl [(h0, .inr (11, zC a)), ((a 0), .inl (cL, 10, .inr (.inr (.inr (.inr (fun _ => none)))))), ((a 3), .inl (cT, 6, .inr (.inr (.inr (.inr (fun _ => none)))))), ((a 4), .inl (kT, 4, .inr (.inr (.inr (.inr f))))), (q, .inr (7, [.int 45, .int 0, .int 0, .int 0, .int 0, .int 100, .int 0, .int 3, .int 6, .int 0, .int 2, .int 0, .int 0, .int 0, .ref w1, .ref w2, .int 0])), (w2, .inl (cP, 14, .inr (.inr (.inr (.inr g))))), (q2, .inr (5, [.int 0, .int 0, .int 0, .int 0, .int 0, .int 0, .int 0, .int 0, .int 0, .int 0, .int 0, .int 0, .int 0, .int 0]))] H := hP
    have hD : va_D A [(h0, .inr (11, zC a)), ((a 0), .inl (cL, 10, .inr (.inr (.inr (.inr (fun _ => none)))))), ((a 3), .inl (cT, 6, .inr (.inr (.inr (.inr (fun _ => none)))))), ((a 4), .inl (kT, 4, .inr (.inr (.inr (.inr f))))), (q, .inr (7, [.int 45, .int 0, .int 0, .int 0, .int 0, .int 100, .int 0, .int 3, .int 6, .int 0, .int 2, .int 0, .int 0, .int 0, .ref w1, .ref w2, .int 0])), (w2, .inl (cP, 14, .inr (.inr (.inr (.inr g))))), (q2, .inr (5, [.int 0, .int 0, .int 0, .int 0, .int 0, .int 0, .int 0, .int 0, .int 0, .int 0, .int 0, .int 0, .int 0, .int 0]))] := hD
    refine lv_dup hx hb dX6_init_114 rfl ?_
    refine lv_iconst (v := (-1)) hx hb dX6_init_115 (by decide) ?_
    refine lv_iconst (v := 1) hx hb dX6_init_116 (by decide) ?_
    refine lv_iconst (v := 0) hx hb dX6_init_117 (by decide) ?_
    refine lv_iconst (v := 0) hx hb dX6_init_118 (by decide) ?_
    have hPc := hP.sub (ws' := [(q2, .inr (5, [.int 0, .int 0, .int 0, .int 0, .int 0, .int 0, .int 0, .int 0, .int 0, .int 0, .int 0, .int 0, .int 0, .int 0]))]) [6] rfl
    have hDc := hD.sub (ws' := [(q2, .inr (5, [.int 0, .int 0, .int 0, .int 0, .int 0, .int 0, .int 0, .int 0, .int 0, .int 0, .int 0, .int 0, .int 0, .int 0]))]) [6] (by decide) rfl
    have hKc := hK.sub (tys' := []) [] rfl
    have hFc := va_free (wc := [(q2, .inr (5, [.int 0, .int 0, .int 0, .int 0, .int 0, .int 0, .int 0, .int 0, .int 0, .int 0, .int 0, .int 0, .int 0, .int 0]))]) hD hS hA [6] rfl
    refine va_callv (va_runI (As := [.int (-1), .int 1, .int 0, .int 0]) (rest := [.ref q2, .int (nI j), .ref w2]) ⟨hx, hb, hml, hown, hts⟩ (c_X0_init l htr dC dI e0 H.size q2 (-1) 1 0 0) (cwI 4 hts gX6_init_X0_init rfl rfl rfl (hts (.initialized RX0) (by decide +kernel)) (hts (.methodLink RX6 57 yX0_init) (by decide +kernel)) (hts (.instanceMethod yX0_init) (by decide +kernel)) rfl (by decide +kernel) ⟨Nat.le_of_ble_eq_true rfl, Nat.le_of_ble_eq_true rfl⟩) ⟨fun a U g mk q => by obtain ⟨q0, q1, qP, qK, qD⟩ := q; exact ⟨q0, q1, qP, va_K.moved (u := U) (U := U.calling g mk a) (Vm.Alike.refl U.vm) qK, qD⟩, fun U hU hW => ⟨rfl, by rw [hU], by rw [hU]; exact hPc, va_K.moved hW.alike hKc, hDc.weaken (fun _ _ _ _ => trivial)⟩⟩ rfl rfl hl.1 rfl (lv_room (Nat.le_of_ble_eq_true rfl)) dX6_init_119 ⟨(show C + j + 1 ≤ 78 by omega), (show S + 14 * j + 14 ≤ 1053 by omega)⟩) hS (fun q _ h => hFc q h) hFc (fun u t H1 locs ht hvm hw hB hz1 hk1 hS => ?_)
    obtain ⟨hP1, hK1, hD1⟩ := hB
    rw [ht] at hP1
    obtain ⟨hP, hD⟩ := va_join (wr := [(h0, .inr (11, zC a)), ((a 0), .inl (cL, 10, .inr (.inr (.inr (.inr (fun _ => none)))))), ((a 3), .inl (cT, 6, .inr (.inr (.inr (.inr (fun _ => none)))))), ((a 4), .inl (kT, 4, .inr (.inr (.inr (.inr f))))), (q, .inr (7, [.int 45, .int 0, .int 0, .int 0, .int 0, .int 100, .int 0, .int 3, .int 6, .int 0, .int 2, .int 0, .int 0, .int 0, .ref w1, .ref w2, .int 0])), (w2, .inl (cP, 14, .inr (.inr (.inr (.inr g)))))]) (w1 := [(q2, .inr (5, [.int (-1), .int (-1), .int 1, .int 0, .int 0, .int (-1), .int (-1), .int 100, .int 100, .int 100, .int 5, .int 0, .int 0, .int 107]))]) hP hD [6] [0, 1, 2, 3, 4, 5] rfl rfl (by decide) (by decide) hk1 hFc hP1 hD1
    generalize H1 = H at hP hS ⊢
    have hP : va_P (dC, dI) vwCl [(h0, .inr (11, zC a)), ((a 0), .inl (cL, 10, .inr (.inr (.inr (.inr (fun _ => none)))))), ((a 3), .inl (cT, 6, .inr (.inr (.inr (.inr (fun _ => none)))))), ((a 4), .inl (kT, 4, .inr (.inr (.inr (.inr f))))), (q, .inr (7, [.int 45, .int 0, .int 0, .int 0, .int 0, .int 100, .int 0, .int 3, .int 6, .int 0, .int 2, .int 0, .int 0, .int 0, .ref w1, .ref w2, .int 0])), (w2, .inl (cP, 14, .inr (.inr (.inr (.inr g))))), (q2, .inr (5, [.int (-1), .int (-1), .int 1, .int 0, .int 0, .int (-1), .int (-1), .int 100, .int 100, .int 100, .int 5, .int 0, .int 0, .int 107]))] H := hP
    have hD : va_D A [(h0, .inr (11, zC a)), ((a 0), .inl (cL, 10, .inr (.inr (.inr (.inr (fun _ => none)))))), ((a 3), .inl (cT, 6, .inr (.inr (.inr (.inr (fun _ => none)))))), ((a 4), .inl (kT, 4, .inr (.inr (.inr (.inr f))))), (q, .inr (7, [.int 45, .int 0, .int 0, .int 0, .int 0, .int 100, .int 0, .int 3, .int 6, .int 0, .int 2, .int 0, .int 0, .int 0, .ref w1, .ref w2, .int 0])), (w2, .inl (cP, 14, .inr (.inr (.inr (.inr g))))), (q2, .inr (5, [.int (-1), .int (-1), .int 1, .int 0, .int 0, .int (-1), .int (-1), .int 100, .int 100, .int 100, .int 5, .int 0, .int 0, .int 107]))] := hD
    refine va_astq hx hb hK hP hD hS 5 3 6 5 rfl rfl rfl rfl (vp_in_nI hj (by decide)) dX6_init_122 (fun H locs hP hD hS => ?_)
    have hP : va_P (dC, dI) vwCl [(h0, .inr (11, zC a)), ((a 0), .inl (cL, 10, .inr (.inr (.inr (.inr (fun _ => none)))))), ((a 3), .inl (cT, 6, .inr (.inr (.inr (.inr (fun _ => none)))))), ((a 4), .inl (kT, 4, .inr (.inr (.inr (.inr f))))), (q, .inr (7, [.int 45, .int 0, .int 0, .int 0, .int 0, .int 100, .int 0, .int 3, .int 6, .int 0, .int 2, .int 0, .int 0, .int 0, .ref w1, .ref w2, .int 0])), (w2, .inl (cP, 14, .inr (.inr (.inr (.inr (va_up g ((nI j)).toNatClampNeg (some q2))))))), (q2, .inr (5, [.int (-1), .int (-1), .int 1, .int 0, .int 0, .int (-1), .int (-1), .int 100, .int 100, .int 100, .int 5, .int 0, .int 0, .int 107]))] H := hP
    have hD : va_D A [(h0, .inr (11, zC a)), ((a 0), .inl (cL, 10, .inr (.inr (.inr (.inr (fun _ => none)))))), ((a 3), .inl (cT, 6, .inr (.inr (.inr (.inr (fun _ => none)))))), ((a 4), .inl (kT, 4, .inr (.inr (.inr (.inr f))))), (q, .inr (7, [.int 45, .int 0, .int 0, .int 0, .int 0, .int 100, .int 0, .int 3, .int 6, .int 0, .int 2, .int 0, .int 0, .int 0, .ref w1, .ref w2, .int 0])), (w2, .inl (cP, 14, .inr (.inr (.inr (.inr (va_up g ((nI j)).toNatClampNeg (some q2))))))), (q2, .inr (5, [.int (-1), .int (-1), .int 1, .int 0, .int 0, .int (-1), .int (-1), .int 100, .int 100, .int 100, .int 5, .int 0, .int 0, .int 107]))] := hD
    refine lv_iinc (v := (nI (j + 1))) (lv' := [(2, .int (nI (j + 1))), (1, .int (nI i)), (0, .ref h0)]) hx hb dX6_init_123 hl (k := 0) rfl (nI_1 j) (by decide) rfl (fun ls hl => ?_)
    refine lv_goto (tgt := 95) hx hb dX6_init_126 (by decide) ?_
    have hP := hP.sub (ws' := [(h0, .inr (11, zC a)), ((a 0), .inl (cL, 10, .inr (.inr (.inr (.inr (fun _ => none)))))), ((a 3), .inl (cT, 6, .inr (.inr (.inr (.inr (fun _ => none)))))), ((a 4), .inl (kT, 4, .inr (.inr (.inr (.inr f))))), (q, .inr (7, [.int 45, .int 0, .int 0, .int 0, .int 0, .int 100, .int 0, .int 3, .int 6, .int 0, .int 2, .int 0, .int 0, .int 0, .ref w1, .ref w2, .int 0])), (w2, .inl (cP, 14, .inr (.inr (.inr (.inr (va_up g ((nI j)).toNatClampNeg (some q2)))))))]) [0, 1, 2, 3, 4, 5] rfl
    have hD := hD.sub (ws' := [(h0, .inr (11, zC a)), ((a 0), .inl (cL, 10, .inr (.inr (.inr (.inr (fun _ => none)))))), ((a 3), .inl (cT, 6, .inr (.inr (.inr (.inr (fun _ => none)))))), ((a 4), .inl (kT, 4, .inr (.inr (.inr (.inr f))))), (q, .inr (7, [.int 45, .int 0, .int 0, .int 0, .int 0, .int 100, .int 0, .int 3, .int 6, .int 0, .int 2, .int 0, .int 0, .int 0, .ref w1, .ref w2, .int 0])), (w2, .inl (cP, 14, .inr (.inr (.inr (.inr (va_up g ((nI j)).toNatClampNeg (some q2)))))))]) [0, 1, 2, 3, 4, 5] (by decide) rfl
    refine W.widen (k := C + (j + 1)) (n := S + 14 * (j + 1)) (by omega) (by omega) ?_
    exact ih (j + 1) (by omega) H locs (va_up g ((nI j)).toNatClampNeg (some q2)) ls hP hD hS (lv_sub hl [0, 1, 2] rfl)
set_option maxRecDepth 20000 in
theorem ggX6_init_X2_init : GoodIn wsX6_init wsX2_init := goodIn_ca (goodIn_r _ [34, 35, 2, 3, 18, 36, 37, 38, 39, 40, 41, 22, 42, 43, 44, 45, 46, 47, 48, 49, 50, 51, 52, 53, 54, 55, 56, 57, 93, 94, 95, 96, 97, 98, 99, 100, 101, 102, 103, 104, 105, 106, 107, 108, 109] (by decide +kernel) (by decide +kernel)) (goodIn_sub (fun _ h => List.mem_cons_of_mem _ (List.mem_append_right _ h)) (by decide +kernel))
set_option maxRecDepth 20000 in
theorem gX6_init_X2_init : GoodIn wsX6_init (wsX2_init) := ggX6_init_X2_init
theorem dX6_init_75 : decode cX6_init 75 = .ok (.iload_n 1, 1) := by decide +kernel
theorem dX6_init_76 : decode cX6_init 76 = .ok (.iconst 3, 1) := by decide +kernel
theorem dX6_init_77 : decode cX6_init 77 = .ok (.if_icmp .gt 58, 3) := by decide +kernel
theorem dX6_init_80 : decode cX6_init 80 = .ok (.aload_n 0, 1) := by decide +kernel
theorem dX6_init_81 : decode cX6_init 81 = .ok (.getfield 35, 3) := by decide +kernel
theorem dX6_init_84 : decode cX6_init 84 = .ok (.iload_n 1, 1) := by decide +kernel
theorem dX6_init_85 : decode cX6_init 85 = .ok (.new 33, 3) := by decide +kernel
theorem dX6_init_88 : decode cX6_init 88 = .ok (.dup, 1) := by decide +kernel
theorem dX6_init_89 : decode cX6_init 89 = .ok (.invokespecial 53, 3) := by decide +kernel
theorem dX6_init_92 : decode cX6_init 92 = .ok (.aastore, 1) := by decide +kernel
theorem dX6_init_93 : decode cX6_init 93 = .ok (.iconst 0, 1) := by decide +kernel
theorem dX6_init_94 : decode cX6_init 94 = .ok (.istore_n 2, 1) := by decide +kernel
theorem dX6_init_129 : decode cX6_init 129 = .ok (.iinc 1 1, 3) := by decide +kernel
theorem dX6_init_132 : decode cX6_init 132 = .ok (.goto (-57), 3) := by decide +kernel
theorem dX6_init_135 : decode cX6_init 135 = .ok (.return_, 1) := by decide +kernel
set_option maxHeartbeats 4000000 in
set_option maxRecDepth 100000 in
/-- the four trial parties, and the end -/
theorem zi_outer (l : Launch) (htr : l.stackTraces = false) (dC : Nat → ClassId) (dI : Nat → Nat → Nat) (e0 : Nat) (h0 : Nat) (a : Nat → Nat) (cL cT kT : ClassId) {p : Program} {e : Env} {s : State} {m : MethodId} {below : List Frame} {meth : Method} {c : Code} {A : Nat → Prop} (hx : p.tables.exec = Jvm.exec) (hb : c.code = cX6_init) (hml : c.maxLocals = 3) (hts : ∀ w ∈ wsX6_init, w.before #[Value.ref h0] s = true) (hown : s.vm.findClass RX6 = some m.cls) (hE : zE e0 A s s.heap) (hA : ∀ q : Nat, s.heap.size ≤ q → A q) (hr : meth.sig.returnType = none) (hlocks : meth.locks = false) :
    ∀ (n i : Nat), i + n = 4 → ∀ (H : Heap) (locs : List Loc) (f : Nat → Option Nat) (ls : Array Slot), va_K (dC, dI) vwCl [(cL, (.object RX1)), (cT, (.object RX5)), (kT, (.object RX2))] s → va_P (dC, dI) vwCl [(h0, .inr (11, zC a)), ((a 0), .inl (cL, 10, .inr (.inr (.inr (.inr (fun _ => none)))))), ((a 3), .inl (cT, 6, .inr (.inr (.inr (.inr (fun _ => none)))))), ((a 4), .inl (kT, 4, .inr (.inr (.inr (.inr f)))))] H → va_D A [(h0, .inr (11, zC a)), ((a 0), .inl (cL, 10, .inr (.inr (.inr (.inr (fun _ => none)))))), ((a 3), .inl (cT, 6, .inr (.inr (.inr (.inr (fun _ => none)))))), ((a 4), .inl (kT, 4, .inr (.inr (.inr (.inr f)))))] → va_S A s.heap H locs → lv_has ls 3 [(1, .int (nI i)), (0, .ref h0)] → W p l e (headSpec wsX6_init ({ frames := 6, cells := 78, slots := 1053, locals := 120 })).room s m #[Value.ref h0] below meth c H locs (10 + 17 * i) (105 + 237 * i) (MQ below (va_Qv (fun _ : Unit => True) (fun _ t => ∃ (a : Nat → Nat), ∃ (cL : ClassId), ∃ (cT : ClassId), va_P (dC, dI) vwCl [(h0, .inr (11, zC a)), ((a 0), .inl (cL, 10, .inr (.inr (.inr (.inr (fun _ => none)))))), ((a 3), .inl (cT, 6, .inr (.inr (.inr (.inr (fun _ => none))))))] t.heap ∧ va_K (dC, dI) vwCl [(cL, (.object RX1)), (cT, (.object RX5))] t ∧ va_D A [(h0, .inr (11, zC a)), ((a 0), .inl (cL, 10, .inr (.inr (.inr (.inr (fun _ => none)))))), ((a 3), .inl (cT, 6, .inr (.inr (.inr (.inr (fun _ => none))))))]) A) #[Value.ref h0] s 78 1053 A) (F0 m 75 ls []) := by
  intro n
  induction n with
  | zero =>
    intro i hi H locs f ls hK hP hD hS hl
    obtain rfl : i = 4 := by omega
    refine lv_iload_n hx hb dX6_init_75 rfl (lv_at hl 0 rfl) ?_
    refine lv_iconst (v := 3) hx hb dX6_init_76 (by decide) ?_
    refine lv_icmp_gt (tgt := 135) hx hb dX6_init_77 (by decide) (fun _ => ?_) (fun c9 => absurd (by decide) c9)
    have hP9 := hP.sub (ws' := [(h0, .inr (11, zC a)), ((a 0), .inl (cL, 10, .inr (.inr (.inr (.inr (fun _ => none)))))), ((a 3), .inl (cT, 6, .inr (.inr (.inr (.inr (fun _ => none))))))]) [0, 1, 2] rfl
    have hD9 := hD.sub (ws' := [(h0, .inr (11, zC a)), ((a 0), .inl (cL, 10, .inr (.inr (.inr (.inr (fun _ => none)))))), ((a 3), .inl (cT, 6, .inr (.inr (.inr (.inr (fun _ => none))))))]) [0, 1, 2] (by decide) rfl
    have hK9 := hK.sub (tys' := [(cL, (.object RX1)), (cT, (.object RX5))]) [0, 1] rfl
    refine W.widen (k := 78) (n := 1053) (by decide) (by decide) ?_
    exact W.vret hx hb hr (fun t ht hW => ⟨⟨(), rfl, trivial, a, cL, cT, by rw [ht]; exact hP9, va_K.moved hW.alike hK9, hD9⟩, hS.F ht⟩) hS.2.2 dX6_init_135
  | succ n ih =>
    intro i hin H locs f ls hK hP hD hS hl
    have hi : i < 4 := by omega
    refine lv_iload_n hx hb dX6_init_75 rfl (lv_at hl 0 rfl) ?_
    refine lv_iconst (v := 3) hx hb dX6_init_76 (by decide) ?_
    refine lv_icmp_gt (tgt := 135) hx hb dX6_init_77 (by decide) (fun c1 => absurd c1 (nI_nlt (a := 3) (b := i) (by omega) (by decide))) (fun c1 => ?_)
    refine lv_aload_n hx hb dX6_init_80 rfl (lv_at hl 1 rfl) ?_
    refine va_get (D := (dC, dI)) (ci := 11) (v := .ref (a 4)) (C := RX6) (T := TX6) (N := 16) hx hb hts (by decide +kernel) hown hK hP 0 rfl rfl 11 (by decide) (hts (.fieldLink RX6 35 "Gangline" "trials" "[LGangline$Party;") (by decide +kernel)) (fun _ h9 => h9) rfl dX6_init_81 ?_
    refine lv_iload_n hx hb dX6_init_84 rfl (lv_at hl 0 rfl) ?_
    refine va_new (ci := 7) (fs := [.int 0, .int 0, .int 0, .int 0, .int 0, .int 0, .int 0, .int 0, .int 0, .int 0, .int 0, .int 0, .int 0, .int 0, .null, .null, .int 0]) (C := RX2) (T := TX2) (N := 17) hx hb hts (by decide +kernel) tyX2 tyX2_ok hown (hts (.classLink RX6 33 RX2) (by decide +kernel)) (hts (.instantiable RX2 17) (by decide +kernel)) (hts (.initialized RX2) (by decide +kernel)) hK hP hD hS hA rfl (fun j hj => by rcases (show j = 0 ∨ j = 1 ∨ j = 2 ∨ j = 3 ∨ j = 4 ∨ j = 5 ∨ j = 6 ∨ j = 7 ∨ j = 8 ∨ j = 9 ∨ j = 10 ∨ j = 11 ∨ j = 12 ∨ j = 13 ∨ j = 14 ∨ j = 15 ∨ j = 16 by omega) with rfl | rfl | rfl | rfl | rfl | rfl | rfl | rfl | rfl | rfl | rfl | rfl | rfl | rfl | rfl | rfl | rfl <;> rfl) ((show 10 + 17 * i + 1 ≤ 78 by omega)) ((show 105 + 237 * i + 17 ≤ 1053 by omega)) dX6_init_85 (fun q2 H hP hD hS => ?_)
    have hP : va_P (dC, dI) vwCl [(h0, .inr (11, zC a)), ((a 0), .inl (cL, 10, .inr (.inr (.inr (.inr (fun _ => none)))))), ((a 3), .inl (cT, 6, .inr (.inr (.inr (.inr (fun _ => none)))))), ((a 4), .inl (kT, 4, .inr (.inr (.inr (.inr f))))), (q2, .inr (7, [.int 0, .int 0, .int 0, .int 0, .int 0, .int 0, .int 0, .int 0, .int 0, .int 0, .int 0, .int 0, .int 0, .int 0, .null, .null, .int 0]))] H := hP
    have hD : va_D A [(h0, .inr (11, zC a)), ((a 0), .inl (cL, 10, .inr (.inr (.inr (.inr (fun _ => none)))))), ((a 3), .inl (cT, 6, .inr (.inr (.inr (.inr (fun _ => none)))))), ((a 4), .inl (kT, 4, .inr (.inr (.inr (.inr f))))), (q2, .inr (7, [.int 0, .int 0, .int 0, .int 0, .int 0, .int 0, .int 0, .int 0, .int 0, .int 0, .int 0, .int 0, .int 0, .int 0, .null, .null, .int 0]))] := hD
    refine lv_dup hx hb dX6_init_88 rfl ?_
    have hPc := hP.sub (ws' := [(q2, .inr (7, [.int 0, .int 0, .int 0, .int 0, .int 0, .int 0, .int 0, .int 0, .int 0, .int 0, .int 0, .int 0, .int 0, .int 0, .null, .null, .int 0]))]) [4] rfl
    have hDc := hD.sub (ws' := [(q2, .inr (7, [.int 0, .int 0, .int 0, .int 0, .int 0, .int 0, .int 0, .int 0, .int 0, .int 0, .int 0, .int 0, .int 0, .int 0, .null, .null, .int 0]))]) [4] (by decide) rfl
    have hKc := hK.sub (tys' := []) [] rfl
    have hFc := va_free (wc := [(q2, .inr (7, [.int 0, .int 0, .int 0, .int 0, .int 0, .int 0, .int 0, .int 0, .int 0, .int 0, .int 0, .int 0, .int 0, .int 0, .null, .null, .int 0]))]) hD hS hA [4] rfl
    have hEc := (hE.kept hS.2.1).narrow hFc
    refine va_callv (va_runI (As := []) (rest := [.ref q2, .int (nI i), .ref (a 4)]) ⟨hx, hb, hml, hown, hts⟩ (c_X2_init l htr dC dI e0 H.size q2) (cwI 0 hts gX6_init_X2_init rfl rfl rfl (hts (.initialized RX2) (by decide +kernel)) (hts (.methodLink RX6 53 yX2_init) (by decide +kernel)) (hts (.instanceMethod yX2_init) (by decide +kernel)) rfl (by decide +kernel) ⟨Nat.le_of_ble_eq_true rfl, Nat.le_of_ble_eq_true rfl⟩) ⟨fun a U g mk q => by obtain ⟨q0, q1, qP, qK, qD, qE⟩ := q; exact ⟨q0, q1, qP, va_K.moved (u := U) (U := U.calling g mk a) (Vm.Alike.refl U.vm) qK, qD, zE.same rfl qE⟩, fun U hU hW => ⟨rfl, by rw [hU], by rw [hU]; exact hPc, va_K.moved hW.alike hKc, hDc.weaken (fun _ _ _ _ => trivial), by rw [hU]; exact zE.warm hW hEc⟩⟩ rfl rfl hl.1 rfl (lv_room (Nat.le_of_ble_eq_true rfl)) dX6_init_89 ⟨(show 10 + 17 * i + 3 ≤ 78 by omega), (show 105 + 237 * i + 41 ≤ 1053 by omega)⟩) hS (fun q _ h => hFc q h) hFc (fun u t H1 locs ht hvm hw hB hz1 hk1 hS => ?_)
    obtain ⟨q3, q4, q5, q6, hP1, hK1, hD1⟩ := hB
    rw [ht] at hP1
    obtain ⟨hP, hD⟩ := va_join (wr := [(h0, .inr (11, zC a)), ((a 0), .inl (cL, 10, .inr (.inr (.inr (.inr (fun _ => none)))))), ((a 3), .inl (cT, 6, .inr (.inr (.inr (.inr (fun _ => none)))))), ((a 4), .inl (kT, 4, .inr (.inr (.inr (.inr f)))))]) (w1 := [(q2, .inr (7, [.int 45, .int 0, .int 0, .int 0, .int 0, .int 100, .int 0, .int 3, .int 6, .int 0, .int 2, .int 0, .int 0, .int 0, .ref q3, .ref q4, .int 0])), (q4, .inl (q5, 14, .inr (.inr (.inr (.inr q6)))))]) hP hD [4] [0, 1, 2, 3] rfl rfl (by decide) (by decide) hk1 hFc hP1 hD1
    generalize H1 = H at hP hS ⊢
    have hP : va_P (dC, dI) vwCl [(h0, .inr (11, zC a)), ((a 0), .inl (cL, 10, .inr (.inr (.inr (.inr (fun _ => none)))))), ((a 3), .inl (cT, 6, .inr (.inr (.inr (.inr (fun _ => none)))))), ((a 4), .inl (kT, 4, .inr (.inr (.inr (.inr f))))), (q2, .inr (7, [.int 45, .int 0, .int 0, .int 0, .int 0, .int 100, .int 0, .int 3, .int 6, .int 0, .int 2, .int 0, .int 0, .int 0, .ref q3, .ref q4, .int 0])), (q4, .inl (q5, 14, .inr (.inr (.inr (.inr q6)))))] H := hP
    have hD : va_D A [(h0, .inr (11, zC a)), ((a 0), .inl (cL, 10, .inr (.inr (.inr (.inr (fun _ => none)))))), ((a 3), .inl (cT, 6, .inr (.inr (.inr (.inr (fun _ => none)))))), ((a 4), .inl (kT, 4, .inr (.inr (.inr (.inr f))))), (q2, .inr (7, [.int 45, .int 0, .int 0, .int 0, .int 0, .int 100, .int 0, .int 3, .int 6, .int 0, .int 2, .int 0, .int 0, .int 0, .ref q3, .ref q4, .int 0])), (q4, .inl (q5, 14, .inr (.inr (.inr (.inr q6)))))] := hD
    have hK := hK.app ((va_K.moved hvm.symm hK1).sub (tys' := [(q5, (.object RX0))]) [0] rfl)
    have hK : va_K (dC, dI) vwCl [(cL, (.object RX1)), (cT, (.object RX5)), (kT, (.object RX2)), (q5, (.object RX0))] s := hK
    refine va_astq hx hb hK hP hD hS 3 2 4 7 rfl rfl rfl rfl (vp_in_nI hi (by decide)) dX6_init_92 (fun H locs hP hD hS => ?_)
    have hP : va_P (dC, dI) vwCl [(h0, .inr (11, zC a)), ((a 0), .inl (cL, 10, .inr (.inr (.inr (.inr (fun _ => none)))))), ((a 3), .inl (cT, 6, .inr (.inr (.inr (.inr (fun _ => none)))))), ((a 4), .inl (kT, 4, .inr (.inr (.inr (.inr (va_up f ((nI i)).toNatClampNeg (some q2))))))), (q2, .inr (7, [.int 45, .int 0, .int 0, .int 0, .int 0, .int 100, .int 0, .int 3, .int 6, .int 0, .int 2, .int 0, .int 0, .int 0, .ref q3, .ref q4, .int 0])), (q4, .inl (q5, 14, .inr (.inr (.inr (.inr q6)))))] H := hP
    have hD : va_D A [(h0, .inr (11, zC a)), ((a 0), .inl (cL, 10, .inr (.inr (.inr (.inr (fun _ => none)))))), ((a 3), .inl (cT, 6, .inr (.inr (.inr (.inr (fun _ => none)))))), ((a 4), .inl (kT, 4, .inr (.inr (.inr (.inr (va_up f ((nI i)).toNatClampNeg (some q2))))))), (q2, .inr (7, [.int 45, .int 0, .int 0, .int 0, .int 0, .int 100, .int 0, .int 3, .int 6, .int 0, .int 2, .int 0, .int 0, .int 0, .ref q3, .ref q4, .int 0])), (q4, .inl (q5, 14, .inr (.inr (.inr (.inr q6)))))] := hD
    refine lv_iconst (v := 0) hx hb dX6_init_93 (by decide) ?_
    refine lv_istore_n (lv' := [(2, .int 0), (1, .int (nI i)), (0, .ref h0)]) hx hb dX6_init_94 rfl hl (by decide) rfl (fun ls hl => ?_)
    obtain ⟨f2, hf2⟩ : ∃ z, z = (va_up f ((nI i)).toNatClampNeg (some q2)) := ⟨_, rfl⟩
    rw [← hf2] at hP hD
    have hf : f2 (nI i).toNatClampNeg = some q2 := by rw [hf2]; simp [va_up]
    refine W.widen (k := 10 + 17 * i + 3 + 0) (n := 105 + 237 * i + 41 + 14 * 0) (by omega) (by omega) ?_
    refine zi_inner l htr dC dI e0 h0 a cL cT kT q5 f2 q2 q3 q4 i (10 + 17 * i + 3) (105 + 237 * i + 41) hi (by omega) (by omega) hf hx hb hml hts hown hE hA hK (fun H locs ls hP hD hS hl => ?_) 14 0 rfl H locs q6 ls hP hD hS (lv_sub hl [0, 1, 2] rfl)
    refine lv_iinc (v := nI (i + 1)) (lv' := [(1, .int (nI (i + 1))), (0, .ref h0)]) hx hb dX6_init_129 hl (k := 0) rfl (nI_1 i) (by decide) rfl (fun ls hl => ?_)
    refine lv_goto (tgt := 75) hx hb dX6_init_132 (by decide) ?_
    refine W.widen (k := 10 + 17 * (i + 1)) (n := 105 + 237 * (i + 1)) (by omega) (by omega) ?_
    exact ih (i + 1) (by omega) H locs f2 ls (hK.sub (tys' := [(cL, (.object RX1)), (cT, (.object RX5)), (kT, (.object RX2))]) [0, 1, 2] rfl) hP hD hS hl
set_option maxRecDepth 20000 in
theorem ggX6_init_X3_init : GoodIn wsX6_init wsX3_init := goodIn_r _ [27, 28, 2, 3, 29, 30, 18, 31, 90, 91, 92] (by decide +kernel) (by decide +kernel)
set_option maxRecDepth 20000 in
theorem gX6_init_X3_init_n41 : GoodIn wsX6_init (wsX3_init) := ggX6_init_X3_init
theorem dX6_init_0 : decode cX6_init 0 = .ok (.aload_n 0, 1) := by decide +kernel
theorem dX6_init_1 : decode cX6_init 1 = .ok (.invokespecial 1, 3) := by decide +kernel
theorem dX6_init_4 : decode cX6_init 4 = .ok (.aload_n 0, 1) := by decide +kernel
theorem dX6_init_5 : decode cX6_init 5 = .ok (.bipush 10, 2) := by decide +kernel
theorem dX6_init_7 : decode cX6_init 7 = .ok (.anewarray 9, 3) := by decide +kernel
theorem dX6_init_10 : decode cX6_init 10 = .ok (.putfield 11, 3) := by decide +kernel
theorem dX6_init_13 : decode cX6_init 13 = .ok (.aload_n 0, 1) := by decide +kernel
theorem dX6_init_14 : decode cX6_init 14 = .ok (.bipush 12, 2) := by decide +kernel
theorem dX6_init_16 : decode cX6_init 16 = .ok (.anewarray 15, 3) := by decide +kernel
theorem dX6_init_19 : decode cX6_init 19 = .ok (.putfield 17, 3) := by decide +kernel
theorem dX6_init_22 : decode cX6_init 22 = .ok (.aload_n 0, 1) := by decide +kernel
theorem dX6_init_23 : decode cX6_init 23 = .ok (.bipush 40, 2) := by decide +kernel
theorem dX6_init_25 : decode cX6_init 25 = .ok (.anewarray 21, 3) := by decide +kernel
theorem dX6_init_28 : decode cX6_init 28 = .ok (.putfield 23, 3) := by decide +kernel
theorem dX6_init_31 : decode cX6_init 31 = .ok (.aload_n 0, 1) := by decide +kernel
theorem dX6_init_32 : decode cX6_init 32 = .ok (.bipush 6, 2) := by decide +kernel
theorem dX6_init_34 : decode cX6_init 34 = .ok (.anewarray 27, 3) := by decide +kernel
theorem dX6_init_37 : decode cX6_init 37 = .ok (.putfield 29, 3) := by decide +kernel
theorem dX6_init_40 : decode cX6_init 40 = .ok (.aload_n 0, 1) := by decide +kernel
theorem dX6_init_41 : decode cX6_init 41 = .ok (.iconst 4, 1) := by decide +kernel
theorem dX6_init_42 : decode cX6_init 42 = .ok (.anewarray 33, 3) := by decide +kernel
theorem dX6_init_45 : decode cX6_init 45 = .ok (.putfield 35, 3) := by decide +kernel
theorem dX6_init_48 : decode cX6_init 48 = .ok (.aload_n 0, 1) := by decide +kernel
theorem dX6_init_49 : decode cX6_init 49 = .ok (.new 39, 3) := by decide +kernel
theorem dX6_init_52 : decode cX6_init 52 = .ok (.dup, 1) := by decide +kernel
theorem dX6_init_53 : decode cX6_init 53 = .ok (.invokespecial 41, 3) := by decide +kernel
theorem dX6_init_56 : decode cX6_init 56 = .ok (.putfield 42, 3) := by decide +kernel
theorem dX6_init_59 : decode cX6_init 59 = .ok (.aload_n 0, 1) := by decide +kernel
theorem dX6_init_60 : decode cX6_init 60 = .ok (.iconst 3, 1) := by decide +kernel
theorem dX6_init_61 : decode cX6_init 61 = .ok (.newarray .int, 2) := by decide +kernel
theorem dX6_init_63 : decode cX6_init 63 = .ok (.putfield 46, 3) := by decide +kernel
theorem dX6_init_66 : decode cX6_init 66 = .ok (.aload_n 0, 1) := by decide +kernel
theorem dX6_init_67 : decode cX6_init 67 = .ok (.iconst 3, 1) := by decide +kernel
theorem dX6_init_68 : decode cX6_init 68 = .ok (.newarray .int, 2) := by decide +kernel
theorem dX6_init_70 : decode cX6_init 70 = .ok (.putfield 50, 3) := by decide +kernel
theorem dX6_init_73 : decode cX6_init 73 = .ok (.iconst 0, 1) := by decide +kernel
theorem dX6_init_74 : decode cX6_init 74 = .ok (.istore_n 1, 1) := by decide +kernel
set_option maxHeartbeats 4000000 in
set_option maxRecDepth 100000 in
theorem c_X6_init (l : Launch) (htr : l.stackTraces = false) (dC : Nat → ClassId) (dI : Nat → Nat → Nat) (e0 sz : Nat) (h0 : Nat) : Met l yX6_init wsX6_init ({ frames := 6, cells := 78, slots := 1053, locals := 120 }) (va_Pc [.ref h0] (fun U => U.heap.size = sz ∧ va_P (dC, dI) vwCl [(h0, .inr (11, [.null, .int 0, .null, .int 0, .null, .int 0, .null, .int 0, .long 0, .int 0, .int 0, .null, .null, .null, .null, .int 0]))] U.heap ∧ va_K (dC, dI) vwCl [] U ∧ va_D (fun _ => True) [(h0, .inr (11, [.null, .int 0, .null, .int 0, .null, .int 0, .null, .int 0, .long 0, .int 0, .int 0, .null, .null, .null, .null, .int 0]))] ∧ zE e0 (va_A [(h0, .inr (11, [.null, .int 0, .null, .int 0, .null, .int 0, .null, .int 0, .long 0, .int 0, .int 0, .null, .null, .null, .null, .int 0]))] sz) U U.heap)) (va_Qv (fun _ : Unit => True) (fun _ t => ∃ (a : Nat → Nat), ∃ (cL : ClassId), ∃ (cT : ClassId), va_P (dC, dI) vwCl [(h0, .inr (11, zC a)), ((a 0), .inl (cL, 10, .inr (.inr (.inr (.inr (fun _ => none)))))), ((a 3), .inl (cT, 6, .inr (.inr (.inr (.inr (fun _ => none))))))] t.heap ∧ va_K (dC, dI) vwCl [(cL, (.object RX1)), (cT, (.object RX5))] t ∧ va_D (va_A [(h0, .inr (11, [.null, .int 0, .null, .int 0, .null, .int 0, .null, .int 0, .long 0, .int 0, .int 0, .null, .null, .null, .null, .int 0]))] sz) [(h0, .inr (11, zC a)), ((a 0), .inl (cL, 10, .inr (.inr (.inr (.inr (fun _ => none)))))), ((a 3), .inl (cT, 6, .inr (.inr (.inr (.inr (fun _ => none))))))]) (va_A [(h0, .inr (11, [.null, .int 0, .null, .int 0, .null, .int 0, .null, .int 0, .long 0, .int 0, .int 0, .null, .null, .null, .null, .int 0]))] sz)) 78 1053 (va_A [(h0, .inr (11, [.null, .int 0, .null, .int 0, .null, .int 0, .null, .int 0, .long 0, .int 0, .int 0, .null, .null, .null, .null, .int 0]))] sz) := by
  refine Met.ofW (cc := cX6_init) (maxL := 3) (ret := none) (by decide) rfl ?_
  intro p e s m args below meth c s₁ B hml hv
  obtain ⟨rfl, hsz, hP, hK, hD0, hE⟩ := hv
  have hx := B.exec
  have hb := B.bytes
  have hr := B.returns
  have hts := atoms_spec (ws := wsX6_init) B.pre
  have hown : s.vm.findClass RX6 = some m.cls := findClass_of_methodNamed B.named
  have hlocks := B.notSynchronized
  have hin : meth.name = "<init>" := (name_of_methodNamed B.named B.method).1
  subst hsz
  have hD := hD0.self (sz := s.heap.size)
  generalize hAe : va_A [(h0, .inr (11, [.null, .int 0, .null, .int 0, .null, .int 0, .null, .int 0, .long 0, .int 0, .int 0, .null, .null, .null, .null, .int 0]))] s.heap.size = A at hD hE ⊢
  have hA : ∀ q : Nat, s.heap.size ≤ q → A q := fun q h => by rw [← hAe]; exact Or.inr h
  have hS : va_S A s.heap s.heap [] := va_S.rf
  have hl := lv_entry ([.ref h0]) (n := 3) (Nat.le_of_ble_eq_true rfl)
  rw [lg_entry_eq]
  generalize (lg_sl ([.ref h0]) ++ List.replicate (3 - (lg_sl ([.ref h0])).length) Slot.unset).toArray = ls at hl ⊢
  have hl : lv_has ls 3 [(0, .ref h0)] := hl
  refine lv_aload_n hx hb dX6_init_0 rfl (lv_at hl 0 rfl) ?_
  refine W.objInit hx hb hown (hts (.methodLink RX6 1 objectInit) (by decide +kernel)) (hts (.instanceMethod objectInit) (by decide +kernel)) (hts (.code objectInit ⟨#[0xb1]⟩ 1 none) (by decide +kernel)) rfl (by rw [hml]; exact hl.1) rfl dX6_init_1 (Nat.le_of_ble_eq_true rfl) (Nat.le_of_ble_eq_true rfl) ?_
  refine W.eq (g2 := F0 m 4 ls []) rfl ?_
  refine lv_aload_n hx hb dX6_init_4 rfl (lv_at hl 0 rfl) ?_
  refine lv_bipush (v := 10) hx hb dX6_init_5 (by decide) ?_
  refine va_newq (C := RX1) (N' := 10) hx hb hown (hts (.classLink RX6 9 RX1) (by decide +kernel)) (zV_A_Gangline_Leg hE.v) hK hP hD hS hA (by decide) (by decide) (by decide) (Nat.le_of_ble_eq_true rfl) (Nat.le_of_ble_eq_true rfl) dX6_init_7 (fun q1 k2 H hK hP hD hS => ?_)
  have hK : va_K (dC, dI) vwCl [(k2, (.object RX1))] s := hK
  have hP : va_P (dC, dI) vwCl [(h0, .inr (11, [.null, .int 0, .null, .int 0, .null, .int 0, .null, .int 0, .long 0, .int 0, .int 0, .null, .null, .null, .null, .int 0])), (q1, .inl (k2, 10, .inr (.inr (.inr (.inr (fun _ => none))))))] H := hP
  have hD : va_D A [(h0, .inr (11, [.null, .int 0, .null, .int 0, .null, .int 0, .null, .int 0, .long 0, .int 0, .int 0, .null, .null, .null, .null, .int 0])), (q1, .inl (k2, 10, .inr (.inr (.inr (.inr (fun _ => none))))))] := hD
  refine W.widen (k := 1) (n := 10) (by decide) (by decide) ?_
  refine va_putF (D := (dC, dI)) (ci := 11) (v := .ref q1) (ty := (.array (.object "Gangline$Leg"))) (C := RX6) (T := TX6) (N := 16) hx hb hts (by decide +kernel) tyX6 tyX6_ok nmX6 hown hK hP hD hS 0 rfl rfl 0 (by decide) (hts (.fieldLink RX6 11 "Gangline" "legs" "[LGangline$Leg;") (by decide +kernel)) (fun _ h9 => h9) rfl hin rfl (by decide +kernel) rfl rfl (Nat.le_of_ble_eq_true rfl) dX6_init_10 (fun H locs hP hD hS => ?_)
  have hP : va_P (dC, dI) vwCl [(h0, .inr (11, [.ref q1, .int 0, .null, .int 0, .null, .int 0, .null, .int 0, .long 0, .int 0, .int 0, .null, .null, .null, .null, .int 0])), (q1, .inl (k2, 10, .inr (.inr (.inr (.inr (fun _ => none))))))] H := hP
  have hD : va_D A [(h0, .inr (11, [.ref q1, .int 0, .null, .int 0, .null, .int 0, .null, .int 0, .long 0, .int 0, .int 0, .null, .null, .null, .null, .int 0])), (q1, .inl (k2, 10, .inr (.inr (.inr (.inr (fun _ => none))))))] := hD
  refine lv_aload_n hx hb dX6_init_13 rfl (lv_at hl 0 rfl) ?_
  refine lv_bipush (v := 12) hx hb dX6_init_14 (by decide) ?_
  refine va_newq (C := RX4) (N' := 12) hx hb hown (hts (.classLink RX6 15 RX4) (by decide +kernel)) (zV_A_Gangline_Storm hE.v) hK hP hD hS hA (by decide) (by decide) (by decide) (Nat.le_of_ble_eq_true rfl) (Nat.le_of_ble_eq_true rfl) dX6_init_16 (fun q3 k4 H hK hP hD hS => ?_)
  have hK : va_K (dC, dI) vwCl [(k2, (.object RX1)), (k4, (.object RX4))] s := hK
  have hP : va_P (dC, dI) vwCl [(h0, .inr (11, [.ref q1, .int 0, .null, .int 0, .null, .int 0, .null, .int 0, .long 0, .int 0, .int 0, .null, .null, .null, .null, .int 0])), (q1, .inl (k2, 10, .inr (.inr (.inr (.inr (fun _ => none)))))), (q3, .inl (k4, 12, .inr (.inr (.inr (.inr (fun _ => none))))))] H := hP
  have hD : va_D A [(h0, .inr (11, [.ref q1, .int 0, .null, .int 0, .null, .int 0, .null, .int 0, .long 0, .int 0, .int 0, .null, .null, .null, .null, .int 0])), (q1, .inl (k2, 10, .inr (.inr (.inr (.inr (fun _ => none)))))), (q3, .inl (k4, 12, .inr (.inr (.inr (.inr (fun _ => none))))))] := hD
  refine W.widen (k := 2) (n := 22) (by decide) (by decide) ?_
  refine va_putF (D := (dC, dI)) (ci := 11) (v := .ref q3) (ty := (.array (.object "Gangline$Storm"))) (C := RX6) (T := TX6) (N := 16) hx hb hts (by decide +kernel) tyX6 tyX6_ok nmX6 hown hK hP hD hS 0 rfl rfl 2 (by decide) (hts (.fieldLink RX6 17 "Gangline" "storms" "[LGangline$Storm;") (by decide +kernel)) (fun _ h9 => h9) rfl hin rfl (by decide +kernel) rfl rfl (Nat.le_of_ble_eq_true rfl) dX6_init_19 (fun H locs hP hD hS => ?_)
  have hP : va_P (dC, dI) vwCl [(h0, .inr (11, [.ref q1, .int 0, .ref q3, .int 0, .null, .int 0, .null, .int 0, .long 0, .int 0, .int 0, .null, .null, .null, .null, .int 0])), (q1, .inl (k2, 10, .inr (.inr (.inr (.inr (fun _ => none)))))), (q3, .inl (k4, 12, .inr (.inr (.inr (.inr (fun _ => none))))))] H := hP
  have hD : va_D A [(h0, .inr (11, [.ref q1, .int 0, .ref q3, .int 0, .null, .int 0, .null, .int 0, .long 0, .int 0, .int 0, .null, .null, .null, .null, .int 0])), (q1, .inl (k2, 10, .inr (.inr (.inr (.inr (fun _ => none)))))), (q3, .inl (k4, 12, .inr (.inr (.inr (.inr (fun _ => none))))))] := hD
  have hP := hP.sub (ws' := [(h0, .inr (11, [.ref q1, .int 0, .ref q3, .int 0, .null, .int 0, .null, .int 0, .long 0, .int 0, .int 0, .null, .null, .null, .null, .int 0])), (q1, .inl (k2, 10, .inr (.inr (.inr (.inr (fun _ => none))))))]) [0, 1] rfl
  have hD := hD.sub (ws' := [(h0, .inr (11, [.ref q1, .int 0, .ref q3, .int 0, .null, .int 0, .null, .int 0, .long 0, .int 0, .int 0, .null, .null, .null, .null, .int 0])), (q1, .inl (k2, 10, .inr (.inr (.inr (.inr (fun _ => none))))))]) [0, 1] (by decide) rfl
  refine lv_aload_n hx hb dX6_init_22 rfl (lv_at hl 0 rfl) ?_
  refine lv_bipush (v := 40) hx hb dX6_init_23 (by decide) ?_
  refine va_newq (C := RX0) (N' := 40) hx hb hown (hts (.classLink RX6 21 RX0) (by decide +kernel)) (zV_A_Gangline_Dog hE.v) hK hP hD hS hA (by decide) (by decide) (by decide) (Nat.le_of_ble_eq_true rfl) (Nat.le_of_ble_eq_true rfl) dX6_init_25 (fun q5 k6 H hK hP hD hS => ?_)
  have hK : va_K (dC, dI) vwCl [(k2, (.object RX1)), (k4, (.object RX4)), (k6, (.object RX0))] s := hK
  have hP : va_P (dC, dI) vwCl [(h0, .inr (11, [.ref q1, .int 0, .ref q3, .int 0, .null, .int 0, .null, .int 0, .long 0, .int 0, .int 0, .null, .null, .null, .null, .int 0])), (q1, .inl (k2, 10, .inr (.inr (.inr (.inr (fun _ => none)))))), (q5, .inl (k6, 40, .inr (.inr (.inr (.inr (fun _ => none))))))] H := hP
  have hD : va_D A [(h0, .inr (11, [.ref q1, .int 0, .ref q3, .int 0, .null, .int 0, .null, .int 0, .long 0, .int 0, .int 0, .null, .null, .null, .null, .int 0])), (q1, .inl (k2, 10, .inr (.inr (.inr (.inr (fun _ => none)))))), (q5, .inl (k6, 40, .inr (.inr (.inr (.inr (fun _ => none))))))] := hD
  refine W.widen (k := 3) (n := 62) (by decide) (by decide) ?_
  refine va_putF (D := (dC, dI)) (ci := 11) (v := .ref q5) (ty := (.array (.object "Gangline$Dog"))) (C := RX6) (T := TX6) (N := 16) hx hb hts (by decide +kernel) tyX6 tyX6_ok nmX6 hown hK hP hD hS 0 rfl rfl 4 (by decide) (hts (.fieldLink RX6 23 "Gangline" "dogs" "[LGangline$Dog;") (by decide +kernel)) (fun _ h9 => h9) rfl hin rfl (by decide +kernel) rfl rfl (Nat.le_of_ble_eq_true rfl) dX6_init_28 (fun H locs hP hD hS => ?_)
  have hP : va_P (dC, dI) vwCl [(h0, .inr (11, [.ref q1, .int 0, .ref q3, .int 0, .ref q5, .int 0, .null, .int 0, .long 0, .int 0, .int 0, .null, .null, .null, .null, .int 0])), (q1, .inl (k2, 10, .inr (.inr (.inr (.inr (fun _ => none)))))), (q5, .inl (k6, 40, .inr (.inr (.inr (.inr (fun _ => none))))))] H := hP
  have hD : va_D A [(h0, .inr (11, [.ref q1, .int 0, .ref q3, .int 0, .ref q5, .int 0, .null, .int 0, .long 0, .int 0, .int 0, .null, .null, .null, .null, .int 0])), (q1, .inl (k2, 10, .inr (.inr (.inr (.inr (fun _ => none)))))), (q5, .inl (k6, 40, .inr (.inr (.inr (.inr (fun _ => none))))))] := hD
  have hP := hP.sub (ws' := [(h0, .inr (11, [.ref q1, .int 0, .ref q3, .int 0, .ref q5, .int 0, .null, .int 0, .long 0, .int 0, .int 0, .null, .null, .null, .null, .int 0])), (q1, .inl (k2, 10, .inr (.inr (.inr (.inr (fun _ => none))))))]) [0, 1] rfl
  have hD := hD.sub (ws' := [(h0, .inr (11, [.ref q1, .int 0, .ref q3, .int 0, .ref q5, .int 0, .null, .int 0, .long 0, .int 0, .int 0, .null, .null, .null, .null, .int 0])), (q1, .inl (k2, 10, .inr (.inr (.inr (.inr (fun _ => none))))))]) [0, 1] (by decide) rfl
  refine lv_aload_n hx hb dX6_init_31 rfl (lv_at hl 0 rfl) ?_
  refine lv_bipush (v := 6) hx hb dX6_init_32 (by decide) ?_
  refine va_newq (C := RX5) (N' := 6) hx hb hown (hts (.classLink RX6 27 RX5) (by decide +kernel)) (zV_A_Gangline_Team hE.v) hK hP hD hS hA (by decide) (by decide) (by decide) (Nat.le_of_ble_eq_true rfl) (Nat.le_of_ble_eq_true rfl) dX6_init_34 (fun q7 k8 H hK hP hD hS => ?_)
  have hK : va_K (dC, dI) vwCl [(k2, (.object RX1)), (k4, (.object RX4)), (k6, (.object RX0)), (k8, (.object RX5))] s := hK
  have hP : va_P (dC, dI) vwCl [(h0, .inr (11, [.ref q1, .int 0, .ref q3, .int 0, .ref q5, .int 0, .null, .int 0, .long 0, .int 0, .int 0, .null, .null, .null, .null, .int 0])), (q1, .inl (k2, 10, .inr (.inr (.inr (.inr (fun _ => none)))))), (q7, .inl (k8, 6, .inr (.inr (.inr (.inr (fun _ => none))))))] H := hP
  have hD : va_D A [(h0, .inr (11, [.ref q1, .int 0, .ref q3, .int 0, .ref q5, .int 0, .null, .int 0, .long 0, .int 0, .int 0, .null, .null, .null, .null, .int 0])), (q1, .inl (k2, 10, .inr (.inr (.inr (.inr (fun _ => none)))))), (q7, .inl (k8, 6, .inr (.inr (.inr (.inr (fun _ => none))))))] := hD
  refine W.widen (k := 4) (n := 68) (by decide) (by decide) ?_
  refine va_putF (D := (dC, dI)) (ci := 11) (v := .ref q7) (ty := (.array (.object "Gangline$Team"))) (C := RX6) (T := TX6) (N := 16) hx hb hts (by decide +kernel) tyX6 tyX6_ok nmX6 hown hK hP hD hS 0 rfl rfl 6 (by decide) (hts (.fieldLink RX6 29 "Gangline" "teams" "[LGangline$Team;") (by decide +kernel)) (fun _ h9 => h9) rfl hin rfl (by decide +kernel) rfl rfl (Nat.le_of_ble_eq_true rfl) dX6_init_37 (fun H locs hP hD hS => ?_)
  have hP : va_P (dC, dI) vwCl [(h0, .inr (11, [.ref q1, .int 0, .ref q3, .int 0, .ref q5, .int 0, .ref q7, .int 0, .long 0, .int 0, .int 0, .null, .null, .null, .null, .int 0])), (q1, .inl (k2, 10, .inr (.inr (.inr (.inr (fun _ => none)))))), (q7, .inl (k8, 6, .inr (.inr (.inr (.inr (fun _ => none))))))] H := hP
  have hD : va_D A [(h0, .inr (11, [.ref q1, .int 0, .ref q3, .int 0, .ref q5, .int 0, .ref q7, .int 0, .long 0, .int 0, .int 0, .null, .null, .null, .null, .int 0])), (q1, .inl (k2, 10, .inr (.inr (.inr (.inr (fun _ => none)))))), (q7, .inl (k8, 6, .inr (.inr (.inr (.inr (fun _ => none))))))] := hD
  refine lv_aload_n hx hb dX6_init_40 rfl (lv_at hl 0 rfl) ?_
  refine lv_iconst (v := 4) hx hb dX6_init_41 (by decide) ?_
  refine va_newq (C := RX2) (N' := 4) hx hb hown (hts (.classLink RX6 33 RX2) (by decide +kernel)) (zV_A_Gangline_Party hE.v) hK hP hD hS hA (by decide) (by decide) (by decide) (Nat.le_of_ble_eq_true rfl) (Nat.le_of_ble_eq_true rfl) dX6_init_42 (fun q9 k10 H hK hP hD hS => ?_)
  have hK : va_K (dC, dI) vwCl [(k2, (.object RX1)), (k4, (.object RX4)), (k6, (.object RX0)), (k8, (.object RX5)), (k10, (.object RX2))] s := hK
  have hP : va_P (dC, dI) vwCl [(h0, .inr (11, [.ref q1, .int 0, .ref q3, .int 0, .ref q5, .int 0, .ref q7, .int 0, .long 0, .int 0, .int 0, .null, .null, .null, .null, .int 0])), (q1, .inl (k2, 10, .inr (.inr (.inr (.inr (fun _ => none)))))), (q7, .inl (k8, 6, .inr (.inr (.inr (.inr (fun _ => none)))))), (q9, .inl (k10, 4, .inr (.inr (.inr (.inr (fun _ => none))))))] H := hP
  have hD : va_D A [(h0, .inr (11, [.ref q1, .int 0, .ref q3, .int 0, .ref q5, .int 0, .ref q7, .int 0, .long 0, .int 0, .int 0, .null, .null, .null, .null, .int 0])), (q1, .inl (k2, 10, .inr (.inr (.inr (.inr (fun _ => none)))))), (q7, .inl (k8, 6, .inr (.inr (.inr (.inr (fun _ => none)))))), (q9, .inl (k10, 4, .inr (.inr (.inr (.inr (fun _ => none))))))] := hD
  refine W.widen (k := 5) (n := 72) (by decide) (by decide) ?_
  refine va_putF (D := (dC, dI)) (ci := 11) (v := .ref q9) (ty := (.array (.object "Gangline$Party"))) (C := RX6) (T := TX6) (N := 16) hx hb hts (by decide +kernel) tyX6 tyX6_ok nmX6 hown hK hP hD hS 0 rfl rfl 11 (by decide) (hts (.fieldLink RX6 35 "Gangline" "trials" "[LGangline$Party;") (by decide +kernel)) (fun _ h9 => h9) rfl hin rfl (by decide +kernel) rfl rfl (Nat.le_of_ble_eq_true rfl) dX6_init_45 (fun H locs hP hD hS => ?_)
  have hP : va_P (dC, dI) vwCl [(h0, .inr (11, [.ref q1, .int 0, .ref q3, .int 0, .ref q5, .int 0, .ref q7, .int 0, .long 0, .int 0, .int 0, .ref q9, .null, .null, .null, .int 0])), (q1, .inl (k2, 10, .inr (.inr (.inr (.inr (fun _ => none)))))), (q7, .inl (k8, 6, .inr (.inr (.inr (.inr (fun _ => none)))))), (q9, .inl (k10, 4, .inr (.inr (.inr (.inr (fun _ => none))))))] H := hP
  have hD : va_D A [(h0, .inr (11, [.ref q1, .int 0, .ref q3, .int 0, .ref q5, .int 0, .ref q7, .int 0, .long 0, .int 0, .int 0, .ref q9, .null, .null, .null, .int 0])), (q1, .inl (k2, 10, .inr (.inr (.inr (.inr (fun _ => none)))))), (q7, .inl (k8, 6, .inr (.inr (.inr (.inr (fun _ => none)))))), (q9, .inl (k10, 4, .inr (.inr (.inr (.inr (fun _ => none))))))] := hD
  refine lv_aload_n hx hb dX6_init_48 rfl (lv_at hl 0 rfl) ?_
  refine va_new (ci := 8) (fs := [.null, .null, .int 0]) (C := RX3) (T := TX3) (N := 3) hx hb hts (by decide +kernel) tyX3 tyX3_ok hown (hts (.classLink RX6 39 RX3) (by decide +kernel)) (hts (.instantiable RX3 3) (by decide +kernel)) (hts (.initialized RX3) (by decide +kernel)) hK hP hD hS hA rfl (fun j hj => by rcases (show j = 0 ∨ j = 1 ∨ j = 2 by omega) with rfl | rfl | rfl <;> rfl) (Nat.le_of_ble_eq_true rfl) (Nat.le_of_ble_eq_true rfl) dX6_init_49 (fun q11 H hP hD hS => ?_)
  have hP : va_P (dC, dI) vwCl [(h0, .inr (11, [.ref q1, .int 0, .ref q3, .int 0, .ref q5, .int 0, .ref q7, .int 0, .long 0, .int 0, .int 0, .ref q9, .null, .null, .null, .int 0])), (q1, .inl (k2, 10, .inr (.inr (.inr (.inr (fun _ => none)))))), (q7, .inl (k8, 6, .inr (.inr (.inr (.inr (fun _ => none)))))), (q9, .inl (k10, 4, .inr (.inr (.inr (.inr (fun _ => none)))))), (q11, .inr (8, [.null, .null, .int 0]))] H := hP
  have hD : va_D A [(h0, .inr (11, [.ref q1, .int 0, .ref q3, .int 0, .ref q5, .int 0, .ref q7, .int 0, .long 0, .int 0, .int 0, .ref q9, .null, .null, .null, .int 0])), (q1, .inl (k2, 10, .inr (.inr (.inr (.inr (fun _ => none)))))), (q7, .inl (k8, 6, .inr (.inr (.inr (.inr (fun _ => none)))))), (q9, .inl (k10, 4, .inr (.inr (.inr (.inr (fun _ => none)))))), (q11, .inr (8, [.null, .null, .int 0]))] := hD
  refine W.widen (k := 6) (n := 75) (by decide) (by decide) ?_
  refine lv_dup hx hb dX6_init_52 rfl ?_
  have hPc := hP.sub (ws' := [(q11, .inr (8, [.null, .null, .int 0]))]) [4] rfl
  have hDc := hD.sub (ws' := [(q11, .inr (8, [.null, .null, .int 0]))]) [4] (by decide) rfl
  have hKc := hK.sub (tys' := []) [] rfl
  have hFc := va_free (wc := [(q11, .inr (8, [.null, .null, .int 0]))]) hD hS hA [4] rfl
  refine va_callv (va_runIN (As := []) (rest := [.ref q11, .ref h0]) ⟨hx, hb, hml, hown, hts⟩ (c_X3_init l htr dC dI e0 H.size q11) ⟨va_cnB 0 hts gX6_init_X3_init_n41 rfl rfl rfl (zV_M41_Gangline hE.v) (hts (.initialized RX3) (by decide +kernel)) (by decide +kernel) ⟨Nat.le_of_ble_eq_true rfl, Nat.le_of_ble_eq_true rfl⟩, rfl, hts (.instanceMethod yX3_init) (by decide +kernel)⟩ ⟨fun a U g mk q => by obtain ⟨q0, q1, qP, qK, qD⟩ := q; exact ⟨q0, q1, qP, va_K.moved (u := U) (U := U.calling g mk a) (Vm.Alike.refl U.vm) qK, qD⟩, fun U hU hW => ⟨rfl, by rw [hU], by rw [hU]; exact hPc, va_K.moved hW.alike hKc, hDc.weaken (fun _ _ _ _ => trivial)⟩⟩ rfl rfl hl.1 rfl (lv_room (Nat.le_of_ble_eq_true rfl)) dX6_init_53 ⟨Nat.le_of_ble_eq_true rfl, Nat.le_of_ble_eq_true rfl⟩) hS (fun q _ h => hFc q h) hFc (fun u t H1 locs ht hvm hw hB hz1 hk1 hS => ?_)
  obtain ⟨q12, q13, hP1, hK1, hD1⟩ := hB
  rw [ht] at hP1
  obtain ⟨hP, hD⟩ := va_join (wr := [(h0, .inr (11, [.ref q1, .int 0, .ref q3, .int 0, .ref q5, .int 0, .ref q7, .int 0, .long 0, .int 0, .int 0, .ref q9, .null, .null, .null, .int 0])), (q1, .inl (k2, 10, .inr (.inr (.inr (.inr (fun _ => none)))))), (q7, .inl (k8, 6, .inr (.inr (.inr (.inr (fun _ => none)))))), (q9, .inl (k10, 4, .inr (.inr (.inr (.inr (fun _ => none))))))]) (w1 := [(q11, .inr (8, [.ref q12, .ref q13, .int 0]))]) hP hD [4] [0, 1, 2, 3] rfl rfl (by decide) (by decide) hk1 hFc hP1 hD1
  generalize H1 = H at hP hS ⊢
  have hP : va_P (dC, dI) vwCl [(h0, .inr (11, [.ref q1, .int 0, .ref q3, .int 0, .ref q5, .int 0, .ref q7, .int 0, .long 0, .int 0, .int 0, .ref q9, .null, .null, .null, .int 0])), (q1, .inl (k2, 10, .inr (.inr (.inr (.inr (fun _ => none)))))), (q7, .inl (k8, 6, .inr (.inr (.inr (.inr (fun _ => none)))))), (q9, .inl (k10, 4, .inr (.inr (.inr (.inr (fun _ => none)))))), (q11, .inr (8, [.ref q12, .ref q13, .int 0]))] H := hP
  have hD : va_D A [(h0, .inr (11, [.ref q1, .int 0, .ref q3, .int 0, .ref q5, .int 0, .ref q7, .int 0, .long 0, .int 0, .int 0, .ref q9, .null, .null, .null, .int 0])), (q1, .inl (k2, 10, .inr (.inr (.inr (.inr (fun _ => none)))))), (q7, .inl (k8, 6, .inr (.inr (.inr (.inr (fun _ => none)))))), (q9, .inl (k10, 4, .inr (.inr (.inr (.inr (fun _ => none)))))), (q11, .inr (8, [.ref q12, .ref q13, .int 0]))] := hD
  refine va_putF (D := (dC, dI)) (ci := 11) (v := .ref q11) (ty := (.object "Gangline$Plan")) (C := RX6) (T := TX6) (N := 16) hx hb hts (by decide +kernel) tyX6 tyX6_ok nmX6 hown hK hP hD hS 0 rfl rfl 12 (by decide) (hts (.fieldLink RX6 42 "Gangline" "choicePlan" "LGangline$Plan;") (by decide +kernel)) (fun _ h9 => h9) rfl hin rfl (by decide +kernel) rfl rfl (Nat.le_of_ble_eq_true rfl) dX6_init_56 (fun H locs hP hD hS => ?_)
  have hP : va_P (dC, dI) vwCl [(h0, .inr (11, [.ref q1, .int 0, .ref q3, .int 0, .ref q5, .int 0, .ref q7, .int 0, .long 0, .int 0, .int 0, .ref q9, .ref q11, .null, .null, .int 0])), (q1, .inl (k2, 10, .inr (.inr (.inr (.inr (fun _ => none)))))), (q7, .inl (k8, 6, .inr (.inr (.inr (.inr (fun _ => none)))))), (q9, .inl (k10, 4, .inr (.inr (.inr (.inr (fun _ => none)))))), (q11, .inr (8, [.ref q12, .ref q13, .int 0]))] H := hP
  have hD : va_D A [(h0, .inr (11, [.ref q1, .int 0, .ref q3, .int 0, .ref q5, .int 0, .ref q7, .int 0, .long 0, .int 0, .int 0, .ref q9, .ref q11, .null, .null, .int 0])), (q1, .inl (k2, 10, .inr (.inr (.inr (.inr (fun _ => none)))))), (q7, .inl (k8, 6, .inr (.inr (.inr (.inr (fun _ => none)))))), (q9, .inl (k10, 4, .inr (.inr (.inr (.inr (fun _ => none)))))), (q11, .inr (8, [.ref q12, .ref q13, .int 0]))] := hD
  have hP := hP.sub (ws' := [(h0, .inr (11, [.ref q1, .int 0, .ref q3, .int 0, .ref q5, .int 0, .ref q7, .int 0, .long 0, .int 0, .int 0, .ref q9, .ref q11, .null, .null, .int 0])), (q1, .inl (k2, 10, .inr (.inr (.inr (.inr (fun _ => none)))))), (q7, .inl (k8, 6, .inr (.inr (.inr (.inr (fun _ => none)))))), (q9, .inl (k10, 4, .inr (.inr (.inr (.inr (fun _ => none))))))]) [0, 1, 2, 3] rfl
  have hD := hD.sub (ws' := [(h0, .inr (11, [.ref q1, .int 0, .ref q3, .int 0, .ref q5, .int 0, .ref q7, .int 0, .long 0, .int 0, .int 0, .ref q9, .ref q11, .null, .null, .int 0])), (q1, .inl (k2, 10, .inr (.inr (.inr (.inr (fun _ => none)))))), (q7, .inl (k8, 6, .inr (.inr (.inr (.inr (fun _ => none)))))), (q9, .inl (k10, 4, .inr (.inr (.inr (.inr (fun _ => none))))))]) [0, 1, 2, 3] (by decide) rfl
  refine lv_aload_n hx hb dX6_init_59 rfl (lv_at hl 0 rfl) ?_
  refine lv_iconst (v := 3) hx hb dX6_init_60 (by decide) ?_
  refine va_newa (atype := .int) (ty := .int) (N' := 3) (a0 := (3, .inl (fun _ => 0))) hx hb (hts (.arrayClass .int) (by decide +kernel)) rfl hK hP hD hS hA (fun _ => rfl) (by decide) (by decide) (by decide) (Nat.le_of_ble_eq_true rfl) (Nat.le_of_ble_eq_true rfl) dX6_init_61 (fun q14 k15 H hK hP hD hS => ?_)
  have hK : va_K (dC, dI) vwCl [(k2, (.object RX1)), (k4, (.object RX4)), (k6, (.object RX0)), (k8, (.object RX5)), (k10, (.object RX2)), (k15, .int)] s := hK
  have hP : va_P (dC, dI) vwCl [(h0, .inr (11, [.ref q1, .int 0, .ref q3, .int 0, .ref q5, .int 0, .ref q7, .int 0, .long 0, .int 0, .int 0, .ref q9, .ref q11, .null, .null, .int 0])), (q1, .inl (k2, 10, .inr (.inr (.inr (.inr (fun _ => none)))))), (q7, .inl (k8, 6, .inr (.inr (.inr (.inr (fun _ => none)))))), (q9, .inl (k10, 4, .inr (.inr (.inr (.inr (fun _ => none)))))), (q14, .inl (k15, 3, .inl (fun _ => 0)))] H := hP
  have hD : va_D A [(h0, .inr (11, [.ref q1, .int 0, .ref q3, .int 0, .ref q5, .int 0, .ref q7, .int 0, .long 0, .int 0, .int 0, .ref q9, .ref q11, .null, .null, .int 0])), (q1, .inl (k2, 10, .inr (.inr (.inr (.inr (fun _ => none)))))), (q7, .inl (k8, 6, .inr (.inr (.inr (.inr (fun _ => none)))))), (q9, .inl (k10, 4, .inr (.inr (.inr (.inr (fun _ => none)))))), (q14, .inl (k15, 3, .inl (fun _ => 0)))] := hD
  refine W.widen (k := 9) (n := 102) (by decide) (by decide) ?_
  refine va_putF (D := (dC, dI)) (ci := 11) (v := .ref q14) (ty := (.array .int)) (C := RX6) (T := TX6) (N := 16) hx hb hts (by decide +kernel) tyX6 tyX6_ok nmX6 hown hK hP hD hS 0 rfl rfl 13 (by decide) (hts (.fieldLink RX6 46 "Gangline" "chosen" "[I") (by decide +kernel)) (fun _ h9 => h9) rfl hin rfl (by decide +kernel) rfl rfl (Nat.le_of_ble_eq_true rfl) dX6_init_63 (fun H locs hP hD hS => ?_)
  have hP : va_P (dC, dI) vwCl [(h0, .inr (11, [.ref q1, .int 0, .ref q3, .int 0, .ref q5, .int 0, .ref q7, .int 0, .long 0, .int 0, .int 0, .ref q9, .ref q11, .ref q14, .null, .int 0])), (q1, .inl (k2, 10, .inr (.inr (.inr (.inr (fun _ => none)))))), (q7, .inl (k8, 6, .inr (.inr (.inr (.inr (fun _ => none)))))), (q9, .inl (k10, 4, .inr (.inr (.inr (.inr (fun _ => none)))))), (q14, .inl (k15, 3, .inl (fun _ => 0)))] H := hP
  have hD : va_D A [(h0, .inr (11, [.ref q1, .int 0, .ref q3, .int 0, .ref q5, .int 0, .ref q7, .int 0, .long 0, .int 0, .int 0, .ref q9, .ref q11, .ref q14, .null, .int 0])), (q1, .inl (k2, 10, .inr (.inr (.inr (.inr (fun _ => none)))))), (q7, .inl (k8, 6, .inr (.inr (.inr (.inr (fun _ => none)))))), (q9, .inl (k10, 4, .inr (.inr (.inr (.inr (fun _ => none)))))), (q14, .inl (k15, 3, .inl (fun _ => 0)))] := hD
  have hP := hP.sub (ws' := [(h0, .inr (11, [.ref q1, .int 0, .ref q3, .int 0, .ref q5, .int 0, .ref q7, .int 0, .long 0, .int 0, .int 0, .ref q9, .ref q11, .ref q14, .null, .int 0])), (q1, .inl (k2, 10, .inr (.inr (.inr (.inr (fun _ => none)))))), (q7, .inl (k8, 6, .inr (.inr (.inr (.inr (fun _ => none)))))), (q9, .inl (k10, 4, .inr (.inr (.inr (.inr (fun _ => none))))))]) [0, 1, 2, 3] rfl
  have hD := hD.sub (ws' := [(h0, .inr (11, [.ref q1, .int 0, .ref q3, .int 0, .ref q5, .int 0, .ref q7, .int 0, .long 0, .int 0, .int 0, .ref q9, .ref q11, .ref q14, .null, .int 0])), (q1, .inl (k2, 10, .inr (.inr (.inr (.inr (fun _ => none)))))), (q7, .inl (k8, 6, .inr (.inr (.inr (.inr (fun _ => none)))))), (q9, .inl (k10, 4, .inr (.inr (.inr (.inr (fun _ => none))))))]) [0, 1, 2, 3] (by decide) rfl
  refine lv_aload_n hx hb dX6_init_66 rfl (lv_at hl 0 rfl) ?_
  refine lv_iconst (v := 3) hx hb dX6_init_67 (by decide) ?_
  refine va_newa (atype := .int) (ty := .int) (N' := 3) (a0 := (3, .inl (fun _ => 0))) hx hb (hts (.arrayClass .int) (by decide +kernel)) rfl hK hP hD hS hA (fun _ => rfl) (by decide) (by decide) (by decide) (Nat.le_of_ble_eq_true rfl) (Nat.le_of_ble_eq_true rfl) dX6_init_68 (fun q16 k17 H hK hP hD hS => ?_)
  have hK : va_K (dC, dI) vwCl [(k2, (.object RX1)), (k4, (.object RX4)), (k6, (.object RX0)), (k8, (.object RX5)), (k10, (.object RX2)), (k15, .int), (k17, .int)] s := hK
  have hP : va_P (dC, dI) vwCl [(h0, .inr (11, [.ref q1, .int 0, .ref q3, .int 0, .ref q5, .int 0, .ref q7, .int 0, .long 0, .int 0, .int 0, .ref q9, .ref q11, .ref q14, .null, .int 0])), (q1, .inl (k2, 10, .inr (.inr (.inr (.inr (fun _ => none)))))), (q7, .inl (k8, 6, .inr (.inr (.inr (.inr (fun _ => none)))))), (q9, .inl (k10, 4, .inr (.inr (.inr (.inr (fun _ => none)))))), (q16, .inl (k17, 3, .inl (fun _ => 0)))] H := hP
  have hD : va_D A [(h0, .inr (11, [.ref q1, .int 0, .ref q3, .int 0, .ref q5, .int 0, .ref q7, .int 0, .long 0, .int 0, .int 0, .ref q9, .ref q11, .ref q14, .null, .int 0])), (q1, .inl (k2, 10, .inr (.inr (.inr (.inr (fun _ => none)))))), (q7, .inl (k8, 6, .inr (.inr (.inr (.inr (fun _ => none)))))), (q9, .inl (k10, 4, .inr (.inr (.inr (.inr (fun _ => none)))))), (q16, .inl (k17, 3, .inl (fun _ => 0)))] := hD
  refine W.widen (k := 10) (n := 105) (by decide) (by decide) ?_
  refine va_putF (D := (dC, dI)) (ci := 11) (v := .ref q16) (ty := (.array .int)) (C := RX6) (T := TX6) (N := 16) hx hb hts (by decide +kernel) tyX6 tyX6_ok nmX6 hown hK hP hD hS 0 rfl rfl 14 (by decide) (hts (.fieldLink RX6 50 "Gangline" "best" "[I") (by decide +kernel)) (fun _ h9 => h9) rfl hin rfl (by decide +kernel) rfl rfl (Nat.le_of_ble_eq_true rfl) dX6_init_70 (fun H locs hP hD hS => ?_)
  have hP : va_P (dC, dI) vwCl [(h0, .inr (11, [.ref q1, .int 0, .ref q3, .int 0, .ref q5, .int 0, .ref q7, .int 0, .long 0, .int 0, .int 0, .ref q9, .ref q11, .ref q14, .ref q16, .int 0])), (q1, .inl (k2, 10, .inr (.inr (.inr (.inr (fun _ => none)))))), (q7, .inl (k8, 6, .inr (.inr (.inr (.inr (fun _ => none)))))), (q9, .inl (k10, 4, .inr (.inr (.inr (.inr (fun _ => none)))))), (q16, .inl (k17, 3, .inl (fun _ => 0)))] H := hP
  have hD : va_D A [(h0, .inr (11, [.ref q1, .int 0, .ref q3, .int 0, .ref q5, .int 0, .ref q7, .int 0, .long 0, .int 0, .int 0, .ref q9, .ref q11, .ref q14, .ref q16, .int 0])), (q1, .inl (k2, 10, .inr (.inr (.inr (.inr (fun _ => none)))))), (q7, .inl (k8, 6, .inr (.inr (.inr (.inr (fun _ => none)))))), (q9, .inl (k10, 4, .inr (.inr (.inr (.inr (fun _ => none)))))), (q16, .inl (k17, 3, .inl (fun _ => 0)))] := hD
  have hP := hP.sub (ws' := [(h0, .inr (11, [.ref q1, .int 0, .ref q3, .int 0, .ref q5, .int 0, .ref q7, .int 0, .long 0, .int 0, .int 0, .ref q9, .ref q11, .ref q14, .ref q16, .int 0])), (q1, .inl (k2, 10, .inr (.inr (.inr (.inr (fun _ => none)))))), (q7, .inl (k8, 6, .inr (.inr (.inr (.inr (fun _ => none)))))), (q9, .inl (k10, 4, .inr (.inr (.inr (.inr (fun _ => none))))))]) [0, 1, 2, 3] rfl
  have hD := hD.sub (ws' := [(h0, .inr (11, [.ref q1, .int 0, .ref q3, .int 0, .ref q5, .int 0, .ref q7, .int 0, .long 0, .int 0, .int 0, .ref q9, .ref q11, .ref q14, .ref q16, .int 0])), (q1, .inl (k2, 10, .inr (.inr (.inr (.inr (fun _ => none)))))), (q7, .inl (k8, 6, .inr (.inr (.inr (.inr (fun _ => none)))))), (q9, .inl (k10, 4, .inr (.inr (.inr (.inr (fun _ => none))))))]) [0, 1, 2, 3] (by decide) rfl
  refine lv_iconst (v := 0) hx hb dX6_init_73 (by decide) ?_
  refine lv_istore_n (lv' := [(1, .int 0), (0, .ref h0)]) hx hb dX6_init_74 rfl hl (by decide) rfl (fun ls hl => ?_)
  have hP9 := hP.sub (ws' := [(h0, .inr (11, zC (fun k => match k with | 0 => q1 | 1 => q3 | 2 => q5 | 3 => q7 | 4 => q9 | 5 => q11 | 6 => q14 | _ => q16))), (((fun k => match k with | 0 => q1 | 1 => q3 | 2 => q5 | 3 => q7 | 4 => q9 | 5 => q11 | 6 => q14 | _ => q16) 0), .inl (k2, 10, .inr (.inr (.inr (.inr (fun _ => none)))))), (((fun k => match k with | 0 => q1 | 1 => q3 | 2 => q5 | 3 => q7 | 4 => q9 | 5 => q11 | 6 => q14 | _ => q16) 3), .inl (k8, 6, .inr (.inr (.inr (.inr (fun _ => none)))))), (((fun k => match k with | 0 => q1 | 1 => q3 | 2 => q5 | 3 => q7 | 4 => q9 | 5 => q11 | 6 => q14 | _ => q16) 4), .inl (k10, 4, .inr (.inr (.inr (.inr (fun _ => none))))))]) [0, 1, 2, 3] rfl
  have hD9 := hD.sub (ws' := [(h0, .inr (11, zC (fun k => match k with | 0 => q1 | 1 => q3 | 2 => q5 | 3 => q7 | 4 => q9 | 5 => q11 | 6 => q14 | _ => q16))), (((fun k => match k with | 0 => q1 | 1 => q3 | 2 => q5 | 3 => q7 | 4 => q9 | 5 => q11 | 6 => q14 | _ => q16) 0), .inl (k2, 10, .inr (.inr (.inr (.inr (fun _ => none)))))), (((fun k => match k with | 0 => q1 | 1 => q3 | 2 => q5 | 3 => q7 | 4 => q9 | 5 => q11 | 6 => q14 | _ => q16) 3), .inl (k8, 6, .inr (.inr (.inr (.inr (fun _ => none)))))), (((fun k => match k with | 0 => q1 | 1 => q3 | 2 => q5 | 3 => q7 | 4 => q9 | 5 => q11 | 6 => q14 | _ => q16) 4), .inl (k10, 4, .inr (.inr (.inr (.inr (fun _ => none))))))]) [0, 1, 2, 3] (by decide) rfl
  have hK9 := hK.sub (tys' := [(k2, (.object RX1)), (k8, (.object RX5)), (k10, (.object RX2))]) [0, 3, 4] rfl
  refine W.widen (k := 10 + 17 * 0) (n := 105 + 237 * 0) (by decide) (by decide) ?_
  exact zi_outer l htr dC dI e0 h0 (fun k => match k with | 0 => q1 | 1 => q3 | 2 => q5 | 3 => q7 | 4 => q9 | 5 => q11 | 6 => q14 | _ => q16) k2 k8 k10 hx hb hml hts hown hE hA hr hlocks 4 0 rfl H locs (fun _ => none) ls hK9 hP9 hD9 hS (lv_sub hl [0, 1] rfl)

set_option maxRecDepth 20000 in
theorem ggX10_init_Jx4a65c_init_da8c8 : GoodIn wsX10_init wsJx4a65c_init_da8c8 := goodIn_r _ [13, 14, 15, 16, 17, 18, 19, 20, 21, 22, 23, 24, 25, 2, 3, 26, 27, 28] (by decide +kernel) (by decide +kernel)
set_option maxRecDepth 20000 in
theorem gX10_init_Jx4a65c_init_da8c8 : GoodIn wsX10_init (wsJx4a65c_init_da8c8) := ggX10_init_Jx4a65c_init_da8c8
theorem dX10_init_0 : decode cX10_init 0 = .ok (.aload_n 0, 1) := by decide +kernel
theorem dX10_init_1 : decode cX10_init 1 = .ok (.invokespecial 1, 3) := by decide +kernel
theorem dX10_init_4 : decode cX10_init 4 = .ok (.aload_n 0, 1) := by decide +kernel
theorem dX10_init_5 : decode cX10_init 5 = .ok (.new 7, 3) := by decide +kernel
theorem dX10_init_8 : decode cX10_init 8 = .ok (.dup, 1) := by decide +kernel
theorem dX10_init_9 : decode cX10_init 9 = .ok (.invokespecial 9, 3) := by decide +kernel
theorem dX10_init_12 : decode cX10_init 12 = .ok (.putfield 10, 3) := by decide +kernel
theorem dX10_init_15 : decode cX10_init 15 = .ok (.aload_n 0, 1) := by decide +kernel
theorem dX10_init_16 : decode cX10_init 16 = .ok (.new 7, 3) := by decide +kernel
theorem dX10_init_19 : decode cX10_init 19 = .ok (.dup, 1) := by decide +kernel
theorem dX10_init_20 : decode cX10_init 20 = .ok (.invokespecial 9, 3) := by decide +kernel
theorem dX10_init_23 : decode cX10_init 23 = .ok (.putfield 16, 3) := by decide +kernel
theorem dX10_init_26 : decode cX10_init 26 = .ok (.aload_n 0, 1) := by decide +kernel
theorem dX10_init_27 : decode cX10_init 27 = .ok (.new 7, 3) := by decide +kernel
theorem dX10_init_30 : decode cX10_init 30 = .ok (.dup, 1) := by decide +kernel
theorem dX10_init_31 : decode cX10_init 31 = .ok (.invokespecial 9, 3) := by decide +kernel
theorem dX10_init_34 : decode cX10_init 34 = .ok (.putfield 19, 3) := by decide +kernel
theorem dX10_init_37 : decode cX10_init 37 = .ok (.aload_n 0, 1) := by decide +kernel
theorem dX10_init_38 : decode cX10_init 38 = .ok (.new 7, 3) := by decide +kernel
theorem dX10_init_41 : decode cX10_init 41 = .ok (.dup, 1) := by decide +kernel
theorem dX10_init_42 : decode cX10_init 42 = .ok (.invokespecial 9, 3) := by decide +kernel
theorem dX10_init_45 : decode cX10_init 45 = .ok (.putfield 22, 3) := by decide +kernel
theorem dX10_init_48 : decode cX10_init 48 = .ok (.return_, 1) := by decide +kernel
set_option maxHeartbeats 4000000 in
set_option maxRecDepth 100000 in
theorem c_X10_init (l : Launch) (htr : l.stackTraces = false) (dC : Nat → ClassId) (dI : Nat → Nat → Nat) (e0 sz : Nat) (h0 : Nat) : Met l yX10_init wsX10_init ({ frames := 4, cells := 4, slots := 12, locals := 72 }) (va_Pc [.ref h0] (fun U => U.heap.size = sz ∧ va_P (dC, dI) vwCl [(h0, .inr (15, [.int 0, .null, .null, .null, .null, .int 0, .long 0, .int 0, .int 0, .int 0, .int 0]))] U.heap ∧ va_K (dC, dI) vwCl [] U ∧ va_D (fun _ => True) [(h0, .inr (15, [.int 0, .null, .null, .null, .null, .int 0, .long 0, .int 0, .int 0, .int 0, .int 0]))] ∧ zE e0 (va_A [(h0, .inr (15, [.int 0, .null, .null, .null, .null, .int 0, .long 0, .int 0, .int 0, .int 0, .int 0]))] sz) U U.heap)) (va_Qv (fun _ : Unit => True) (fun _ t => ∃ (b : Nat → Nat), va_P (dC, dI) vwCl [(h0, .inr (15, zM 0 b)), ((b 0), .inr (4, [.int 0, .ref e0, .int 0])), ((b 1), .inr (4, [.int 0, .ref e0, .int 0])), ((b 2), .inr (4, [.int 0, .ref e0, .int 0])), ((b 3), .inr (4, [.int 0, .ref e0, .int 0]))] t.heap ∧ va_K (dC, dI) vwCl [] t ∧ va_D (va_A [(h0, .inr (15, [.int 0, .null, .null, .null, .null, .int 0, .long 0, .int 0, .int 0, .int 0, .int 0]))] sz) [(h0, .inr (15, zM 0 b)), ((b 0), .inr (4, [.int 0, .ref e0, .int 0])), ((b 1), .inr (4, [.int 0, .ref e0, .int 0])), ((b 2), .inr (4, [.int 0, .ref e0, .int 0])), ((b 3), .inr (4, [.int 0, .ref e0, .int 0]))]) (va_A [(h0, .inr (15, [.int 0, .null, .null, .null, .null, .int 0, .long 0, .int 0, .int 0, .int 0, .int 0]))] sz)) 4 12 (va_A [(h0, .inr (15, [.int 0, .null, .null, .null, .null, .int 0, .long 0, .int 0, .int 0, .int 0, .int 0]))] sz) := by
  refine Met.ofW (cc := cX10_init) (maxL := 1) (ret := none) (by decide) rfl ?_
  intro p e s m args below meth c s₁ B hml hv
  obtain ⟨rfl, hsz, hP, hK, hD0, hE⟩ := hv
  have hx := B.exec
  have hb := B.bytes
  have hr := B.returns
  have hts := atoms_spec (ws := wsX10_init) B.pre
  have hown : s.vm.findClass RX10 = some m.cls := findClass_of_methodNamed B.named
  have hlocks := B.notSynchronized
  have hin : meth.name = "<init>" := (name_of_methodNamed B.named B.method).1
  subst hsz
  have hD := hD0.self (sz := s.heap.size)
  generalize hAe : va_A [(h0, .inr (15, [.int 0, .null, .null, .null, .null, .int 0, .long 0, .int 0, .int 0, .int 0, .int 0]))] s.heap.size = A at hD hE ⊢
  have hA : ∀ q : Nat, s.heap.size ≤ q → A q := fun q h => by rw [← hAe]; exact Or.inr h
  have hS : va_S A s.heap s.heap [] := va_S.rf
  have hl := lv_entry ([.ref h0]) (n := 1) (Nat.le_of_ble_eq_true rfl)
  rw [lg_entry_eq]
  generalize (lg_sl ([.ref h0]) ++ List.replicate (1 - (lg_sl ([.ref h0])).length) Slot.unset).toArray = ls at hl ⊢
  have hl : lv_has ls 1 [(0, .ref h0)] := hl
  refine lv_aload_n hx hb dX10_init_0 rfl (lv_at hl 0 rfl) ?_
  refine W.objInit hx hb hown (hts (.methodLink RX10 1 objectInit) (by decide +kernel)) (hts (.instanceMethod objectInit) (by decide +kernel)) (hts (.code objectInit ⟨#[0xb1]⟩ 1 none) (by decide +kernel)) rfl (by rw [hml]; exact hl.1) rfl dX10_init_1 (Nat.le_of_ble_eq_true rfl) (Nat.le_of_ble_eq_true rfl) ?_
  refine W.eq (g2 := F0 m 4 ls []) rfl ?_
  refine lv_aload_n hx hb dX10_init_4 rfl (lv_at hl 0 rfl) ?_
  refine va_new (ci := 4) (fs := [.int 0, .null, .int 0]) (C := RJx4a65c) (T := TJx4a65c) (N := 3) hx hb hts (by decide +kernel) tyJx4a65c tyJx4a65c_ok hown (hts (.classLink RX10 7 RJx4a65c) (by decide +kernel)) (hts (.instantiable RJx4a65c 3) (by decide +kernel)) (hts (.initialized RJx4a65c) (by decide +kernel)) hK hP hD hS hA rfl (fun j hj => by rcases (show j = 0 ∨ j = 1 ∨ j = 2 by omega) with rfl | rfl | rfl <;> rfl) (Nat.le_of_ble_eq_true rfl) (Nat.le_of_ble_eq_true rfl) dX10_init_5 (fun q1 H hP hD hS => ?_)
  have hP : va_P (dC, dI) vwCl [(h0, .inr (15, [.int 0, .null, .null, .null, .null, .int 0, .long 0, .int 0, .int 0, .int 0, .int 0])), (q1, .inr (4, [.int 0, .null, .int 0]))] H := hP
  have hD : va_D A [(h0, .inr (15, [.int 0, .null, .null, .null, .null, .int 0, .long 0, .int 0, .int 0, .int 0, .int 0])), (q1, .inr (4, [.int 0, .null, .int 0]))] := hD
  refine W.widen (k := 1) (n := 3) (by decide) (by decide) ?_
  refine lv_dup hx hb dX10_init_8 rfl ?_
  have hPc := hP.sub (ws' := [(q1, .inr (4, [.int 0, .null, .int 0]))]) [1] rfl
  have hDc := hD.sub (ws' := [(q1, .inr (4, [.int 0, .null, .int 0]))]) [1] (by decide) rfl
  have hKc := hK.sub (tys' := []) [] rfl
  have hFc := va_free (wc := [(q1, .inr (4, [.int 0, .null, .int 0]))]) hD hS hA [1] rfl
  have hEc := (hE.kept hS.2.1).narrow hFc
  refine va_callv (va_runI (As := []) (rest := [.ref q1, .ref h0]) ⟨hx, hb, hml, hown, hts⟩ (c_Jx4a65c_init_da8c8 l htr dC dI e0 H.size q1) (cwI 0 hts gX10_init_Jx4a65c_init_da8c8 rfl rfl rfl (hts (.initialized RJx4a65c) (by decide +kernel)) (hts (.methodLink RX10 9 yJx4a65c_init_da8c8) (by decide +kernel)) (hts (.instanceMethod yJx4a65c_init_da8c8) (by decide +kernel)) rfl (by decide +kernel) ⟨Nat.le_of_ble_eq_true rfl, Nat.le_of_ble_eq_true rfl⟩) ⟨fun a U g mk q => by obtain ⟨q0, q1, qP, qK, qD, qE⟩ := q; exact ⟨q0, q1, qP, va_K.moved (u := U) (U := U.calling g mk a) (Vm.Alike.refl U.vm) qK, qD, zE.same rfl qE⟩, fun U hU hW => ⟨rfl, by rw [hU], by rw [hU]; exact hPc, va_K.moved hW.alike hKc, hDc.weaken (fun _ _ _ _ => trivial), by rw [hU]; exact zE.warm hW hEc⟩⟩ rfl rfl hl.1 rfl (lv_room (Nat.le_of_ble_eq_true rfl)) dX10_init_9 ⟨Nat.le_of_ble_eq_true rfl, Nat.le_of_ble_eq_true rfl⟩) hS (fun q _ h => hFc q h) hFc (fun u t H1 locs ht hvm hw hB hz1 hk1 hS => ?_)
  obtain ⟨hP1, hK1, hD1⟩ := hB
  rw [ht] at hP1
  obtain ⟨hP, hD⟩ := va_join (wr := [(h0, .inr (15, [.int 0, .null, .null, .null, .null, .int 0, .long 0, .int 0, .int 0, .int 0, .int 0]))]) (w1 := [(q1, .inr (4, [.int 0, .ref e0, .int 0]))]) hP hD [1] [0] rfl rfl (by decide) (by decide) hk1 hFc hP1 hD1
  generalize H1 = H at hP hS ⊢
  have hP : va_P (dC, dI) vwCl [(h0, .inr (15, [.int 0, .null, .null, .null, .null, .int 0, .long 0, .int 0, .int 0, .int 0, .int 0])), (q1, .inr (4, [.int 0, .ref e0, .int 0]))] H := hP
  have hD : va_D A [(h0, .inr (15, [.int 0, .null, .null, .null, .null, .int 0, .long 0, .int 0, .int 0, .int 0, .int 0])), (q1, .inr (4, [.int 0, .ref e0, .int 0]))] := hD
  refine va_putF (D := (dC, dI)) (ci := 15) (v := .ref q1) (ty := (.object "java/util/List")) (C := RX10) (T := TX10) (N := 11) hx hb hts (by decide +kernel) tyX10 tyX10_ok nmX10 hown hK hP hD hS 0 rfl rfl 1 (by decide) (hts (.fieldLink RX10 10 "GanglineModel" "legs" "Ljava/util/List;") (by decide +kernel)) (fun _ h9 => h9) rfl hin rfl (by decide +kernel) rfl rfl (Nat.le_of_ble_eq_true rfl) dX10_init_12 (fun H locs hP hD hS => ?_)
  have hP : va_P (dC, dI) vwCl [(h0, .inr (15, [.int 0, .ref q1, .null, .null, .null, .int 0, .long 0, .int 0, .int 0, .int 0, .int 0])), (q1, .inr (4, [.int 0, .ref e0, .int 0]))] H := hP
  have hD : va_D A [(h0, .inr (15, [.int 0, .ref q1, .null, .null, .null, .int 0, .long 0, .int 0, .int 0, .int 0, .int 0])), (q1, .inr (4, [.int 0, .ref e0, .int 0]))] := hD
  refine lv_aload_n hx hb dX10_init_15 rfl (lv_at hl 0 rfl) ?_
  refine va_new (ci := 4) (fs := [.int 0, .null, .int 0]) (C := RJx4a65c) (T := TJx4a65c) (N := 3) hx hb hts (by decide +kernel) tyJx4a65c tyJx4a65c_ok hown (hts (.classLink RX10 7 RJx4a65c) (by decide +kernel)) (hts (.instantiable RJx4a65c 3) (by decide +kernel)) (hts (.initialized RJx4a65c) (by decide +kernel)) hK hP hD hS hA rfl (fun j hj => by rcases (show j = 0 ∨ j = 1 ∨ j = 2 by omega) with rfl | rfl | rfl <;> rfl) (Nat.le_of_ble_eq_true rfl) (Nat.le_of_ble_eq_true rfl) dX10_init_16 (fun q2 H hP hD hS => ?_)
  have hP : va_P (dC, dI) vwCl [(h0, .inr (15, [.int 0, .ref q1, .null, .null, .null, .int 0, .long 0, .int 0, .int 0, .int 0, .int 0])), (q1, .inr (4, [.int 0, .ref e0, .int 0])), (q2, .inr (4, [.int 0, .null, .int 0]))] H := hP
  have hD : va_D A [(h0, .inr (15, [.int 0, .ref q1, .null, .null, .null, .int 0, .long 0, .int 0, .int 0, .int 0, .int 0])), (q1, .inr (4, [.int 0, .ref e0, .int 0])), (q2, .inr (4, [.int 0, .null, .int 0]))] := hD
  refine W.widen (k := 2) (n := 6) (by decide) (by decide) ?_
  refine lv_dup hx hb dX10_init_19 rfl ?_
  have hPc := hP.sub (ws' := [(q2, .inr (4, [.int 0, .null, .int 0]))]) [2] rfl
  have hDc := hD.sub (ws' := [(q2, .inr (4, [.int 0, .null, .int 0]))]) [2] (by decide) rfl
  have hKc := hK.sub (tys' := []) [] rfl
  have hFc := va_free (wc := [(q2, .inr (4, [.int 0, .null, .int 0]))]) hD hS hA [2] rfl
  have hEc := (hE.kept hS.2.1).narrow hFc
  refine va_callv (va_runI (As := []) (rest := [.ref q2, .ref h0]) ⟨hx, hb, hml, hown, hts⟩ (c_Jx4a65c_init_da8c8 l htr dC dI e0 H.size q2) (cwI 0 hts gX10_init_Jx4a65c_init_da8c8 rfl rfl rfl (hts (.initialized RJx4a65c) (by decide +kernel)) (hts (.methodLink RX10 9 yJx4a65c_init_da8c8) (by decide +kernel)) (hts (.instanceMethod yJx4a65c_init_da8c8) (by decide +kernel)) rfl (by decide +kernel) ⟨Nat.le_of_ble_eq_true rfl, Nat.le_of_ble_eq_true rfl⟩) ⟨fun a U g mk q => by obtain ⟨q0, q1, qP, qK, qD, qE⟩ := q; exact ⟨q0, q1, qP, va_K.moved (u := U) (U := U.calling g mk a) (Vm.Alike.refl U.vm) qK, qD, zE.same rfl qE⟩, fun U hU hW => ⟨rfl, by rw [hU], by rw [hU]; exact hPc, va_K.moved hW.alike hKc, hDc.weaken (fun _ _ _ _ => trivial), by rw [hU]; exact zE.warm hW hEc⟩⟩ rfl rfl hl.1 rfl (lv_room (Nat.le_of_ble_eq_true rfl)) dX10_init_20 ⟨Nat.le_of_ble_eq_true rfl, Nat.le_of_ble_eq_true rfl⟩) hS (fun q _ h => hFc q h) hFc (fun u t H1 locs ht hvm hw hB hz1 hk1 hS => ?_)
  obtain ⟨hP1, hK1, hD1⟩ := hB
  rw [ht] at hP1
  obtain ⟨hP, hD⟩ := va_join (wr := [(h0, .inr (15, [.int 0, .ref q1, .null, .null, .null, .int 0, .long 0, .int 0, .int 0, .int 0, .int 0])), (q1, .inr (4, [.int 0, .ref e0, .int 0]))]) (w1 := [(q2, .inr (4, [.int 0, .ref e0, .int 0]))]) hP hD [2] [0, 1] rfl rfl (by decide) (by decide) hk1 hFc hP1 hD1
  generalize H1 = H at hP hS ⊢
  have hP : va_P (dC, dI) vwCl [(h0, .inr (15, [.int 0, .ref q1, .null, .null, .null, .int 0, .long 0, .int 0, .int 0, .int 0, .int 0])), (q1, .inr (4, [.int 0, .ref e0, .int 0])), (q2, .inr (4, [.int 0, .ref e0, .int 0]))] H := hP
  have hD : va_D A [(h0, .inr (15, [.int 0, .ref q1, .null, .null, .null, .int 0, .long 0, .int 0, .int 0, .int 0, .int 0])), (q1, .inr (4, [.int 0, .ref e0, .int 0])), (q2, .inr (4, [.int 0, .ref e0, .int 0]))] := hD
  refine va_putF (D := (dC, dI)) (ci := 15) (v := .ref q2) (ty := (.object "java/util/List")) (C := RX10) (T := TX10) (N := 11) hx hb hts (by decide +kernel) tyX10 tyX10_ok nmX10 hown hK hP hD hS 0 rfl rfl 2 (by decide) (hts (.fieldLink RX10 16 "GanglineModel" "storms" "Ljava/util/List;") (by decide +kernel)) (fun _ h9 => h9) rfl hin rfl (by decide +kernel) rfl rfl (Nat.le_of_ble_eq_true rfl) dX10_init_23 (fun H locs hP hD hS => ?_)
  have hP : va_P (dC, dI) vwCl [(h0, .inr (15, [.int 0, .ref q1, .ref q2, .null, .null, .int 0, .long 0, .int 0, .int 0, .int 0, .int 0])), (q1, .inr (4, [.int 0, .ref e0, .int 0])), (q2, .inr (4, [.int 0, .ref e0, .int 0]))] H := hP
  have hD : va_D A [(h0, .inr (15, [.int 0, .ref q1, .ref q2, .null, .null, .int 0, .long 0, .int 0, .int 0, .int 0, .int 0])), (q1, .inr (4, [.int 0, .ref e0, .int 0])), (q2, .inr (4, [.int 0, .ref e0, .int 0]))] := hD
  refine lv_aload_n hx hb dX10_init_26 rfl (lv_at hl 0 rfl) ?_
  refine va_new (ci := 4) (fs := [.int 0, .null, .int 0]) (C := RJx4a65c) (T := TJx4a65c) (N := 3) hx hb hts (by decide +kernel) tyJx4a65c tyJx4a65c_ok hown (hts (.classLink RX10 7 RJx4a65c) (by decide +kernel)) (hts (.instantiable RJx4a65c 3) (by decide +kernel)) (hts (.initialized RJx4a65c) (by decide +kernel)) hK hP hD hS hA rfl (fun j hj => by rcases (show j = 0 ∨ j = 1 ∨ j = 2 by omega) with rfl | rfl | rfl <;> rfl) (Nat.le_of_ble_eq_true rfl) (Nat.le_of_ble_eq_true rfl) dX10_init_27 (fun q3 H hP hD hS => ?_)
  have hP : va_P (dC, dI) vwCl [(h0, .inr (15, [.int 0, .ref q1, .ref q2, .null, .null, .int 0, .long 0, .int 0, .int 0, .int 0, .int 0])), (q1, .inr (4, [.int 0, .ref e0, .int 0])), (q2, .inr (4, [.int 0, .ref e0, .int 0])), (q3, .inr (4, [.int 0, .null, .int 0]))] H := hP
  have hD : va_D A [(h0, .inr (15, [.int 0, .ref q1, .ref q2, .null, .null, .int 0, .long 0, .int 0, .int 0, .int 0, .int 0])), (q1, .inr (4, [.int 0, .ref e0, .int 0])), (q2, .inr (4, [.int 0, .ref e0, .int 0])), (q3, .inr (4, [.int 0, .null, .int 0]))] := hD
  refine W.widen (k := 3) (n := 9) (by decide) (by decide) ?_
  refine lv_dup hx hb dX10_init_30 rfl ?_
  have hPc := hP.sub (ws' := [(q3, .inr (4, [.int 0, .null, .int 0]))]) [3] rfl
  have hDc := hD.sub (ws' := [(q3, .inr (4, [.int 0, .null, .int 0]))]) [3] (by decide) rfl
  have hKc := hK.sub (tys' := []) [] rfl
  have hFc := va_free (wc := [(q3, .inr (4, [.int 0, .null, .int 0]))]) hD hS hA [3] rfl
  have hEc := (hE.kept hS.2.1).narrow hFc
  refine va_callv (va_runI (As := []) (rest := [.ref q3, .ref h0]) ⟨hx, hb, hml, hown, hts⟩ (c_Jx4a65c_init_da8c8 l htr dC dI e0 H.size q3) (cwI 0 hts gX10_init_Jx4a65c_init_da8c8 rfl rfl rfl (hts (.initialized RJx4a65c) (by decide +kernel)) (hts (.methodLink RX10 9 yJx4a65c_init_da8c8) (by decide +kernel)) (hts (.instanceMethod yJx4a65c_init_da8c8) (by decide +kernel)) rfl (by decide +kernel) ⟨Nat.le_of_ble_eq_true rfl, Nat.le_of_ble_eq_true rfl⟩) ⟨fun a U g mk q => by obtain ⟨q0, q1, qP, qK, qD, qE⟩ := q; exact ⟨q0, q1, qP, va_K.moved (u := U) (U := U.calling g mk a) (Vm.Alike.refl U.vm) qK, qD, zE.same rfl qE⟩, fun U hU hW => ⟨rfl, by rw [hU], by rw [hU]; exact hPc, va_K.moved hW.alike hKc, hDc.weaken (fun _ _ _ _ => trivial), by rw [hU]; exact zE.warm hW hEc⟩⟩ rfl rfl hl.1 rfl (lv_room (Nat.le_of_ble_eq_true rfl)) dX10_init_31 ⟨Nat.le_of_ble_eq_true rfl, Nat.le_of_ble_eq_true rfl⟩) hS (fun q _ h => hFc q h) hFc (fun u t H1 locs ht hvm hw hB hz1 hk1 hS => ?_)
  obtain ⟨hP1, hK1, hD1⟩ := hB
  rw [ht] at hP1
  obtain ⟨hP, hD⟩ := va_join (wr := [(h0, .inr (15, [.int 0, .ref q1, .ref q2, .null, .null, .int 0, .long 0, .int 0, .int 0, .int 0, .int 0])), (q1, .inr (4, [.int 0, .ref e0, .int 0])), (q2, .inr (4, [.int 0, .ref e0, .int 0]))]) (w1 := [(q3, .inr (4, [.int 0, .ref e0, .int 0]))]) hP hD [3] [0, 1, 2] rfl rfl (by decide) (by decide) hk1 hFc hP1 hD1
  generalize H1 = H at hP hS ⊢
  have hP : va_P (dC, dI) vwCl [(h0, .inr (15, [.int 0, .ref q1, .ref q2, .null, .null, .int 0, .long 0, .int 0, .int 0, .int 0, .int 0])), (q1, .inr (4, [.int 0, .ref e0, .int 0])), (q2, .inr (4, [.int 0, .ref e0, .int 0])), (q3, .inr (4, [.int 0, .ref e0, .int 0]))] H := hP
  have hD : va_D A [(h0, .inr (15, [.int 0, .ref q1, .ref q2, .null, .null, .int 0, .long 0, .int 0, .int 0, .int 0, .int 0])), (q1, .inr (4, [.int 0, .ref e0, .int 0])), (q2, .inr (4, [.int 0, .ref e0, .int 0])), (q3, .inr (4, [.int 0, .ref e0, .int 0]))] := hD
  refine va_putF (D := (dC, dI)) (ci := 15) (v := .ref q3) (ty := (.object "java/util/List")) (C := RX10) (T := TX10) (N := 11) hx hb hts (by decide +kernel) tyX10 tyX10_ok nmX10 hown hK hP hD hS 0 rfl rfl 3 (by decide) (hts (.fieldLink RX10 19 "GanglineModel" "teams" "Ljava/util/List;") (by decide +kernel)) (fun _ h9 => h9) rfl hin rfl (by decide +kernel) rfl rfl (Nat.le_of_ble_eq_true rfl) dX10_init_34 (fun H locs hP hD hS => ?_)
  have hP : va_P (dC, dI) vwCl [(h0, .inr (15, [.int 0, .ref q1, .ref q2, .ref q3, .null, .int 0, .long 0, .int 0, .int 0, .int 0, .int 0])), (q1, .inr (4, [.int 0, .ref e0, .int 0])), (q2, .inr (4, [.int 0, .ref e0, .int 0])), (q3, .inr (4, [.int 0, .ref e0, .int 0]))] H := hP
  have hD : va_D A [(h0, .inr (15, [.int 0, .ref q1, .ref q2, .ref q3, .null, .int 0, .long 0, .int 0, .int 0, .int 0, .int 0])), (q1, .inr (4, [.int 0, .ref e0, .int 0])), (q2, .inr (4, [.int 0, .ref e0, .int 0])), (q3, .inr (4, [.int 0, .ref e0, .int 0]))] := hD
  refine lv_aload_n hx hb dX10_init_37 rfl (lv_at hl 0 rfl) ?_
  refine va_new (ci := 4) (fs := [.int 0, .null, .int 0]) (C := RJx4a65c) (T := TJx4a65c) (N := 3) hx hb hts (by decide +kernel) tyJx4a65c tyJx4a65c_ok hown (hts (.classLink RX10 7 RJx4a65c) (by decide +kernel)) (hts (.instantiable RJx4a65c 3) (by decide +kernel)) (hts (.initialized RJx4a65c) (by decide +kernel)) hK hP hD hS hA rfl (fun j hj => by rcases (show j = 0 ∨ j = 1 ∨ j = 2 by omega) with rfl | rfl | rfl <;> rfl) (Nat.le_of_ble_eq_true rfl) (Nat.le_of_ble_eq_true rfl) dX10_init_38 (fun q4 H hP hD hS => ?_)
  have hP : va_P (dC, dI) vwCl [(h0, .inr (15, [.int 0, .ref q1, .ref q2, .ref q3, .null, .int 0, .long 0, .int 0, .int 0, .int 0, .int 0])), (q1, .inr (4, [.int 0, .ref e0, .int 0])), (q2, .inr (4, [.int 0, .ref e0, .int 0])), (q3, .inr (4, [.int 0, .ref e0, .int 0])), (q4, .inr (4, [.int 0, .null, .int 0]))] H := hP
  have hD : va_D A [(h0, .inr (15, [.int 0, .ref q1, .ref q2, .ref q3, .null, .int 0, .long 0, .int 0, .int 0, .int 0, .int 0])), (q1, .inr (4, [.int 0, .ref e0, .int 0])), (q2, .inr (4, [.int 0, .ref e0, .int 0])), (q3, .inr (4, [.int 0, .ref e0, .int 0])), (q4, .inr (4, [.int 0, .null, .int 0]))] := hD
  refine W.widen (k := 4) (n := 12) (by decide) (by decide) ?_
  refine lv_dup hx hb dX10_init_41 rfl ?_
  have hPc := hP.sub (ws' := [(q4, .inr (4, [.int 0, .null, .int 0]))]) [4] rfl
  have hDc := hD.sub (ws' := [(q4, .inr (4, [.int 0, .null, .int 0]))]) [4] (by decide) rfl
  have hKc := hK.sub (tys' := []) [] rfl
  have hFc := va_free (wc := [(q4, .inr (4, [.int 0, .null, .int 0]))]) hD hS hA [4] rfl
  have hEc := (hE.kept hS.2.1).narrow hFc
  refine va_callv (va_runI (As := []) (rest := [.ref q4, .ref h0]) ⟨hx, hb, hml, hown, hts⟩ (c_Jx4a65c_init_da8c8 l htr dC dI e0 H.size q4) (cwI 0 hts gX10_init_Jx4a65c_init_da8c8 rfl rfl rfl (hts (.initialized RJx4a65c) (by decide +kernel)) (hts (.methodLink RX10 9 yJx4a65c_init_da8c8) (by decide +kernel)) (hts (.instanceMethod yJx4a65c_init_da8c8) (by decide +kernel)) rfl (by decide +kernel) ⟨Nat.le_of_ble_eq_true rfl, Nat.le_of_ble_eq_true rfl⟩) ⟨fun a U g mk q => by obtain ⟨q0, q1, qP, qK, qD, qE⟩ := q; exact ⟨q0, q1, qP, va_K.moved (u := U) (U := U.calling g mk a) (Vm.Alike.refl U.vm) qK, qD, zE.same rfl qE⟩, fun U hU hW => ⟨rfl, by rw [hU], by rw [hU]; exact hPc, va_K.moved hW.alike hKc, hDc.weaken (fun _ _ _ _ => trivial), by rw [hU]; exact zE.warm hW hEc⟩⟩ rfl rfl hl.1 rfl (lv_room (Nat.le_of_ble_eq_true rfl)) dX10_init_42 ⟨Nat.le_of_ble_eq_true rfl, Nat.le_of_ble_eq_true rfl⟩) hS (fun q _ h => hFc q h) hFc (fun u t H1 locs ht hvm hw hB hz1 hk1 hS => ?_)
  obtain ⟨hP1, hK1, hD1⟩ := hB
  rw [ht] at hP1
  obtain ⟨hP, hD⟩ := va_join (wr := [(h0, .inr (15, [.int 0, .ref q1, .ref q2, .ref q3, .null, .int 0, .long 0, .int 0, .int 0, .int 0, .int 0])), (q1, .inr (4, [.int 0, .ref e0, .int 0])), (q2, .inr (4, [.int 0, .ref e0, .int 0])), (q3, .inr (4, [.int 0, .ref e0, .int 0]))]) (w1 := [(q4, .inr (4, [.int 0, .ref e0, .int 0]))]) hP hD [4] [0, 1, 2, 3] rfl rfl (by decide) (by decide) hk1 hFc hP1 hD1
  generalize H1 = H at hP hS ⊢
  have hP : va_P (dC, dI) vwCl [(h0, .inr (15, [.int 0, .ref q1, .ref q2, .ref q3, .null, .int 0, .long 0, .int 0, .int 0, .int 0, .int 0])), (q1, .inr (4, [.int 0, .ref e0, .int 0])), (q2, .inr (4, [.int 0, .ref e0, .int 0])), (q3, .inr (4, [.int 0, .ref e0, .int 0])), (q4, .inr (4, [.int 0, .ref e0, .int 0]))] H := hP
  have hD : va_D A [(h0, .inr (15, [.int 0, .ref q1, .ref q2, .ref q3, .null, .int 0, .long 0, .int 0, .int 0, .int 0, .int 0])), (q1, .inr (4, [.int 0, .ref e0, .int 0])), (q2, .inr (4, [.int 0, .ref e0, .int 0])), (q3, .inr (4, [.int 0, .ref e0, .int 0])), (q4, .inr (4, [.int 0, .ref e0, .int 0]))] := hD
  refine va_putF (D := (dC, dI)) (ci := 15) (v := .ref q4) (ty := (.object "java/util/List")) (C := RX10) (T := TX10) (N := 11) hx hb hts (by decide +kernel) tyX10 tyX10_ok nmX10 hown hK hP hD hS 0 rfl rfl 4 (by decide) (hts (.fieldLink RX10 22 "GanglineModel" "dogs" "Ljava/util/List;") (by decide +kernel)) (fun _ h9 => h9) rfl hin rfl (by decide +kernel) rfl rfl (Nat.le_of_ble_eq_true rfl) dX10_init_45 (fun H locs hP hD hS => ?_)
  have hP : va_P (dC, dI) vwCl [(h0, .inr (15, [.int 0, .ref q1, .ref q2, .ref q3, .ref q4, .int 0, .long 0, .int 0, .int 0, .int 0, .int 0])), (q1, .inr (4, [.int 0, .ref e0, .int 0])), (q2, .inr (4, [.int 0, .ref e0, .int 0])), (q3, .inr (4, [.int 0, .ref e0, .int 0])), (q4, .inr (4, [.int 0, .ref e0, .int 0]))] H := hP
  have hD : va_D A [(h0, .inr (15, [.int 0, .ref q1, .ref q2, .ref q3, .ref q4, .int 0, .long 0, .int 0, .int 0, .int 0, .int 0])), (q1, .inr (4, [.int 0, .ref e0, .int 0])), (q2, .inr (4, [.int 0, .ref e0, .int 0])), (q3, .inr (4, [.int 0, .ref e0, .int 0])), (q4, .inr (4, [.int 0, .ref e0, .int 0]))] := hD
  have hP9 := hP.sub (ws' := [(h0, .inr (15, zM 0 (fun k => match k with | 0 => q1 | 1 => q2 | 2 => q3 | _ => q4))), (((fun k => match k with | 0 => q1 | 1 => q2 | 2 => q3 | _ => q4) 0), .inr (4, [.int 0, .ref e0, .int 0])), (((fun k => match k with | 0 => q1 | 1 => q2 | 2 => q3 | _ => q4) 1), .inr (4, [.int 0, .ref e0, .int 0])), (((fun k => match k with | 0 => q1 | 1 => q2 | 2 => q3 | _ => q4) 2), .inr (4, [.int 0, .ref e0, .int 0])), (((fun k => match k with | 0 => q1 | 1 => q2 | 2 => q3 | _ => q4) 3), .inr (4, [.int 0, .ref e0, .int 0]))]) [0, 1, 2, 3, 4] rfl
  have hD9 := hD.sub (ws' := [(h0, .inr (15, zM 0 (fun k => match k with | 0 => q1 | 1 => q2 | 2 => q3 | _ => q4))), (((fun k => match k with | 0 => q1 | 1 => q2 | 2 => q3 | _ => q4) 0), .inr (4, [.int 0, .ref e0, .int 0])), (((fun k => match k with | 0 => q1 | 1 => q2 | 2 => q3 | _ => q4) 1), .inr (4, [.int 0, .ref e0, .int 0])), (((fun k => match k with | 0 => q1 | 1 => q2 | 2 => q3 | _ => q4) 2), .inr (4, [.int 0, .ref e0, .int 0])), (((fun k => match k with | 0 => q1 | 1 => q2 | 2 => q3 | _ => q4) 3), .inr (4, [.int 0, .ref e0, .int 0]))]) [0, 1, 2, 3, 4] (by decide) rfl
  have hK9 := hK.sub (tys' := []) [] rfl
  exact W.vret hx hb hr (fun t ht hW => ⟨⟨(), rfl, trivial, ⟨(fun k => match k with | 0 => q1 | 1 => q2 | 2 => q3 | _ => q4), by rw [ht]; exact hP9, va_K.moved hW.alike hK9, hD9⟩⟩, hS.F ht⟩) hS.2.2 dX10_init_48
