/-! THE CLAIM OUT OF ONE WALK OF THE LAW'S BODY. Your part is whole_start (and what it stands on); all else here is the same for every law, but numbers. -/
def R_law : String := "GanglineLaw"
def lw_P (b : Addr) (xs : List Int32) (args : Array Value) (s : State) : Prop := args = #[.ref b] ∧ s.IntsAt b xs ∧ xs.length ≤ 5 ∧ (Jvm.Cond.and given_1 narrow_1).before args s = true
/-- what a walk over the start with the record d0 says of its end, said of the start itself -/
theorem lw_closed {s t : State} {o : Outcome} {d0 : Drawn} {L : List Loc} {k n : Nat} (hd0 : s.drawn.sameBut d0 lw_cs) (hv : ∃ v, o = .returned v) (hW : (s.setDrawn d0).WarmedH t.vm) (hs : (s.setDrawn d0).sameButNew ({ t with vm := s.vm } : State) L k n) : State.butDraws s t lw_cs (fun t1 => Framed s o t1 L k n) := by
  have h2 : t.drawn = d0 := congrArg State.drawn hs.1
  refine ⟨⟨hv, hW, State.sameButNew.setDrawn hs s.drawn⟩, ?_, by decide⟩
  rw [h2]
  exact hd0
def lw_Q (_ : Array Value) (s : State) (o : Outcome) (t : State) : Prop := o = .returned (some (.int 1)) ∧ State.butDraws s t lw_cs (fun t1 => Framed s o t1 [] 600006 7302080)
def lw_Z (below : List Frame) (a : Array Value) (s : State) : State → Prop := fun t => ∃ o, t.status = .running ∧ Ended t below o ∧ lw_Q a s o t
/-- the law's own end, with 1 on the stack, nothing written that was there before, its room as the claim has it; d0: the record of draws at this point (at the entry s.drawn: begin with 'refine W.base ?_' and 'have hd0 := Drawn.sameBut.refl s.drawn lw_cs') -/
theorem lw_ret {p : Program} {l : Launch} {e : Env} {s : State} {m : MethodId} {below : List Frame} {meth : Method} {c : Code} {b : Nat} {d0 : Drawn} (hd0 : s.drawn.sameBut d0 lw_cs) (hx : p.tables.exec = Jvm.exec) (hb : c.code = code) (hr : meth.sig.returnType = ret) (hlocks : meth.locks = false) {pc : Nat} {H : Heap} {ls : Array Slot} (hdg : decode code pc = .ok (.ireturn, 1)) : W p l e room_1 (s.setDrawn d0) m #[Value.ref b] below meth c H [] 600006 7302080 (lw_Z below #[Value.ref b] s) (F0 m pc ls [.int 1]) := by
  intro T hT X
  obtain ⟨fs, hret, hrun, hended, hW, hframe⟩ := X.leave (v := some (.int 1)) (hlocks := hlocks) (fun h => by rw [hr] at h; cases h)
  have hmeth' : T.vm.method? m = some meth := X.method'
  refine ⟨T.setFrames fs, ?_, .returned (some (.int 1)), hrun, hended, rfl, lw_closed hd0 ⟨_, rfl⟩ hW hframe⟩
  jvm_step X.here [X.here.top, hx, hb, hdg, hmeth', hr, ret, narrow_b1]
  (try refine ⟨rfl, ?_⟩); (try refine ⟨rfl, ?_⟩)
  first | (intro acts; rw [hret _ acts rfl rfl rfl]) | rw [hret _ _ rfl rfl rfl]
  exact Steps.refl _
/-- what holds at the law's entry: the machine, the code, the tables' words (any of lw_tbl by 'hts w (by decide +kernel)'), the script of L ints xs at the cell b, what the Statement gives of the start (any of its parts by flat_of_before) -/
def lw_At (p : Program) (s : State) (m : MethodId) (meth : Method) (c : Code) (b L : Nat) (xs : Nat → Int32) : Prop :=
  p.tables.exec = Jvm.exec ∧ c.code = code ∧ meth.sig.returnType = ret ∧ c.maxLocals = 9 ∧ s.vm.findClass R_law = some m.cls ∧ (∀ w ∈ lw_tbl, w.before #[Value.ref b] s = true) ∧ va_X b L xs s s.heap ∧ b < s.heap.size ∧ meth.locks = false ∧ (Jvm.Cond.and given_1 narrow_1).before #[Value.ref b] s = true

theorem dL_law_3259 : decode cL_law 3259 = .ok (.iinc 5 5, 3) := by decide +kernel
theorem dL_law_3262 : decode cL_law 3262 = .ok (.goto (-3234), 3) := by decide +kernel
theorem dL_law_28 : decode cL_law 28 = .ok (.iload 5, 2) := by decide +kernel
theorem dL_law_30 : decode cL_law 30 = .ok (.aload_n 0, 1) := by decide +kernel
theorem dL_law_31 : decode cL_law 31 = .ok (.arraylength, 1) := by decide +kernel
theorem dL_law_32 : decode cL_law 32 = .ok (.iconst 5, 1) := by decide +kernel
theorem dL_law_33 : decode cL_law 33 = .ok (.isub, 1) := by decide +kernel
theorem dL_law_34 : decode cL_law 34 = .ok (.if_icmp .gt 3231, 3) := by decide +kernel
theorem dL_law_3265 : decode cL_law 3265 = .ok (.iconst 1, 1) := by decide +kernel
theorem dL_law_3266 : decode cL_law 3266 = .ok (.ireturn, 1) := by decide +kernel
theorem dL_law_37 : decode cL_law 37 = .ok (.aload_n 0, 1) := by decide +kernel
theorem dL_law_38 : decode cL_law 38 = .ok (.iload 5, 2) := by decide +kernel
theorem dL_law_40 : decode cL_law 40 = .ok (.iaload, 1) := by decide +kernel
theorem dL_law_41 : decode cL_law 41 = .ok (.bipush 63, 2) := by decide +kernel
theorem dL_law_43 : decode cL_law 43 = .ok (.iand, 1) := by decide +kernel
theorem dL_law_44 : decode cL_law 44 = .ok (.tableswitch 3215 0 46 #[204, 284, 352, 444, 535, 579, 659, 727, 795, 875, 943, 999, 1067, 1123, 1179, 1247, 1315, 1371, 1462, 1542, 1598, 1654, 1710, 1778, 1841, 1923, 1979, 2042, 2098, 2154, 2222, 2278, 2348, 2404, 2467, 2537, 2593, 2649, 2705, 2761, 2816, 2860, 2928, 3003, 3071, 3137, 3202], 204) := by decide +kernel
theorem zl_cmp (x : Int64) : lg_cmp x x = 0 := by
  unfold lg_cmp
  rw [if_neg (fun h => absurd h Int64.lt_irrefl), if_pos rfl]
theorem zi_le (x y : Int32) : x.toInt64 ≤ y.toInt64 ↔ x ≤ y := by
  rw [Int64.le_iff_toInt_le, Int32.le_iff_toInt_le, Int32.toInt_toInt64, Int32.toInt_toInt64]
theorem zb_leg {p0 p1 p2 : Int32} : ((5 ≤ (p0).toInt64 ∧ (p0).toInt64 ≤ 120) ∧ (0 ≤ (p1).toInt64 ∧ (p1).toInt64 ≤ 9) ∧ ((-9) ≤ (p2).toInt64 ∧ (p2).toInt64 ≤ 9)) ↔ ((5 ≤ p0 ∧ p0 ≤ 120) ∧ (0 ≤ p1 ∧ p1 ≤ 9) ∧ ((-9) ≤ p2 ∧ p2 ≤ 9)) := by
  have h1 : ((-9) : Int64) = ((-9) : Int32).toInt64 := by decide
  have h2 : (5 : Int64) = (5 : Int32).toInt64 := by decide
  have h3 : (120 : Int64) = (120 : Int32).toInt64 := by decide
  have h4 : (0 : Int64) = (0 : Int32).toInt64 := by decide
  have h5 : (9 : Int64) = (9 : Int32).toInt64 := by decide
  rw [h1, h2, h3, h4, h5]
  simp only [zi_le]
theorem zb_purse {p0 : Int32} : (0 ≤ (p0).toInt64 ∧ (p0).toInt64 ≤ 99999) ↔ (0 ≤ p0 ∧ p0 ≤ 99999) := by
  have h1 : (0 : Int64) = (0 : Int32).toInt64 := by decide
  have h2 : (99999 : Int64) = (99999 : Int32).toInt64 := by decide
  rw [h1, h2]
  simp only [zi_le]
theorem zs_ref {args : Array Value} {s : State} {own tx : String} {k : Nat} (h1 : (Cond.stringRef own k tx).before args s = true) (h2 : (Cond.exactly (.string own k) "java/lang/String").before args s = true) : ∃ a, vk_R own k tx a s := by
  obtain ⟨a, c, cA, kA, q1, -⟩ := Cond.exactly_spec (args := args) (first := s) (o := none) (s := s) (idx := []) (t := .string own k) (cls := "java/lang/String") h2
  exact ⟨a, vk_R.of h1 q1⟩
theorem zs_text {args : Array Value} {s : State} {ix n : Nat} {tx : String} {f : Nat → Int32} {A : Nat → Prop} (hn : n < 2 ^ 31) (h1 : (Cond.stringRef RX10 ix tx).before args s = true) (h2 : (Cond.exactly (.string RX10 ix) "java/lang/String").before args s = true)
    (hco : (Cond.eq (.field (.string RX10 ix) "java/lang/String" "coder" "B") (.int 0)).before args s = true) (har : (Cond.arrayOf (.field (.string RX10 ix) "java/lang/String" "value" "[B") .byte).before args s = true) (hle : (Cond.eq (.length (.field (.string RX10 ix) "java/lang/String" "value" "[B")) (.int (Int32.ofNat n))).before args s = true)
    (hel : ∀ j : Nat, j < n → (Cond.eq (.elem (.field (.string RX10 ix) "java/lang/String" "value" "[B") (.int (Int32.ofNat j))) (.int (f j))).before args s = true) (hA : ∀ a : Nat, a < s.heap.size → ¬ A a) : zT ix n tx A s s.heap := by
  obtain ⟨a, c, cA, kA, q1, q2, q3, q4, q5, q6, -⟩ := Cond.exactly_spec (args := args) (first := s) (o := none) (s := s) (idx := []) (t := .string RX10 ix) (cls := "java/lang/String") h2
  obtain ⟨t, ht, hT⟩ := va_Tof (f := fun j => .int (f j)) (A := A) hn har (va_eqt hle) (fun j hj => va_eqt (hel j hj)) hA
  exact ⟨a, t, f, vk_R.of h1 q1, ⟨cA, q3, q5, by rw [q6]; exact q2, hA a (Array.getElem?_eq_some_iff.mp q3).1⟩, vk_OFof q1 (va_eqt hco) hA, vk_OFof q1 ht hA, hT, hn⟩
set_option maxHeartbeats 4000000 in
set_option maxRecDepth 100000 in
/-- at the start all that the methods are told of the world stands -/
theorem zl_env {args : Array Value} {s : State} {A : Nat → Prop} (ht0 : ∀ w ∈ lw_tbl, w.before args s = true) (hgv : (Jvm.Cond.and given_1 narrow_1).before args s = true) (hA : ∀ a : Nat, a < s.heap.size → ¬ A a) : ∃ e0, zE e0 A s s.heap := by
  have hs := flat_of_before _ hgv
  have v0 : (∃ a, vk_R RX6 461 "no such team" a s) := zs_ref (ht0 (.stringRef "Gangline" 461 "no such team") (List.mem_of_getElem? (i := 788) (by decide +kernel))) (hs _ (by decide +kernel))
  have v1 : (∃ a, vk_R RX6 463 "no such dog" a s) := zs_ref (ht0 (.stringRef "Gangline" 463 "no such dog") (List.mem_of_getElem? (i := 804) (by decide +kernel))) (hs _ (by decide +kernel))
  have v2 : (∃ a, vk_R RX6 457 "no such leg" a s) := zs_ref (ht0 (.stringRef "Gangline" 457 "no such leg") (List.mem_of_getElem? (i := 697) (by decide +kernel))) (hs _ (by decide +kernel))
  have v3 : (∃ a, vk_R RX6 459 "no such checkpoint" a s) := zs_ref (ht0 (.stringRef "Gangline" 459 "no such checkpoint") (List.mem_of_getElem? (i := 741) (by decide +kernel))) (hs _ (by decide +kernel))
  have v4 : (∃ a, vk_R RX6 448 "a number is out of range" a s) := zs_ref (ht0 (.stringRef "Gangline" 448 "a number is out of range") (List.mem_of_getElem? (i := 559) (by decide +kernel))) (hs _ (by decide +kernel))
  have v5 : (∃ a, vk_R RX6 363 "no team has this place" a s) := zs_ref (ht0 (.stringRef "Gangline" 363 "no team has this place") (List.mem_of_getElem? (i := 1135) (by decide +kernel))) (hs _ (by decide +kernel))
  have v6 : (∃ a, vk_R RX6 428 "no dog began" a s) := zs_ref (ht0 (.stringRef "Gangline" 428 "no dog began") (List.mem_of_getElem? (i := 1232) (by decide +kernel))) (hs _ (by decide +kernel))
  have v7 : (∃ a, vk_R RX6 434 "no dog is in the race" a s) := zs_ref (ht0 (.stringRef "Gangline" 434 "no dog is in the race") (List.mem_of_getElem? (i := 1245) (by decide +kernel))) (hs _ (by decide +kernel))
  have v8 : va_Nw (.castable zI zI) s := va_Nw.of rfl (ht0 (.castable "java/lang/IndexOutOfBoundsException" "java/lang/IndexOutOfBoundsException") (List.mem_of_getElem? (i := 690) (by decide +kernel)))
  have v9 : va_Nw (.castable zG zG) s := va_Nw.of rfl (ht0 (.castable "java/lang/IllegalArgumentException" "java/lang/IllegalArgumentException") (List.mem_of_getElem? (i := 516) (by decide +kernel)))
  have v10 : va_Nw (.castable zR zR) s := va_Nw.of rfl (ht0 (.castable "java/lang/ArithmeticException" "java/lang/ArithmeticException") (List.mem_of_getElem? (i := 1225) (by decide +kernel)))
  have v11 : va_Nw (.declares (Bundle.initS "java/lang/RuntimeException")) s := va_Nw.of rfl (ht0 (.declares ⟨"java/lang/RuntimeException", "<init>", "(Ljava/lang/String;)V"⟩) (List.mem_of_getElem? (i := 518) (by decide +kernel)))
  have v12 : va_Nw (.declares (Bundle.initS "java/lang/Exception")) s := va_Nw.of rfl (ht0 (.declares ⟨"java/lang/Exception", "<init>", "(Ljava/lang/String;)V"⟩) (List.mem_of_getElem? (i := 520) (by decide +kernel)))
  have v13 : va_Nw (.declares (Bundle.initS Bundle.tN)) s := va_Nw.of rfl (ht0 (.declares ⟨"java/lang/Throwable", "<init>", "(Ljava/lang/String;)V"⟩) (List.mem_of_getElem? (i := 522) (by decide +kernel)))
  have v14 : va_Fw RJx4a65c ⟨"java/util/List", "size", "()I"⟩ yJx4a65c_size_8abf5 s := va_Fw.of (ht0 (.declares ⟨"java/util/List", "size", "()I"⟩) (List.mem_of_getElem? (i := 1405) (by decide +kernel))) (ht0 (.interfaceMethod "java/util/List" "java/util/List" "size" "()I") (List.mem_of_getElem? (i := 1404) (by decide +kernel))) (ht0 (.publicMethod ⟨"java/util/ArrayList", "size", "()I"⟩) (List.mem_of_getElem? (i := 1409) (by decide +kernel))) (ht0 (.unhidden "java/util/ArrayList" "size" "()I") (List.mem_of_getElem? (i := 1407) (by decide +kernel))) (ht0 (.castable "java/util/ArrayList" "java/util/List") (List.mem_of_getElem? (i := 1338) (by decide +kernel)))
  have v15 : va_Fw RJx4a65c ⟨"java/util/List", "iterator", "()Ljava/util/Iterator;"⟩ yJx4a65c_iterator_32c93 s := va_Fw.of (ht0 (.declares ⟨"java/util/List", "iterator", "()Ljava/util/Iterator;"⟩) (List.mem_of_getElem? (i := 1337) (by decide +kernel))) (ht0 (.interfaceMethod "java/util/List" "java/util/List" "iterator" "()Ljava/util/Iterator;") (List.mem_of_getElem? (i := 1336) (by decide +kernel))) (ht0 (.publicMethod ⟨"java/util/ArrayList", "iterator", "()Ljava/util/Iterator;"⟩) (List.mem_of_getElem? (i := 1342) (by decide +kernel))) (ht0 (.unhidden "java/util/ArrayList" "iterator" "()Ljava/util/Iterator;") (List.mem_of_getElem? (i := 1340) (by decide +kernel))) (ht0 (.castable "java/util/ArrayList" "java/util/List") (List.mem_of_getElem? (i := 1338) (by decide +kernel)))
  have v16 : va_Fw RJx35411 ⟨"java/util/Iterator", "hasNext", "()Z"⟩ yJx35411_hasNext_aae02 s := va_Fw.of (ht0 (.declares ⟨"java/util/Iterator", "hasNext", "()Z"⟩) (List.mem_of_getElem? (i := 1366) (by decide +kernel))) (ht0 (.interfaceMethod "java/util/Iterator" "java/util/Iterator" "hasNext" "()Z") (List.mem_of_getElem? (i := 1365) (by decide +kernel))) (ht0 (.publicMethod ⟨"java/util/ArrayList$Itr", "hasNext", "()Z"⟩) (List.mem_of_getElem? (i := 1371) (by decide +kernel))) (ht0 (.unhidden "java/util/ArrayList$Itr" "hasNext" "()Z") (List.mem_of_getElem? (i := 1369) (by decide +kernel))) (ht0 (.castable "java/util/ArrayList$Itr" "java/util/Iterator") (List.mem_of_getElem? (i := 1367) (by decide +kernel)))
  have v17 : va_Fw RJx4a65c ⟨"java/util/List", "add", "(Ljava/lang/Object;)Z"⟩ yJx4a65c_add_9ea2d s := va_Fw.of (ht0 (.declares ⟨"java/util/List", "add", "(Ljava/lang/Object;)Z"⟩) (List.mem_of_getElem? (i := 1444) (by decide +kernel))) (ht0 (.interfaceMethod "java/util/List" "java/util/List" "add" "(Ljava/lang/Object;)Z") (List.mem_of_getElem? (i := 1443) (by decide +kernel))) (ht0 (.publicMethod ⟨"java/util/ArrayList", "add", "(Ljava/lang/Object;)Z"⟩) (List.mem_of_getElem? (i := 1448) (by decide +kernel))) (ht0 (.unhidden "java/util/ArrayList" "add" "(Ljava/lang/Object;)Z") (List.mem_of_getElem? (i := 1446) (by decide +kernel))) (ht0 (.castable "java/util/ArrayList" "java/util/List") (List.mem_of_getElem? (i := 1338) (by decide +kernel)))
  have v18 : va_Fw RJx4a65c ⟨"java/util/List", "clear", "()V"⟩ yJx4a65c_clear_da8c8 s := va_Fw.of (ht0 (.declares ⟨"java/util/List", "clear", "()V"⟩) (List.mem_of_getElem? (i := 2077) (by decide +kernel))) (ht0 (.interfaceMethod "java/util/List" "java/util/List" "clear" "()V") (List.mem_of_getElem? (i := 2076) (by decide +kernel))) (ht0 (.publicMethod ⟨"java/util/ArrayList", "clear", "()V"⟩) (List.mem_of_getElem? (i := 2081) (by decide +kernel))) (ht0 (.unhidden "java/util/ArrayList" "clear" "()V") (List.mem_of_getElem? (i := 2079) (by decide +kernel))) (ht0 (.castable "java/util/ArrayList" "java/util/List") (List.mem_of_getElem? (i := 1338) (by decide +kernel)))
  have v19 : va_Nw (.methodLinkNest "Gangline" 41 ⟨"Gangline$Plan", "<init>", "()V"⟩ "Gangline") s := va_Nw.of rfl (ht0 (.methodLinkNest "Gangline" 41 ⟨"Gangline$Plan", "<init>", "()V"⟩ "Gangline") (List.mem_of_getElem? (i := 128) (by decide +kernel)))
  have v20 : va_Nw (.methodLinkNest "Gangline" 98 ⟨"Gangline$Team", "<init>", "()V"⟩ "Gangline") s := va_Nw.of rfl (ht0 (.methodLinkNest "Gangline" 98 ⟨"Gangline$Team", "<init>", "()V"⟩ "Gangline") (List.mem_of_getElem? (i := 750) (by decide +kernel)))
  have v21 : va_Nw (.methodLinkNest "Gangline$Team" 20 ⟨"Gangline$Plan", "<init>", "()V"⟩ "Gangline") s := va_Nw.of rfl (ht0 (.methodLinkNest "Gangline$Team" 20 ⟨"Gangline$Plan", "<init>", "()V"⟩ "Gangline") (List.mem_of_getElem? (i := 757) (by decide +kernel)))
  have v22 : va_AO "Gangline$Dog" s := va_AO.of (ht0 (.arrayOver (.object "Gangline$Dog")) (List.mem_of_getElem? (i := 121) (by decide +kernel)))
  have v23 : va_AO "Gangline$Leg" s := va_AO.of (ht0 (.arrayOver (.object "Gangline$Leg")) (List.mem_of_getElem? (i := 117) (by decide +kernel)))
  have v24 : va_AO "Gangline$Party" s := va_AO.of (ht0 (.arrayOver (.object "Gangline$Party")) (List.mem_of_getElem? (i := 125) (by decide +kernel)))
  have v25 : va_AO "Gangline$Storm" s := va_AO.of (ht0 (.arrayOver (.object "Gangline$Storm")) (List.mem_of_getElem? (i := 119) (by decide +kernel)))
  have v26 : va_AO "Gangline$Team" s := va_AO.of (ht0 (.arrayOver (.object "Gangline$Team")) (List.mem_of_getElem? (i := 123) (by decide +kernel)))
  have v27 : va_AO "java/lang/Object" s := va_AO.of (ht0 (.arrayOver (.object "java/lang/Object")) (List.mem_of_getElem? (i := 1503) (by decide +kernel)))
  have v28 : va_Nw (.castable RX8 "java/lang/Object") s := va_Nw.of rfl (ht0 (.castable "GanglineModel$Leg" "java/lang/Object") (List.mem_of_getElem? (i := 2485) (by decide +kernel)))
  have v29 : va_Nw (.castable RX9 "java/lang/Object") s := va_Nw.of rfl (ht0 (.castable "GanglineModel$Team" "java/lang/Object") (List.mem_of_getElem? (i := 2488) (by decide +kernel)))
  have v30 : va_Nw (.fieldLinkNest "java/util/ArrayList$Itr" 28 "java/util/ArrayList" "size" "I" "java/util/ArrayList") s := va_Nw.of rfl (ht0 (.fieldLinkNest "java/util/ArrayList$Itr" 28 "java/util/ArrayList" "size" "I" "java/util/ArrayList") (List.mem_of_getElem? (i := 1268) (by decide +kernel)))
  have hV : zV s := ⟨v0, v1, v2, v3, v4, v5, v6, v7, v8, v9, v10, v11, v12, v13, v14, v15, v16, v17, v18, v19, v20, v21, v22, v23, v24, v25, v26, v27, v28, v29, v30⟩
  obtain ⟨e0, he0, hT⟩ := va_Tof (args := args) (s := s) (N := 0) (ty := .object "java/lang/Object") (tm := .static "java/util/ArrayList" "DEFAULTCAPACITY_EMPTY_ELEMENTDATA" "[Ljava/lang/Object;") (f := fun _ => .null) (A := A) (by decide) (hs _ (by decide +kernel)) (va_eqt (hs _ (by decide +kernel))) (fun j h => absurd h (Nat.not_lt_zero j)) hA
  obtain ⟨cell, h1, h2, h3, -, h5, -, h7⟩ := hT
  have z1 : vx_Zq Bundle.tN "UNASSIGNED_STACK" Bundle.steD A s s.heap := vx_Zqof (ht0 (.laysStatic "java/lang/Throwable" "UNASSIGNED_STACK" "[Ljava/lang/StackTraceElement;") (List.mem_of_getElem? (i := 541) (by decide +kernel))) (ht0 (.initialized "java/lang/Throwable") (List.mem_of_getElem? (i := 77) (by decide +kernel))) (hs _ (by decide +kernel)) hA
  have z2 : vx_Zq Bundle.tN "SUPPRESSED_SENTINEL" Bundle.listD A s s.heap := vx_Zqof (ht0 (.laysStatic "java/lang/Throwable" "SUPPRESSED_SENTINEL" "Ljava/util/List;") (List.mem_of_getElem? (i := 543) (by decide +kernel))) (ht0 (.initialized "java/lang/Throwable") (List.mem_of_getElem? (i := 77) (by decide +kernel))) (hs _ (by decide +kernel)) hA
  have z3 : va_Z RJx4a65c zDE zO (.ref e0) A s s.heap := va_Zof (ht0 (.laysStatic "java/util/ArrayList" "DEFAULTCAPACITY_EMPTY_ELEMENTDATA" "[Ljava/lang/Object;") (List.mem_of_getElem? (i := 1265) (by decide +kernel))) (ht0 (.initialized "java/util/ArrayList") (List.mem_of_getElem? (i := 76) (by decide +kernel))) he0 hA
  have z4 : va_Z RJ0 "COMPACT_STRINGS" "Z" (.int 1) A s s.heap := va_Zof (ht0 (.laysStatic "java/lang/String" "COMPACT_STRINGS" "Z") (List.mem_of_getElem? (i := 1957) (by decide +kernel))) (ht0 (.initialized "java/lang/String") (List.mem_of_getElem? (i := 93) (by decide +kernel))) (va_eqt (hs _ (by decide +kernel))) hA
  have x356 : zT 356 9 "fewtslakp" A s s.heap := zs_text (n := 9) (f := fun j => ([102, 101, 119, 116, 115, 108, 97, 107, 112] : List Int32).getD j 0) (by decide) (ht0 (.stringRef "GanglineModel" 356 "fewtslakp") (List.mem_of_getElem? (i := 2158) (by decide +kernel))) (hs _ (by decide +kernel)) (hs _ (by decide +kernel)) (hs _ (by decide +kernel)) (hs _ (by decide +kernel)) (fun j hj => by rcases (show j = 0 ∨ j = 1 ∨ j = 2 ∨ j = 3 ∨ j = 4 ∨ j = 5 ∨ j = 6 ∨ j = 7 ∨ j = 8 by omega) with rfl | rfl | rfl | rfl | rfl | rfl | rfl | rfl | rfl <;> exact hs _ (by decide +kernel)) hA
  have x367 : zT 367 10 "mcksbpodef" A s s.heap := zs_text (n := 10) (f := fun j => ([109, 99, 107, 115, 98, 112, 111, 100, 101, 102] : List Int32).getD j 0) (by decide) (ht0 (.stringRef "GanglineModel" 367 "mcksbpodef") (List.mem_of_getElem? (i := 2172) (by decide +kernel))) (hs _ (by decide +kernel)) (hs _ (by decide +kernel)) (hs _ (by decide +kernel)) (hs _ (by decide +kernel)) (fun j hj => by rcases (show j = 0 ∨ j = 1 ∨ j = 2 ∨ j = 3 ∨ j = 4 ∨ j = 5 ∨ j = 6 ∨ j = 7 ∨ j = 8 ∨ j = 9 by omega) with rfl | rfl | rfl | rfl | rfl | rfl | rfl | rfl | rfl | rfl <;> exact hs _ (by decide +kernel)) hA
  exact ⟨e0, z1, z2, z3, ⟨cell, h1, h2, h3, h5, h7⟩, hV, z4, x356, x367⟩
set_option maxHeartbeats 4000000 in
theorem zl_one {p : Program} {l : Launch} {e : Env} {s : State} {m : MethodId} {below : List Frame} {meth : Method} {c : Code} {b : Nat} {xs : Nat → Int32} {A : Nat → Prop} {L : Nat} {H : Heap} {locs : List Loc} {ls : Array Slot} {K N : Nat} (C0 : lw_At p s m meth c b L xs) (hA2 : ∀ q : Nat, A q → s.heap.size ≤ q) (hk : K ≤ 600006) (hn : N ≤ 7302080) (hS : va_S A s.heap H locs) : W p l e room_1 s m #[Value.ref b] below meth c H locs (K) (N) (lw_Z below #[Value.ref b] s) (F0 m 3265 ls []) := by
  obtain ⟨hx, hb, hr, hml, hown, ht0, hX, hbl, hlocks, hgv⟩ := id C0
  refine lv_iconst (v := 1) hx hb dL_law_3265 (by decide) ?_
  refine va_forget (fun q hq => hA2 _ (hS.2.2 q hq)) ?_
  refine W.widen (k := 600006) (n := 7302080) hk hn ?_
  refine W.base ?_
  exact lw_ret (Drawn.sameBut.refl s.drawn lw_cs) hx hb hr hlocks dL_law_3266
set_option maxHeartbeats 4000000 in
/-- behind every case: the script is over, and the law returns 1 -/
theorem zl_end {p : Program} {l : Launch} {e : Env} {s : State} {m : MethodId} {below : List Frame} {meth : Method} {c : Code} {b : Nat} {xs : Nat → Int32} {A : Nat → Prop} {H : Heap} {locs : List Loc} {ls : Array Slot} {K N : Nat} (C0 : lw_At p s m meth c b 5 xs) (hA2 : ∀ q : Nat, A q → s.heap.size ≤ q) (hk : K ≤ 600006) (hn : N ≤ 7302080) (hS : va_S A s.heap H locs) (hl : lv_has ls 9 [(5, .int 0), (0, .ref b)]) : W p l e room_1 s m #[Value.ref b] below meth c H locs (K) (N) (lw_Z below #[Value.ref b] s) (F0 m 3259 ls []) := by
  obtain ⟨hx, hb, hr, hml, hown, ht0, hX, hbl, hlocks, hgv⟩ := id C0
  have hts := ht0
  have hbA : ¬ A b := fun h => absurd hbl (Nat.not_lt.mpr (hA2 b h))
  refine lv_iinc (v := 5) (lv' := [(5, .int 5), (0, .ref b)]) hx hb dL_law_3259 hl (k := 0) rfl (by decide) (by decide) rfl (fun ls hl => ?_)
  refine lv_goto (tgt := 28) hx hb dL_law_3262 (by decide) ?_
  refine lv_iload hx hb dL_law_28 (lv_at hl 0 rfl) ?_
  refine lv_aload_n hx hb dL_law_30 rfl (lv_at hl 1 rfl) ?_
  refine va_slen hx hb hX hbl hbA hS dL_law_31 ?_
  refine lv_iconst (v := 5) hx hb dL_law_32 (by decide) ?_
  refine lv_isub hx hb dL_law_33 ?_
  refine lv_topi (fun y ey => ?_)
  obtain rfl : y = 0 := ey.trans (by decide)
  refine lv_icmp_gt (tgt := 3265) hx hb dL_law_34 (by decide) (fun _ => ?_) (fun c9 => absurd (by decide) c9)
  exact zl_one C0 hA2 hk hn hS
