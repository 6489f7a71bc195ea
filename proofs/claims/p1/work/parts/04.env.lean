/-! What every method of this claim is told of the world beside its own cells: the statics that an exception's making and an empty list read, texts, and what the tables say of interfaces, casts and nests. -/
abbrev zI : String := "java/lang/IndexOutOfBoundsException"
abbrev zG : String := "java/lang/IllegalArgumentException"
abbrev zR : String := "java/lang/ArithmeticException"
abbrev zUp : List String := ["java/lang/RuntimeException", "java/lang/Exception"]
theorem zx_warm {own tx : String} {k : Nat} {s U : State} (hW : s.WarmedH U.vm) (h : ∃ a, vk_R own k tx a s) : ∃ a, vk_R own k tx a U := h.elim fun a h => ⟨a, vk_R.warm hW h⟩
theorem zx_same {own tx : String} {k : Nat} {u U : State} (hv : U.vm = u.vm) (h : ∃ a, vk_R own k tx a u) : ∃ a, vk_R own k tx a U := h.elim fun a h => ⟨a, vk_R.same hv h⟩
def zV (U : State) : Prop := ((∃ a, vk_R RX6 461 "no such team" a U)) ∧ ((∃ a, vk_R RX6 463 "no such dog" a U)) ∧ ((∃ a, vk_R RX6 457 "no such leg" a U)) ∧ ((∃ a, vk_R RX6 459 "no such checkpoint" a U)) ∧ ((∃ a, vk_R RX6 448 "a number is out of range" a U)) ∧ ((∃ a, vk_R RX6 363 "no team has this place" a U)) ∧ ((∃ a, vk_R RX6 428 "no dog began" a U)) ∧ ((∃ a, vk_R RX6 434 "no dog is in the race" a U)) ∧ (va_Nw (.castable zI zI) U) ∧ (va_Nw (.castable zG zG) U) ∧ (va_Nw (.castable zR zR) U) ∧ (va_Nw (.declares (Bundle.initS "java/lang/RuntimeException")) U) ∧ (va_Nw (.declares (Bundle.initS "java/lang/Exception")) U) ∧ (va_Nw (.declares (Bundle.initS Bundle.tN)) U) ∧ (va_Fw RJx4a65c ⟨"java/util/List", "size", "()I"⟩ yJx4a65c_size_8abf5 U) ∧ (va_Fw RJx4a65c ⟨"java/util/List", "iterator", "()Ljava/util/Iterator;"⟩ yJx4a65c_iterator_32c93 U) ∧ (va_Fw RJx35411 ⟨"java/util/Iterator", "hasNext", "()Z"⟩ yJx35411_hasNext_aae02 U) ∧ (va_Fw RJx4a65c ⟨"java/util/List", "add", "(Ljava/lang/Object;)Z"⟩ yJx4a65c_add_9ea2d U) ∧ (va_Fw RJx4a65c ⟨"java/util/List", "clear", "()V"⟩ yJx4a65c_clear_da8c8 U) ∧ (va_Nw (.methodLinkNest "Gangline" 41 ⟨"Gangline$Plan", "<init>", "()V"⟩ "Gangline") U) ∧ (va_Nw (.methodLinkNest "Gangline" 98 ⟨"Gangline$Team", "<init>", "()V"⟩ "Gangline") U) ∧ (va_Nw (.methodLinkNest "Gangline$Team" 20 ⟨"Gangline$Plan", "<init>", "()V"⟩ "Gangline") U) ∧ (va_AO "Gangline$Dog" U) ∧ (va_AO "Gangline$Leg" U) ∧ (va_AO "Gangline$Party" U) ∧ (va_AO "Gangline$Storm" U) ∧ (va_AO "Gangline$Team" U) ∧ (va_AO "java/lang/Object" U) ∧ (va_Nw (.castable RX8 "java/lang/Object") U) ∧ (va_Nw (.castable RX9 "java/lang/Object") U) ∧ (va_Nw (.fieldLinkNest "java/util/ArrayList$Itr" 28 "java/util/ArrayList" "size" "I" "java/util/ArrayList") U)
theorem zV_T461 {U : State} (h : zV U) : (∃ a, vk_R RX6 461 "no such team" a U) := h.1
theorem zV_T463 {U : State} (h : zV U) : (∃ a, vk_R RX6 463 "no such dog" a U) := h.2.1
theorem zV_T457 {U : State} (h : zV U) : (∃ a, vk_R RX6 457 "no such leg" a U) := h.2.2.1
theorem zV_T459 {U : State} (h : zV U) : (∃ a, vk_R RX6 459 "no such checkpoint" a U) := h.2.2.2.1
theorem zV_T448 {U : State} (h : zV U) : (∃ a, vk_R RX6 448 "a number is out of range" a U) := h.2.2.2.2.1
theorem zV_T363 {U : State} (h : zV U) : (∃ a, vk_R RX6 363 "no team has this place" a U) := h.2.2.2.2.2.1
theorem zV_T428 {U : State} (h : zV U) : (∃ a, vk_R RX6 428 "no dog began" a U) := h.2.2.2.2.2.2.1
theorem zV_T434 {U : State} (h : zV U) : (∃ a, vk_R RX6 434 "no dog is in the race" a U) := h.2.2.2.2.2.2.2.1
theorem zV_C_zI {U : State} (h : zV U) : va_Nw (.castable zI zI) U := h.2.2.2.2.2.2.2.2.1
theorem zV_C_zG {U : State} (h : zV U) : va_Nw (.castable zG zG) U := h.2.2.2.2.2.2.2.2.2.1
theorem zV_C_zR {U : State} (h : zV U) : va_Nw (.castable zR zR) U := h.2.2.2.2.2.2.2.2.2.2.1
theorem zV_D0 {U : State} (h : zV U) : va_Nw (.declares (Bundle.initS "java/lang/RuntimeException")) U := h.2.2.2.2.2.2.2.2.2.2.2.1
theorem zV_D1 {U : State} (h : zV U) : va_Nw (.declares (Bundle.initS "java/lang/Exception")) U := h.2.2.2.2.2.2.2.2.2.2.2.2.1
theorem zV_D2 {U : State} (h : zV U) : va_Nw (.declares (Bundle.initS Bundle.tN)) U := h.2.2.2.2.2.2.2.2.2.2.2.2.2.1
theorem zV_W_size {U : State} (h : zV U) : va_Fw RJx4a65c ⟨"java/util/List", "size", "()I"⟩ yJx4a65c_size_8abf5 U := h.2.2.2.2.2.2.2.2.2.2.2.2.2.2.1
theorem zV_W_iter {U : State} (h : zV U) : va_Fw RJx4a65c ⟨"java/util/List", "iterator", "()Ljava/util/Iterator;"⟩ yJx4a65c_iterator_32c93 U := h.2.2.2.2.2.2.2.2.2.2.2.2.2.2.2.1
theorem zV_W_hasNext {U : State} (h : zV U) : va_Fw RJx35411 ⟨"java/util/Iterator", "hasNext", "()Z"⟩ yJx35411_hasNext_aae02 U := h.2.2.2.2.2.2.2.2.2.2.2.2.2.2.2.2.1
theorem zV_W_add {U : State} (h : zV U) : va_Fw RJx4a65c ⟨"java/util/List", "add", "(Ljava/lang/Object;)Z"⟩ yJx4a65c_add_9ea2d U := h.2.2.2.2.2.2.2.2.2.2.2.2.2.2.2.2.2.1
theorem zV_W_clear {U : State} (h : zV U) : va_Fw RJx4a65c ⟨"java/util/List", "clear", "()V"⟩ yJx4a65c_clear_da8c8 U := h.2.2.2.2.2.2.2.2.2.2.2.2.2.2.2.2.2.2.1
theorem zV_M41_Gangline {U : State} (h : zV U) : va_Nw (.methodLinkNest "Gangline" 41 ⟨"Gangline$Plan", "<init>", "()V"⟩ "Gangline") U := h.2.2.2.2.2.2.2.2.2.2.2.2.2.2.2.2.2.2.2.1
theorem zV_M98_Gangline {U : State} (h : zV U) : va_Nw (.methodLinkNest "Gangline" 98 ⟨"Gangline$Team", "<init>", "()V"⟩ "Gangline") U := h.2.2.2.2.2.2.2.2.2.2.2.2.2.2.2.2.2.2.2.2.1
theorem zV_M20_Gangline_Team {U : State} (h : zV U) : va_Nw (.methodLinkNest "Gangline$Team" 20 ⟨"Gangline$Plan", "<init>", "()V"⟩ "Gangline") U := h.2.2.2.2.2.2.2.2.2.2.2.2.2.2.2.2.2.2.2.2.2.1
theorem zV_A_Gangline_Dog {U : State} (h : zV U) : va_AO "Gangline$Dog" U := h.2.2.2.2.2.2.2.2.2.2.2.2.2.2.2.2.2.2.2.2.2.2.1
theorem zV_A_Gangline_Leg {U : State} (h : zV U) : va_AO "Gangline$Leg" U := h.2.2.2.2.2.2.2.2.2.2.2.2.2.2.2.2.2.2.2.2.2.2.2.1
theorem zV_A_Gangline_Party {U : State} (h : zV U) : va_AO "Gangline$Party" U := h.2.2.2.2.2.2.2.2.2.2.2.2.2.2.2.2.2.2.2.2.2.2.2.2.1
theorem zV_A_Gangline_Storm {U : State} (h : zV U) : va_AO "Gangline$Storm" U := h.2.2.2.2.2.2.2.2.2.2.2.2.2.2.2.2.2.2.2.2.2.2.2.2.2.1
theorem zV_A_Gangline_Team {U : State} (h : zV U) : va_AO "Gangline$Team" U := h.2.2.2.2.2.2.2.2.2.2.2.2.2.2.2.2.2.2.2.2.2.2.2.2.2.2.1
theorem zV_A_java_lang_Object {U : State} (h : zV U) : va_AO "java/lang/Object" U := h.2.2.2.2.2.2.2.2.2.2.2.2.2.2.2.2.2.2.2.2.2.2.2.2.2.2.2.1
theorem zV_O_X8 {U : State} (h : zV U) : va_Nw (.castable RX8 "java/lang/Object") U := h.2.2.2.2.2.2.2.2.2.2.2.2.2.2.2.2.2.2.2.2.2.2.2.2.2.2.2.2.1
theorem zV_O_X9 {U : State} (h : zV U) : va_Nw (.castable RX9 "java/lang/Object") U := h.2.2.2.2.2.2.2.2.2.2.2.2.2.2.2.2.2.2.2.2.2.2.2.2.2.2.2.2.2.1
theorem zV_F28_java_util_ArrayList_Itr {U : State} (h : zV U) : va_Nw (.fieldLinkNest "java/util/ArrayList$Itr" 28 "java/util/ArrayList" "size" "I" "java/util/ArrayList") U := h.2.2.2.2.2.2.2.2.2.2.2.2.2.2.2.2.2.2.2.2.2.2.2.2.2.2.2.2.2.2
theorem zV.warm {s U : State} (hW : s.WarmedH U.vm) (h : zV s) : zV U := by
  obtain ⟨h0, h1, h2, h3, h4, h5, h6, h7, h8, h9, h10, h11, h12, h13, h14, h15, h16, h17, h18, h19, h20, h21, h22, h23, h24, h25, h26, h27, h28, h29, h30⟩ := h
  exact ⟨zx_warm hW h0, zx_warm hW h1, zx_warm hW h2, zx_warm hW h3, zx_warm hW h4, zx_warm hW h5, zx_warm hW h6, zx_warm hW h7, va_Nw.warmC hW h8, va_Nw.warmC hW h9, va_Nw.warmC hW h10, va_Nw.warmD hW h11, va_Nw.warmD hW h12, va_Nw.warmD hW h13, va_Fw.moved ⟨by decide, by decide⟩ hW.alike h14, va_Fw.moved ⟨by decide, by decide⟩ hW.alike h15, va_Fw.moved ⟨by decide, by decide⟩ hW.alike h16, va_Fw.moved ⟨by decide, by decide⟩ hW.alike h17, va_Fw.moved ⟨by decide, by decide⟩ hW.alike h18, va_Nw.warmM hW h19, va_Nw.warmM hW h20, va_Nw.warmM hW h21, va_AO.moved hW.alike h22, va_AO.moved hW.alike h23, va_AO.moved hW.alike h24, va_AO.moved hW.alike h25, va_AO.moved hW.alike h26, va_AO.moved hW.alike h27, va_Nw.warmC hW h28, va_Nw.warmC hW h29, va_Nw.warmF hW h30⟩
theorem zV.same {u U : State} (hv : U.vm = u.vm) (h : zV u) : zV U := by
  obtain ⟨h0, h1, h2, h3, h4, h5, h6, h7, h8, h9, h10, h11, h12, h13, h14, h15, h16, h17, h18, h19, h20, h21, h22, h23, h24, h25, h26, h27, h28, h29, h30⟩ := h
  exact ⟨zx_same hv h0, zx_same hv h1, zx_same hv h2, zx_same hv h3, zx_same hv h4, zx_same hv h5, zx_same hv h6, zx_same hv h7, va_Nw.same rfl hv.symm h8, va_Nw.same rfl hv.symm h9, va_Nw.same rfl hv.symm h10, va_Nw.same rfl hv.symm h11, va_Nw.same rfl hv.symm h12, va_Nw.same rfl hv.symm h13, va_Fw.moved ⟨by decide, by decide⟩ (by rw [hv]; exact Vm.Alike.refl u.vm) h14, va_Fw.moved ⟨by decide, by decide⟩ (by rw [hv]; exact Vm.Alike.refl u.vm) h15, va_Fw.moved ⟨by decide, by decide⟩ (by rw [hv]; exact Vm.Alike.refl u.vm) h16, va_Fw.moved ⟨by decide, by decide⟩ (by rw [hv]; exact Vm.Alike.refl u.vm) h17, va_Fw.moved ⟨by decide, by decide⟩ (by rw [hv]; exact Vm.Alike.refl u.vm) h18, va_Nw.same rfl hv.symm h19, va_Nw.same rfl hv.symm h20, va_Nw.same rfl hv.symm h21, va_AO.moved (by rw [hv]; exact Vm.Alike.refl u.vm) h22, va_AO.moved (by rw [hv]; exact Vm.Alike.refl u.vm) h23, va_AO.moved (by rw [hv]; exact Vm.Alike.refl u.vm) h24, va_AO.moved (by rw [hv]; exact Vm.Alike.refl u.vm) h25, va_AO.moved (by rw [hv]; exact Vm.Alike.refl u.vm) h26, va_AO.moved (by rw [hv]; exact Vm.Alike.refl u.vm) h27, va_Nw.same rfl hv.symm h28, va_Nw.same rfl hv.symm h29, va_Nw.same rfl hv.symm h30⟩
/-- the empty row of Object that new lists share -/
def zD (e0 : Nat) (A : Nat → Prop) (U : State) (H : Heap) : Prop := ∃ cell : Cell, H[e0]? = some cell ∧ U.isArrayOf cell (.object "java/lang/Object") ∧ cell.vm ≠ .unknown ∧ cell.slots.size.toInt32 = 0 ∧ ¬ A e0
theorem zD.moved {e0 : Nat} {A : Nat → Prop} {u U : State} {H : Heap} (hvm : u.vm.Alike U.vm) (h : zD e0 A u H) : zD e0 A U H := by
  obtain ⟨cell, h1, h2, h3⟩ := h
  exact ⟨cell, h1, State.isArrayOf_alike hvm h2, h3⟩
theorem zD.kept {e0 : Nat} {A : Nat → Prop} {U : State} {H H1 : Heap} (h : zD e0 A U H) (hq : ∀ a : Nat, a < H.size → ¬ A a → H1[a]? = H[a]?) : zD e0 A U H1 := by
  obtain ⟨cell, h1, h2, h3, h4, h5⟩ := h
  exact ⟨cell, by rw [hq e0 (Array.getElem?_eq_some_iff.mp h1).1 h5]; exact h1, h2, h3, h4, h5⟩
theorem zD.narrow {e0 : Nat} {A B : Nat → Prop} {U : State} {H : Heap} (h : zD e0 A U H) (hAB : ∀ q, B q → A q) : zD e0 B U H := by
  obtain ⟨cell, h1, h2, h3, h4, h5⟩ := h
  exact ⟨cell, h1, h2, h3, h4, fun z => h5 (hAB e0 z)⟩
abbrev zO : String := "[Ljava/lang/Object;"
abbrev zDE : String := "DEFAULTCAPACITY_EMPTY_ELEMENTDATA"
theorem zx_ldcw {p : Program} {l : Launch} {e : Env} {R : Room} {s : State} {m : MethodId} {args : Array Value} {below : List Frame} {meth : Method} {c : Code} {H : Heap} {locs : List Loc} {cells slots : Nat} {Q : State → Prop} {cc : ByteArray} {pc : Nat} {ls : Array Slot} {rest : List Value} (hexec : p.tables.exec = Jvm.exec) (hb : c.code = cc) {own tx : String} {index q : Nat} (hown : s.vm.findClass own = some m.cls) (hZ : vk_R own index tx q s) (hdg : decode cc pc = .ok (.ldc_w index, 3))
    (k : W p l e R s m args below meth c H locs cells slots Q (F0 m (pc + 3) ls (.ref q :: rest))) : W p l e R s m args below meth c H locs cells slots Q (F0 m pc ls rest) := by
  intro T hT X
  obtain ⟨t, a1, b1⟩ := k T hT X
  exact ⟨t, X.ldcStringW hexec hown (text := tx) (a := q) hZ.1 hZ.2 (g := F0 m pc ls rest) rfl (by rw [hb]; exact hdg) t a1, b1⟩
/-- a text of n bytes f: its object k, its row v -/
def zS (k v n : Nat) (f : Nat → Int32) (A : Nat → Prop) (U : State) (H : Heap) : Prop := va_O RJ0 k A U H ∧ va_OF RJ0 "coder" "B" (.int 0) k A U H ∧ va_OF RJ0 "value" "[B" (.ref v) k A U H ∧ va_T .byte v n (fun j => .int (f j)) A U H ∧ n < 2 ^ 31
theorem zS.moved {k v n : Nat} {f : Nat → Int32} {A : Nat → Prop} {u U : State} {H : Heap} (hvm : u.vm.Alike U.vm) (h : zS k v n f A u H) : zS k v n f A U H := ⟨va_O.moved hvm h.1, va_OF.moved hvm h.2.1, va_OF.moved hvm h.2.2.1, va_T.moved hvm h.2.2.2.1, h.2.2.2.2⟩
theorem zS.same {k v n : Nat} {f : Nat → Int32} {A : Nat → Prop} {u U : State} {H : Heap} (hv : U.vm = u.vm) (h : zS k v n f A u H) : zS k v n f A U H := zS.moved (by rw [hv]; exact Vm.Alike.refl u.vm) h
theorem zS.kept {k v n : Nat} {f : Nat → Int32} {A : Nat → Prop} {U : State} {H H1 : Heap} (h : zS k v n f A U H) (hq : ∀ a : Nat, a < H.size → ¬ A a → H1[a]? = H[a]?) : zS k v n f A U H1 := ⟨h.1.kept hq, h.2.1.kept hq, h.2.2.1.kept hq, h.2.2.2.1.kept hq, h.2.2.2.2⟩
theorem zS.narrow {k v n : Nat} {f : Nat → Int32} {A B : Nat → Prop} {U : State} {H : Heap} (h : zS k v n f A U H) (hAB : ∀ q, B q → A q) : zS k v n f B U H := ⟨h.1.narrow hAB, h.2.1.narrow hAB, h.2.2.1.narrow hAB, h.2.2.2.1.narrow hAB, h.2.2.2.2⟩
theorem zS.recv {k v n : Nat} {f : Nat → Int32} {A : Nat → Prop} {s : State} {H : Heap} {locs : List Loc} (h : zS k v n f A s s.heap) (hS : va_S A s.heap H locs) : ∃ cell : Cell, H[k]? = some cell ∧ cell.vm.isStatics = false ∧ s.vm.findClass RJ0 = some cell.cls := by
  obtain ⟨cell, h1, h2, h3, -⟩ := h.1.kept hS.2.1
  exact ⟨cell, h1, h2, h3⟩
/-- a text that the reference's pool names -/
def zT (ix n : Nat) (tx : String) (A : Nat → Prop) (U : State) (H : Heap) : Prop := ∃ (k v : Nat) (f : Nat → Int32), vk_R RX10 ix tx k U ∧ zS k v n f A U H
theorem zT.warm {ix n : Nat} {tx : String} {A : Nat → Prop} {s U : State} {H : Heap} (hW : s.WarmedH U.vm) (h : zT ix n tx A s H) : zT ix n tx A U H := by
  obtain ⟨k, v, f, h1, h2⟩ := h
  exact ⟨k, v, f, vk_R.warm hW h1, zS.moved hW.alike h2⟩
theorem zT.same {ix n : Nat} {tx : String} {A : Nat → Prop} {u U : State} {H : Heap} (hv : U.vm = u.vm) (h : zT ix n tx A u H) : zT ix n tx A U H := by
  obtain ⟨k, v, f, h1, h2⟩ := h
  exact ⟨k, v, f, vk_R.same hv h1, zS.same hv h2⟩
theorem zT.kept {ix n : Nat} {tx : String} {A : Nat → Prop} {U : State} {H H1 : Heap} (h : zT ix n tx A U H) (hq : ∀ a : Nat, a < H.size → ¬ A a → H1[a]? = H[a]?) : zT ix n tx A U H1 := by
  obtain ⟨k, v, f, h1, h2⟩ := h
  exact ⟨k, v, f, h1, h2.kept hq⟩
theorem zT.narrow {ix n : Nat} {tx : String} {A B : Nat → Prop} {U : State} {H : Heap} (h : zT ix n tx A U H) (hAB : ∀ q, B q → A q) : zT ix n tx B U H := by
  obtain ⟨k, v, f, h1, h2⟩ := h
  exact ⟨k, v, f, h1, h2.narrow hAB⟩
/-- the whole of it, A being what may change -/
def zE (e0 : Nat) (A : Nat → Prop) (U : State) (H : Heap) : Prop := vx_Zq Bundle.tN "UNASSIGNED_STACK" Bundle.steD A U H ∧ vx_Zq Bundle.tN "SUPPRESSED_SENTINEL" Bundle.listD A U H ∧ va_Z RJx4a65c zDE zO (.ref e0) A U H ∧ zD e0 A U H ∧ zV U ∧ va_Z RJ0 "COMPACT_STRINGS" "Z" (.int 1) A U H ∧ zT 356 9 "fewtslakp" A U H ∧ zT 367 10 "mcksbpodef" A U H
theorem zE.warm {e0 : Nat} {A : Nat → Prop} {s U : State} {H : Heap} (hW : s.WarmedH U.vm) (h : zE e0 A s H) : zE e0 A U H := ⟨vx_Zq.moved hW.alike h.1, vx_Zq.moved hW.alike h.2.1, va_Z.moved hW.alike h.2.2.1, zD.moved hW.alike h.2.2.2.1, h.2.2.2.2.1.warm hW, va_Z.moved hW.alike h.2.2.2.2.2.1, zT.warm hW h.2.2.2.2.2.2.1, zT.warm hW h.2.2.2.2.2.2.2⟩
theorem zE.same {e0 : Nat} {A : Nat → Prop} {u U : State} {H : Heap} (hv : U.vm = u.vm) (h : zE e0 A u H) : zE e0 A U H := by
  have ha : u.vm.Alike U.vm := by rw [hv]; exact Vm.Alike.refl u.vm
  exact ⟨vx_Zq.moved ha h.1, vx_Zq.moved ha h.2.1, va_Z.moved ha h.2.2.1, zD.moved ha h.2.2.2.1, h.2.2.2.2.1.same hv, va_Z.moved ha h.2.2.2.2.2.1, zT.same hv h.2.2.2.2.2.2.1, zT.same hv h.2.2.2.2.2.2.2⟩
theorem zE.kept {e0 : Nat} {A : Nat → Prop} {U : State} {H H1 : Heap} (h : zE e0 A U H) (hq : ∀ a : Nat, a < H.size → ¬ A a → H1[a]? = H[a]?) : zE e0 A U H1 := ⟨h.1.kept hq, h.2.1.kept hq, h.2.2.1.kept hq, h.2.2.2.1.kept hq, h.2.2.2.2.1, h.2.2.2.2.2.1.kept hq, h.2.2.2.2.2.2.1.kept hq, h.2.2.2.2.2.2.2.kept hq⟩
theorem zE.narrow {e0 : Nat} {A B : Nat → Prop} {U : State} {H : Heap} (h : zE e0 A U H) (hAB : ∀ q, B q → A q) : zE e0 B U H := ⟨h.1.narrow hAB, h.2.1.narrow hAB, h.2.2.1.narrow hAB, h.2.2.2.1.narrow hAB, h.2.2.2.2.1, h.2.2.2.2.2.1.narrow hAB, h.2.2.2.2.2.2.1.narrow hAB, h.2.2.2.2.2.2.2.narrow hAB⟩
theorem zE.v {e0 : Nat} {A : Nat → Prop} {U : State} {H : Heap} (h : zE e0 A U H) : zV U := h.2.2.2.2.1
theorem zE.cs {e0 : Nat} {A : Nat → Prop} {U : State} {H : Heap} (h : zE e0 A U H) : va_Z RJ0 "COMPACT_STRINGS" "Z" (.int 1) A U H := h.2.2.2.2.2.1
theorem zE.t356 {e0 : Nat} {A : Nat → Prop} {U : State} {H : Heap} (h : zE e0 A U H) : zT 356 9 "fewtslakp" A U H := h.2.2.2.2.2.2.1
theorem zE.t367 {e0 : Nat} {A : Nat → Prop} {U : State} {H : Heap} (h : zE e0 A U H) : zT 367 10 "mcksbpodef" A U H := h.2.2.2.2.2.2.2
/-- the fresh class: its eight rows and plans by a, nothing counted -/
def zC (a : Nat → Nat) : List Value := [.ref (a 0), .int 0, .ref (a 1), .int 0, .ref (a 2), .int 0, .ref (a 3), .int 0, .long 0, .int 0, .int 0, .ref (a 4), .ref (a 5), .ref (a 6), .ref (a 7), .int 0]
/-- the fresh reference, t being what it told last; its four lists by b -/
def zM (t : Int32) (b : Nat → Nat) : List Value := [.int t, .ref (b 0), .ref (b 1), .ref (b 2), .ref (b 3), .int 0, .long 0, .int 0, .int 0, .int 0, .int 0]
/-- a method that throws E, always -/
abbrev zX (E : String) (A : Nat → Prop) : String → State → State → Prop := vx_X (fun _ : Unit => True) (fun E1 _ _ => E1 = E) A
theorem zX.of {E : String} {A : Nat → Prop} {s t : State} {H : Heap} {locs : List Loc} (hS : va_S A s.heap H locs) (h1 : H.size ≤ t.heap.size) (h2 : ∀ q : Nat, q < H.size → t.heap[q]? = H[q]?) : zX E A E s t :=
  ⟨(), trivial, rfl, Nat.le_trans hS.1 h1, fun q h3 h4 => by rw [h2 q (Nat.lt_of_lt_of_le h3 hS.1)]; exact hS.2.1 q h3 h4⟩
/-- the words of an exception's making that no list of good words bears -/
def zB (E : String) : List Cond := [.castable E E, .declares (Bundle.initS "java/lang/RuntimeException"), .declares (Bundle.initS "java/lang/Exception"), .declares (Bundle.initS Bundle.tN)]
theorem zB.of {E : String} {args : Array Value} {s : State} (h : zV s) (hc : va_Nw (.castable E E) s) : ∀ w ∈ zB E, w.before args s = true :=
  vx_c (va_Nw.use rfl hc) (vx_c (va_Nw.use rfl (zV_D0 h)) (vx_c (va_Nw.use rfl (zV_D1 h)) (vx_c (va_Nw.use rfl (zV_D2 h)) vx_n)))
theorem zx_gzI : ∀ w ∈ Cond.classLink RX6 361 zI :: Cond.initialized zI :: vx_atS RX6 365 zI zUp, vx_ot w = true := by decide +kernel
theorem zx_bzI : ∀ w ∈ (vx_atS RX6 365 zI zUp).filter (fun w => !goodWord w), w ∈ zB zI := by decide +kernel
theorem zx_gzR : ∀ w ∈ Cond.classLink RX6 426 zR :: Cond.initialized zR :: vx_atS RX6 430 zR zUp, vx_ot w = true := by decide +kernel
theorem zx_bzR : ∀ w ∈ (vx_atS RX6 430 zR zUp).filter (fun w => !goodWord w), w ∈ zB zR := by decide +kernel
theorem zx_gzG : ∀ w ∈ Cond.classLink RX6 255 zG :: Cond.initialized zG :: vx_atS RX6 259 zG zUp, vx_ot w = true := by decide +kernel
theorem zx_bzG : ∀ w ∈ (vx_atS RX6 259 zG zUp).filter (fun w => !goodWord w), w ∈ zB zG := by decide +kernel
