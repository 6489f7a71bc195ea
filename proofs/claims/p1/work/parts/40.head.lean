set_option maxHeartbeats 4000000 in
set_option maxRecDepth 100000 in
/-- the loop's head, the first time -/
theorem zl_head {p : Program} {l : Launch} {e : Env} {s : State} {m : MethodId} {below : List Frame} {meth : Method} {c : Code} {b : Nat} {xs : Nat → Int32} {A : Nat → Prop} {L : Nat} (hL : L ≤ 5) (C0 : lw_At p s m meth c b L xs) (hA : ∀ q : Nat, s.heap.size ≤ q → A q) (hA2 : ∀ q : Nat, A q → s.heap.size ≤ q) (htr : l.stackTraces = false) (dC : Nat → ClassId) (dI : Nat → Nat → Nat) (e0 h0 g0 o od : Nat) (a bb : Nat → Nat) (cL cT cO cD : ClassId) (hE : zE e0 A s s.heap) (H : Heap) (locs : List Loc) (ls : Array Slot) (hK : va_K (dC, dI) vwCl [(cL, (.object RX1)), (cT, (.object RX5)), (cO, .long), (cD, .double)] s) (hP : va_P (dC, dI) vwCl [(h0, .inr (11, zC a)), ((a 0), .inl (cL, 10, .inr (.inr (.inr (.inr (fun _ => none)))))), ((a 3), .inl (cT, 6, .inr (.inr (.inr (.inr (fun _ => none)))))), (g0, .inr (15, zM 0 bb)), ((bb 0), .inr (4, [.int 0, .ref e0, .int 0])), ((bb 1), .inr (4, [.int 0, .ref e0, .int 0])), ((bb 2), .inr (4, [.int 0, .ref e0, .int 0])), ((bb 3), .inr (4, [.int 0, .ref e0, .int 0])), (o, .inl (cO, 1, .inr (.inl (fun _ => 0)))), (od, .inl (cD, 1, .inr (.inr (.inr (.inl (fun _ => 0))))))] H) (hD : va_D A [(h0, .inr (11, zC a)), ((a 0), .inl (cL, 10, .inr (.inr (.inr (.inr (fun _ => none)))))), ((a 3), .inl (cT, 6, .inr (.inr (.inr (.inr (fun _ => none)))))), (g0, .inr (15, zM 0 bb)), ((bb 0), .inr (4, [.int 0, .ref e0, .int 0])), ((bb 1), .inr (4, [.int 0, .ref e0, .int 0])), ((bb 2), .inr (4, [.int 0, .ref e0, .int 0])), ((bb 3), .inr (4, [.int 0, .ref e0, .int 0])), (o, .inl (cO, 1, .inr (.inl (fun _ => 0)))), (od, .inl (cD, 1, .inr (.inr (.inr (.inl (fun _ => 0))))))]) (hS : va_S A s.heap H locs) (hl : lv_has ls 9 [(0, .ref b), (1, .ref h0), (2, .ref g0), (3, .ref o), (4, .ref od), (5, .int 0)]) : W p l e room_1 s m #[Value.ref b] below meth c H locs (86) (1094) (lw_Z below #[Value.ref b] s) (F0 m 28 ls []) := by
  obtain ⟨hx, hb, hr, hml, hown, ht0, hX, hbl, hlocks, hgv⟩ := id C0
  have hts := ht0
  have hbA : ¬ A b := fun h => absurd hbl (Nat.not_lt.mpr (hA2 b h))
  refine lv_iload hx hb dL_law_28 (lv_at hl 5 rfl) ?_
  refine lv_aload_n hx hb dL_law_30 rfl (lv_at hl 0 rfl) ?_
  refine va_slen hx hb hX hbl hbA hS dL_law_31 ?_
  refine lv_iconst (v := 5) hx hb dL_law_32 (by decide) ?_
  refine lv_isub hx hb dL_law_33 ?_
  refine lv_topi (fun y ey => ?_)
  by_cases h5 : L = 5
  · subst h5
    obtain rfl : y = 0 := ey.trans (by decide)
    refine lv_icmp_gt (tgt := 3265) hx hb dL_law_34 (by decide) (fun c9 => absurd c9 (by decide)) (fun _ => ?_)
    refine lv_aload_n hx hb dL_law_37 rfl (lv_at hl 0 rfl) ?_
    refine lv_iload hx hb dL_law_38 (lv_at hl 5 rfl) ?_
    refine va_sld hx hb hX hbl hbA hS (by unfold vp_in; decide) dL_law_40 ?_
    refine lv_bipush (v := 63) hx hb dL_law_41 (by decide) ?_
    refine lv_iand hx hb dL_law_43 ?_
    refine lv_topi (fun y1 e1 => ?_)
    obtain ⟨k, hk, he⟩ := pk_andE (xs (0 : Int32).toNatClampNeg) (m := 63) 6 (by decide)
    obtain rfl : y1 = nI k := e1.trans he
    have hk : k < 64 := hk
    rcases Nat.lt_or_ge k 32 with h32 | h32
    · rcases Nat.lt_or_ge k 16 with h16 | h16
      · rcases Nat.lt_or_ge k 8 with h8 | h8
        · rcases Nat.lt_or_ge k 4 with h4 | h4
          · rcases Nat.lt_or_ge k 2 with h2 | h2
            · rcases Nat.lt_or_ge k 1 with h1 | h1
              · obtain rfl : k = 0 := by omega
                refine lv_tableIn (off := 204) (tgt := 248) hx hb dL_law_44 (by decide +kernel) (by decide +kernel) (by decide +kernel) (by decide) ?_
                exact zl_0 C0 hA hA2 htr dC dI e0 h0 g0 o od a bb cL cT cO cD hE H locs ls hK hP hD hS hl
              · obtain rfl : k = 1 := by omega
                refine lv_tableIn (off := 284) (tgt := 328) hx hb dL_law_44 (by decide +kernel) (by decide +kernel) (by decide +kernel) (by decide) ?_
                exact zl_1 C0 hA hA2 htr dC dI e0 h0 g0 o od a bb cL cT cO cD hE H locs ls hK hP hD hS hl
            · rcases Nat.lt_or_ge k 3 with h3 | h3
              · obtain rfl : k = 2 := by omega
                refine lv_tableIn (off := 352) (tgt := 396) hx hb dL_law_44 (by decide +kernel) (by decide +kernel) (by decide +kernel) (by decide) ?_
                exact zl_2 C0 hA hA2 htr dC dI e0 h0 g0 o od a bb cL cT cO cD hE H locs ls hK hP hD hS hl
              · obtain rfl : k = 3 := by omega
                refine lv_tableIn (off := 444) (tgt := 488) hx hb dL_law_44 (by decide +kernel) (by decide +kernel) (by decide +kernel) (by decide) ?_
                exact zl_3 C0 hA hA2 htr dC dI e0 h0 g0 o od a bb cL cT cO cD hE H locs ls hK hP hD hS hl
          · rcases Nat.lt_or_ge k 6 with h6 | h6
            · rcases Nat.lt_or_ge k 5 with h5 | h5
              · obtain rfl : k = 4 := by omega
                refine lv_tableIn (off := 535) (tgt := 579) hx hb dL_law_44 (by decide +kernel) (by decide +kernel) (by decide +kernel) (by decide) ?_
                exact zl_4 C0 hA hA2 htr dC dI e0 h0 g0 o od a bb cL cT cO cD hE H locs ls hK hP hD hS hl
              · obtain rfl : k = 5 := by omega
                refine lv_tableIn (off := 579) (tgt := 623) hx hb dL_law_44 (by decide +kernel) (by decide +kernel) (by decide +kernel) (by decide) ?_
                exact zl_5 C0 hA hA2 htr dC dI e0 h0 g0 o od a bb cL cT cO cD hE H locs ls hK hP hD hS hl
            · rcases Nat.lt_or_ge k 7 with h7 | h7
              · obtain rfl : k = 6 := by omega
                refine lv_tableIn (off := 659) (tgt := 703) hx hb dL_law_44 (by decide +kernel) (by decide +kernel) (by decide +kernel) (by decide) ?_
                exact zl_6 C0 hA hA2 htr dC dI e0 h0 g0 o od a bb cL cT cO cD hE H locs ls hK hP hD hS hl
              · obtain rfl : k = 7 := by omega
                refine lv_tableIn (off := 727) (tgt := 771) hx hb dL_law_44 (by decide +kernel) (by decide +kernel) (by decide +kernel) (by decide) ?_
                exact zl_7 C0 hA hA2 htr dC dI e0 h0 g0 o od a bb cL cT cO cD hE H locs ls hK hP hD hS hl
        · rcases Nat.lt_or_ge k 12 with h12 | h12
          · rcases Nat.lt_or_ge k 10 with h10 | h10
            · rcases Nat.lt_or_ge k 9 with h9 | h9
              · obtain rfl : k = 8 := by omega
                refine lv_tableIn (off := 795) (tgt := 839) hx hb dL_law_44 (by decide +kernel) (by decide +kernel) (by decide +kernel) (by decide) ?_
                exact zl_8 C0 hA hA2 htr dC dI e0 h0 g0 o od a bb cL cT cO cD hE H locs ls hK hP hD hS hl
              · obtain rfl : k = 9 := by omega
                refine lv_tableIn (off := 875) (tgt := 919) hx hb dL_law_44 (by decide +kernel) (by decide +kernel) (by decide +kernel) (by decide) ?_
                exact zl_9 C0 hA hA2 htr dC dI e0 h0 g0 o od a bb cL cT cO cD hE H locs ls hK hP hD hS hl
            · rcases Nat.lt_or_ge k 11 with h11 | h11
              · obtain rfl : k = 10 := by omega
                refine lv_tableIn (off := 943) (tgt := 987) hx hb dL_law_44 (by decide +kernel) (by decide +kernel) (by decide +kernel) (by decide) ?_
                exact zl_10 C0 hA hA2 htr dC dI e0 h0 g0 o od a bb cL cT cO cD hE H locs ls hK hP hD hS hl
              · obtain rfl : k = 11 := by omega
                refine lv_tableIn (off := 999) (tgt := 1043) hx hb dL_law_44 (by decide +kernel) (by decide +kernel) (by decide +kernel) (by decide) ?_
                exact zl_11 C0 hA hA2 htr dC dI e0 h0 g0 o od a bb cL cT cO cD hE H locs ls hK hP hD hS hl
          · rcases Nat.lt_or_ge k 14 with h14 | h14
            · rcases Nat.lt_or_ge k 13 with h13 | h13
              · obtain rfl : k = 12 := by omega
                refine lv_tableIn (off := 1067) (tgt := 1111) hx hb dL_law_44 (by decide +kernel) (by decide +kernel) (by decide +kernel) (by decide) ?_
                exact zl_12 C0 hA hA2 htr dC dI e0 h0 g0 o od a bb cL cT cO cD hE H locs ls hK hP hD hS hl
              · obtain rfl : k = 13 := by omega
                refine lv_tableIn (off := 1123) (tgt := 1167) hx hb dL_law_44 (by decide +kernel) (by decide +kernel) (by decide +kernel) (by decide) ?_
                exact zl_13 C0 hA hA2 htr dC dI e0 h0 g0 o od a bb cL cT cO cD hE H locs ls hK hP hD hS hl
            · rcases Nat.lt_or_ge k 15 with h15 | h15
              · obtain rfl : k = 14 := by omega
                refine lv_tableIn (off := 1179) (tgt := 1223) hx hb dL_law_44 (by decide +kernel) (by decide +kernel) (by decide +kernel) (by decide) ?_
                exact zl_14 C0 hA hA2 htr dC dI e0 h0 g0 o od a bb cL cT cO cD hE H locs ls hK hP hD hS hl
              · obtain rfl : k = 15 := by omega
                refine lv_tableIn (off := 1247) (tgt := 1291) hx hb dL_law_44 (by decide +kernel) (by decide +kernel) (by decide +kernel) (by decide) ?_
                exact zl_15 C0 hA hA2 htr dC dI e0 h0 g0 o od a bb cL cT cO cD hE H locs ls hK hP hD hS hl
      · rcases Nat.lt_or_ge k 24 with h24 | h24
        · rcases Nat.lt_or_ge k 20 with h20 | h20
          · rcases Nat.lt_or_ge k 18 with h18 | h18
            · rcases Nat.lt_or_ge k 17 with h17 | h17
              · obtain rfl : k = 16 := by omega
                refine lv_tableIn (off := 1315) (tgt := 1359) hx hb dL_law_44 (by decide +kernel) (by decide +kernel) (by decide +kernel) (by decide) ?_
                exact zl_16 C0 hA hA2 htr dC dI e0 h0 g0 o od a bb cL cT cO cD hE H locs ls hK hP hD hS hl
              · obtain rfl : k = 17 := by omega
                refine lv_tableIn (off := 1371) (tgt := 1415) hx hb dL_law_44 (by decide +kernel) (by decide +kernel) (by decide +kernel) (by decide) ?_
                exact zl_17 C0 hA hA2 htr dC dI e0 h0 g0 o od a bb cL cT cO cD hE H locs ls hK hP hD hS hl
            · rcases Nat.lt_or_ge k 19 with h19 | h19
              · obtain rfl : k = 18 := by omega
                refine lv_tableIn (off := 1462) (tgt := 1506) hx hb dL_law_44 (by decide +kernel) (by decide +kernel) (by decide +kernel) (by decide) ?_
                exact zl_18 C0 hA hA2 htr dC dI e0 h0 g0 o od a bb cL cT cO cD hE H locs ls hK hP hD hS hl
              · obtain rfl : k = 19 := by omega
                refine lv_tableIn (off := 1542) (tgt := 1586) hx hb dL_law_44 (by decide +kernel) (by decide +kernel) (by decide +kernel) (by decide) ?_
                exact zl_19 C0 hA hA2 htr dC dI e0 h0 g0 o od a bb cL cT cO cD hE H locs ls hK hP hD hS hl
          · rcases Nat.lt_or_ge k 22 with h22 | h22
            · rcases Nat.lt_or_ge k 21 with h21 | h21
              · obtain rfl : k = 20 := by omega
                refine lv_tableIn (off := 1598) (tgt := 1642) hx hb dL_law_44 (by decide +kernel) (by decide +kernel) (by decide +kernel) (by decide) ?_
                exact zl_20 C0 hA hA2 htr dC dI e0 h0 g0 o od a bb cL cT cO cD hE H locs ls hK hP hD hS hl
              · obtain rfl : k = 21 := by omega
                refine lv_tableIn (off := 1654) (tgt := 1698) hx hb dL_law_44 (by decide +kernel) (by decide +kernel) (by decide +kernel) (by decide) ?_
                exact zl_21 C0 hA hA2 htr dC dI e0 h0 g0 o od a bb cL cT cO cD hE H locs ls hK hP hD hS hl
            · rcases Nat.lt_or_ge k 23 with h23 | h23
              · obtain rfl : k = 22 := by omega
                refine lv_tableIn (off := 1710) (tgt := 1754) hx hb dL_law_44 (by decide +kernel) (by decide +kernel) (by decide +kernel) (by decide) ?_
                exact zl_22 C0 hA hA2 htr dC dI e0 h0 g0 o od a bb cL cT cO cD hE H locs ls hK hP hD hS hl
              · obtain rfl : k = 23 := by omega
                refine lv_tableIn (off := 1778) (tgt := 1822) hx hb dL_law_44 (by decide +kernel) (by decide +kernel) (by decide +kernel) (by decide) ?_
                exact zl_23 C0 hA hA2 htr dC dI e0 h0 g0 o od a bb cL cT cO cD hE H locs ls hK hP hD hS hl
        · rcases Nat.lt_or_ge k 28 with h28 | h28
          · rcases Nat.lt_or_ge k 26 with h26 | h26
            · rcases Nat.lt_or_ge k 25 with h25 | h25
              · obtain rfl : k = 24 := by omega
                refine lv_tableIn (off := 1841) (tgt := 1885) hx hb dL_law_44 (by decide +kernel) (by decide +kernel) (by decide +kernel) (by decide) ?_
                exact zl_24 C0 hA hA2 htr dC dI e0 h0 g0 o od a bb cL cT cO cD hE H locs ls hK hP hD hS hl
              · obtain rfl : k = 25 := by omega
                refine lv_tableIn (off := 1923) (tgt := 1967) hx hb dL_law_44 (by decide +kernel) (by decide +kernel) (by decide +kernel) (by decide) ?_
                exact zl_25 C0 hA hA2 htr dC dI e0 h0 g0 o od a bb cL cT cO cD hE H locs ls hK hP hD hS hl
            · rcases Nat.lt_or_ge k 27 with h27 | h27
              · obtain rfl : k = 26 := by omega
                refine lv_tableIn (off := 1979) (tgt := 2023) hx hb dL_law_44 (by decide +kernel) (by decide +kernel) (by decide +kernel) (by decide) ?_
                exact zl_26 C0 hA hA2 htr dC dI e0 h0 g0 o od a bb cL cT cO cD hE H locs ls hK hP hD hS hl
              · obtain rfl : k = 27 := by omega
                refine lv_tableIn (off := 2042) (tgt := 2086) hx hb dL_law_44 (by decide +kernel) (by decide +kernel) (by decide +kernel) (by decide) ?_
                exact zl_27 C0 hA hA2 htr dC dI e0 h0 g0 o od a bb cL cT cO cD hE H locs ls hK hP hD hS hl
          · rcases Nat.lt_or_ge k 30 with h30 | h30
            · rcases Nat.lt_or_ge k 29 with h29 | h29
              · obtain rfl : k = 28 := by omega
                refine lv_tableIn (off := 2098) (tgt := 2142) hx hb dL_law_44 (by decide +kernel) (by decide +kernel) (by decide +kernel) (by decide) ?_
                exact zl_28 C0 hA hA2 htr dC dI e0 h0 g0 o od a bb cL cT cO cD hE H locs ls hK hP hD hS hl
              · obtain rfl : k = 29 := by omega
                refine lv_tableIn (off := 2154) (tgt := 2198) hx hb dL_law_44 (by decide +kernel) (by decide +kernel) (by decide +kernel) (by decide) ?_
                exact zl_29 C0 hA hA2 htr dC dI e0 h0 g0 o od a bb cL cT cO cD hE H locs ls hK hP hD hS hl
            · rcases Nat.lt_or_ge k 31 with h31 | h31
              · obtain rfl : k = 30 := by omega
                refine lv_tableIn (off := 2222) (tgt := 2266) hx hb dL_law_44 (by decide +kernel) (by decide +kernel) (by decide +kernel) (by decide) ?_
                exact zl_30 C0 hA hA2 htr dC dI e0 h0 g0 o od a bb cL cT cO cD hE H locs ls hK hP hD hS hl
              · obtain rfl : k = 31 := by omega
                refine lv_tableIn (off := 2278) (tgt := 2322) hx hb dL_law_44 (by decide +kernel) (by decide +kernel) (by decide +kernel) (by decide) ?_
                exact zl_31 C0 hA hA2 htr dC dI e0 h0 g0 o od a bb cL cT cO cD hE H locs ls hK hP hD hS hl
    · rcases Nat.lt_or_ge k 48 with h48 | h48
      · rcases Nat.lt_or_ge k 40 with h40 | h40
        · rcases Nat.lt_or_ge k 36 with h36 | h36
          · rcases Nat.lt_or_ge k 34 with h34 | h34
            · rcases Nat.lt_or_ge k 33 with h33 | h33
              · obtain rfl : k = 32 := by omega
                refine lv_tableIn (off := 2348) (tgt := 2392) hx hb dL_law_44 (by decide +kernel) (by decide +kernel) (by decide +kernel) (by decide) ?_
                exact zl_32 C0 hA hA2 htr dC dI e0 h0 g0 o od a bb cL cT cO cD hE H locs ls hK hP hD hS hl
              · obtain rfl : k = 33 := by omega
                refine lv_tableIn (off := 2404) (tgt := 2448) hx hb dL_law_44 (by decide +kernel) (by decide +kernel) (by decide +kernel) (by decide) ?_
                exact zl_33 C0 hA hA2 htr dC dI e0 h0 g0 o od a bb cL cT cO cD hE H locs ls hK hP hD hS hl
            · rcases Nat.lt_or_ge k 35 with h35 | h35
              · obtain rfl : k = 34 := by omega
                refine lv_tableIn (off := 2467) (tgt := 2511) hx hb dL_law_44 (by decide +kernel) (by decide +kernel) (by decide +kernel) (by decide) ?_
                exact zl_34 C0 hA hA2 htr dC dI e0 h0 g0 o od a bb cL cT cO cD hE H locs ls hK hP hD hS hl
              · obtain rfl : k = 35 := by omega
                refine lv_tableIn (off := 2537) (tgt := 2581) hx hb dL_law_44 (by decide +kernel) (by decide +kernel) (by decide +kernel) (by decide) ?_
                exact zl_35 C0 hA hA2 htr dC dI e0 h0 g0 o od a bb cL cT cO cD hE H locs ls hK hP hD hS hl
          · rcases Nat.lt_or_ge k 38 with h38 | h38
            · rcases Nat.lt_or_ge k 37 with h37 | h37
              · obtain rfl : k = 36 := by omega
                refine lv_tableIn (off := 2593) (tgt := 2637) hx hb dL_law_44 (by decide +kernel) (by decide +kernel) (by decide +kernel) (by decide) ?_
                exact zl_36 C0 hA hA2 htr dC dI e0 h0 g0 o od a bb cL cT cO cD hE H locs ls hK hP hD hS hl
              · obtain rfl : k = 37 := by omega
                refine lv_tableIn (off := 2649) (tgt := 2693) hx hb dL_law_44 (by decide +kernel) (by decide +kernel) (by decide +kernel) (by decide) ?_
                exact zl_37 C0 hA hA2 htr dC dI e0 h0 g0 o od a bb cL cT cO cD hE H locs ls hK hP hD hS hl
            · rcases Nat.lt_or_ge k 39 with h39 | h39
              · obtain rfl : k = 38 := by omega
                refine lv_tableIn (off := 2705) (tgt := 2749) hx hb dL_law_44 (by decide +kernel) (by decide +kernel) (by decide +kernel) (by decide) ?_
                exact zl_38 C0 hA hA2 htr dC dI e0 h0 g0 o od a bb cL cT cO cD hE H locs ls hK hP hD hS hl
              · obtain rfl : k = 39 := by omega
                refine lv_tableIn (off := 2761) (tgt := 2805) hx hb dL_law_44 (by decide +kernel) (by decide +kernel) (by decide +kernel) (by decide) ?_
                exact zl_39 C0 hA hA2 htr dC dI e0 h0 g0 o od a bb cL cT cO cD hE H locs ls hK hP hD hS hl
        · rcases Nat.lt_or_ge k 44 with h44 | h44
          · rcases Nat.lt_or_ge k 42 with h42 | h42
            · rcases Nat.lt_or_ge k 41 with h41 | h41
              · obtain rfl : k = 40 := by omega
                refine lv_tableIn (off := 2816) (tgt := 2860) hx hb dL_law_44 (by decide +kernel) (by decide +kernel) (by decide +kernel) (by decide) ?_
                exact zl_40 C0 hA hA2 htr dC dI e0 h0 g0 o od a bb cL cT cO cD hE H locs ls hK hP hD hS hl
              · obtain rfl : k = 41 := by omega
                refine lv_tableIn (off := 2860) (tgt := 2904) hx hb dL_law_44 (by decide +kernel) (by decide +kernel) (by decide +kernel) (by decide) ?_
                exact zl_41 C0 hA hA2 htr dC dI e0 h0 g0 o od a bb cL cT cO cD hE H locs ls hK hP hD hS hl
            · rcases Nat.lt_or_ge k 43 with h43 | h43
              · obtain rfl : k = 42 := by omega
                refine lv_tableIn (off := 2928) (tgt := 2972) hx hb dL_law_44 (by decide +kernel) (by decide +kernel) (by decide +kernel) (by decide) ?_
                exact zl_42 C0 hA hA2 htr dC dI e0 h0 g0 o od a bb cL cT cO cD hE H locs ls hK hP hD hS hl
              · obtain rfl : k = 43 := by omega
                refine lv_tableIn (off := 3003) (tgt := 3047) hx hb dL_law_44 (by decide +kernel) (by decide +kernel) (by decide +kernel) (by decide) ?_
                exact zl_43 C0 hA hA2 htr dC dI e0 h0 g0 o od a bb cL cT cO cD hE H locs ls hK hP hD hS hl
          · rcases Nat.lt_or_ge k 46 with h46 | h46
            · rcases Nat.lt_or_ge k 45 with h45 | h45
              · obtain rfl : k = 44 := by omega
                refine lv_tableIn (off := 3071) (tgt := 3115) hx hb dL_law_44 (by decide +kernel) (by decide +kernel) (by decide +kernel) (by decide) ?_
                exact zl_44 C0 hA hA2 htr dC dI e0 h0 g0 o od a bb cL cT cO cD hE H locs ls hK hP hD hS hl
              · obtain rfl : k = 45 := by omega
                refine lv_tableIn (off := 3137) (tgt := 3181) hx hb dL_law_44 (by decide +kernel) (by decide +kernel) (by decide +kernel) (by decide) ?_
                exact zl_45 C0 hA hA2 htr dC dI e0 h0 g0 o od a bb cL cT cO cD hE H locs ls hK hP hD hS hl
            · rcases Nat.lt_or_ge k 47 with h47 | h47
              · obtain rfl : k = 46 := by omega
                refine lv_tableIn (off := 3202) (tgt := 3246) hx hb dL_law_44 (by decide +kernel) (by decide +kernel) (by decide +kernel) (by decide) ?_
                exact zl_46 C0 hA hA2 htr dC dI e0 h0 g0 o od a bb cL cT cO cD hE H locs ls hK hP hD hS hl
              · obtain rfl : k = 47 := by omega
                refine lv_tableOut (tgt := 3259) hx hb dL_law_44 (by decide +kernel) (by decide) ?_
                exact zl_end C0 hA2 (Nat.le_of_ble_eq_true rfl) (Nat.le_of_ble_eq_true rfl) hS (lv_sub hl [5, 0] rfl)
      · rcases Nat.lt_or_ge k 56 with h56 | h56
        · rcases Nat.lt_or_ge k 52 with h52 | h52
          · rcases Nat.lt_or_ge k 50 with h50 | h50
            · rcases Nat.lt_or_ge k 49 with h49 | h49
              · obtain rfl : k = 48 := by omega
                refine lv_tableOut (tgt := 3259) hx hb dL_law_44 (by decide +kernel) (by decide) ?_
                exact zl_end C0 hA2 (Nat.le_of_ble_eq_true rfl) (Nat.le_of_ble_eq_true rfl) hS (lv_sub hl [5, 0] rfl)
              · obtain rfl : k = 49 := by omega
                refine lv_tableOut (tgt := 3259) hx hb dL_law_44 (by decide +kernel) (by decide) ?_
                exact zl_end C0 hA2 (Nat.le_of_ble_eq_true rfl) (Nat.le_of_ble_eq_true rfl) hS (lv_sub hl [5, 0] rfl)
            · rcases Nat.lt_or_ge k 51 with h51 | h51
              · obtain rfl : k = 50 := by omega
                refine lv_tableOut (tgt := 3259) hx hb dL_law_44 (by decide +kernel) (by decide) ?_
                exact zl_end C0 hA2 (Nat.le_of_ble_eq_true rfl) (Nat.le_of_ble_eq_true rfl) hS (lv_sub hl [5, 0] rfl)
              · obtain rfl : k = 51 := by omega
                refine lv_tableOut (tgt := 3259) hx hb dL_law_44 (by decide +kernel) (by decide) ?_
                exact zl_end C0 hA2 (Nat.le_of_ble_eq_true rfl) (Nat.le_of_ble_eq_true rfl) hS (lv_sub hl [5, 0] rfl)
          · rcases Nat.lt_or_ge k 54 with h54 | h54
            · rcases Nat.lt_or_ge k 53 with h53 | h53
              · obtain rfl : k = 52 := by omega
                refine lv_tableOut (tgt := 3259) hx hb dL_law_44 (by decide +kernel) (by decide) ?_
                exact zl_end C0 hA2 (Nat.le_of_ble_eq_true rfl) (Nat.le_of_ble_eq_true rfl) hS (lv_sub hl [5, 0] rfl)
              · obtain rfl : k = 53 := by omega
                refine lv_tableOut (tgt := 3259) hx hb dL_law_44 (by decide +kernel) (by decide) ?_
                exact zl_end C0 hA2 (Nat.le_of_ble_eq_true rfl) (Nat.le_of_ble_eq_true rfl) hS (lv_sub hl [5, 0] rfl)
            · rcases Nat.lt_or_ge k 55 with h55 | h55
              · obtain rfl : k = 54 := by omega
                refine lv_tableOut (tgt := 3259) hx hb dL_law_44 (by decide +kernel) (by decide) ?_
                exact zl_end C0 hA2 (Nat.le_of_ble_eq_true rfl) (Nat.le_of_ble_eq_true rfl) hS (lv_sub hl [5, 0] rfl)
              · obtain rfl : k = 55 := by omega
                refine lv_tableOut (tgt := 3259) hx hb dL_law_44 (by decide +kernel) (by decide) ?_
                exact zl_end C0 hA2 (Nat.le_of_ble_eq_true rfl) (Nat.le_of_ble_eq_true rfl) hS (lv_sub hl [5, 0] rfl)
        · rcases Nat.lt_or_ge k 60 with h60 | h60
          · rcases Nat.lt_or_ge k 58 with h58 | h58
            · rcases Nat.lt_or_ge k 57 with h57 | h57
              · obtain rfl : k = 56 := by omega
                refine lv_tableOut (tgt := 3259) hx hb dL_law_44 (by decide +kernel) (by decide) ?_
                exact zl_end C0 hA2 (Nat.le_of_ble_eq_true rfl) (Nat.le_of_ble_eq_true rfl) hS (lv_sub hl [5, 0] rfl)
              · obtain rfl : k = 57 := by omega
                refine lv_tableOut (tgt := 3259) hx hb dL_law_44 (by decide +kernel) (by decide) ?_
                exact zl_end C0 hA2 (Nat.le_of_ble_eq_true rfl) (Nat.le_of_ble_eq_true rfl) hS (lv_sub hl [5, 0] rfl)
            · rcases Nat.lt_or_ge k 59 with h59 | h59
              · obtain rfl : k = 58 := by omega
                refine lv_tableOut (tgt := 3259) hx hb dL_law_44 (by decide +kernel) (by decide) ?_
                exact zl_end C0 hA2 (Nat.le_of_ble_eq_true rfl) (Nat.le_of_ble_eq_true rfl) hS (lv_sub hl [5, 0] rfl)
              · obtain rfl : k = 59 := by omega
                refine lv_tableOut (tgt := 3259) hx hb dL_law_44 (by decide +kernel) (by decide) ?_
                exact zl_end C0 hA2 (Nat.le_of_ble_eq_true rfl) (Nat.le_of_ble_eq_true rfl) hS (lv_sub hl [5, 0] rfl)
          · rcases Nat.lt_or_ge k 62 with h62 | h62
            · rcases Nat.lt_or_ge k 61 with h61 | h61
              · obtain rfl : k = 60 := by omega
                refine lv_tableOut (tgt := 3259) hx hb dL_law_44 (by decide +kernel) (by decide) ?_
                exact zl_end C0 hA2 (Nat.le_of_ble_eq_true rfl) (Nat.le_of_ble_eq_true rfl) hS (lv_sub hl [5, 0] rfl)
              · obtain rfl : k = 61 := by omega
                refine lv_tableOut (tgt := 3259) hx hb dL_law_44 (by decide +kernel) (by decide) ?_
                exact zl_end C0 hA2 (Nat.le_of_ble_eq_true rfl) (Nat.le_of_ble_eq_true rfl) hS (lv_sub hl [5, 0] rfl)
            · rcases Nat.lt_or_ge k 63 with h63 | h63
              · obtain rfl : k = 62 := by omega
                refine lv_tableOut (tgt := 3259) hx hb dL_law_44 (by decide +kernel) (by decide) ?_
                exact zl_end C0 hA2 (Nat.le_of_ble_eq_true rfl) (Nat.le_of_ble_eq_true rfl) hS (lv_sub hl [5, 0] rfl)
              · obtain rfl : k = 63 := by omega
                refine lv_tableOut (tgt := 3259) hx hb dL_law_44 (by decide +kernel) (by decide) ?_
                exact zl_end C0 hA2 (Nat.le_of_ble_eq_true rfl) (Nat.le_of_ble_eq_true rfl) hS (lv_sub hl [5, 0] rfl)
  · have hy : (0 : Int32) > y := by
      rcases (show L = 0 ∨ L = 1 ∨ L = 2 ∨ L = 3 ∨ L = 4 by omega) with rfl | rfl | rfl | rfl | rfl <;> (rw [ey]; decide)
    refine lv_icmp_gt (tgt := 3265) hx hb dL_law_34 (by decide) (fun _ => ?_) (fun c9 => absurd hy c9)
    exact zl_one C0 hA2 (Nat.le_of_ble_eq_true rfl) (Nat.le_of_ble_eq_true rfl) hS
