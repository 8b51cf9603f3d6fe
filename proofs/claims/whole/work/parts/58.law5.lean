set_option maxHeartbeats 1000000 in
theorem lw_exit {p : Program} {l : Launch} {e : Env} {s : State} {m : MethodId} {below : List Frame} {meth : Method} {c : Code} {D : va_G} {cy : Nat → ClassId} {S : Nat × Nat × Nat} {A : Nat → Prop} {b N9 : Nat} {xs : Nat → Int32} {Q : State → Prop} {i0 cells slots : Nat} (C0 : lCx p l s m meth c D cy S A b N9 xs) (hQ : ∀ (H : Heap) (ls : Array Slot), W p l e room_1 s m #[Value.ref b] below meth c H [] 601024 7293034 Q (F0 m 1584 ls [.int 1])) (h : N9 < i0 + 5) (hi : i0 ≤ 2600) (hc : cells ≤ 601024) (hs : slots ≤ 7293034) : lGo p l e s m below meth c D cy A b Q 23 i0 cells slots := by
  intro o a b2 fa ta ra sv ou sc V C L F Ar d C2 L2 F2 A2 d2 Fl bs ln pl sa asd th lf lt ca gr ch p2 rd gs rl of ls H locs hh
  obtain ⟨hx, hb, hr, hml, hown, hts, hXs, hbl, hN, hX, hNc, hK, hL9, hst, hlocks, hAi⟩ := id C0
  have hbA : ¬ A b := fun h => Nat.not_le.mpr hbl ((hAi b).mp h)
  obtain ⟨hG, hP, hD, hS, hl⟩ := hh
  refine lv_iload hx hb dL_law_23 (lv_at hl 4 rfl) ?_
  refine lv_aload_n hx hb dL_law_25 rfl (lv_at hl 0 rfl) ?_
  refine va_slen hx hb hXs hbl hbA hS dL_law_26 ?_
  refine lv_iconst (v := nI 5) hx hb dL_law_27 (by decide) ?_
  refine lv_isub hx hb dL_law_28 ?_
  refine lv_icmp_gt (tgt := 1583) hx hb dL_law_29 (by decide) (fun _ => ?_) (fun h9 => absurd ((kLt5 hL9 (by omega)).mpr h) h9)
  refine lv_iconst (v := 1) hx hb dL_law_1583 (by decide) ?_
  refine va_forget (fun q hq => (hAi _).mp (hS.2.2 q hq)) ?_
  refine W.widen (k := 601024) (n := 7293034) hc hs ?_
  exact hQ H ls
set_option maxHeartbeats 1000000 in
theorem lw_iinc {p : Program} {l : Launch} {e : Env} {s : State} {m : MethodId} {below : List Frame} {meth : Method} {c : Code} {D : va_G} {cy : Nat → ClassId} {S : Nat × Nat × Nat} {A : Nat → Prop} {b N9 : Nat} {xs : Nat → Int32} {Q : State → Prop} {i0 cells slots : Nat} (C0 : lCx p l s m meth c D cy S A b N9 xs) (hk9 : lGo p l e s m below meth c D cy A b Q 23 (i0 + 5) cells slots) : lGo p l e s m below meth c D cy A b Q 1577 i0 cells slots := by
  intro o a b2 fa ta ra sv ou sc V C L F Ar d C2 L2 F2 A2 d2 Fl bs ln pl sa asd th lf lt ca gr ch p2 rd gs rl of ls H locs hh
  obtain ⟨hx, hb, hr, hml, hown, hts, hXs, hbl, hN, hX, hNc, hK, hL9, hst, hlocks, hAi⟩ := id C0
  have hbA : ¬ A b := fun h => Nat.not_le.mpr hbl ((hAi b).mp h)
  obtain ⟨hG, hP, hD, hS, hl⟩ := hh
  refine lv_iinc (v := nI (i0 + 5)) (lv' := [(4, .int (nI (i0 + 5))), (0, .ref b), (1, .ref (o 0)), (2, .ref (ra 0)), (3, .ref ou)]) hx hb dL_law_1577 hl (k := 4) rfl (nI_add i0 5) (by decide) rfl (fun ls hl => ?_)
  refine lv_goto (tgt := 23) hx hb dL_law_1580 (by decide) ?_
  exact hk9 o a b2 fa ta ra sv ou sc V C L F Ar d C2 L2 F2 A2 d2 Fl bs ln pl sa asd th lf lt ca gr ch p2 rd gs rl of ls H locs ⟨hG, hP, hD, hS, lv_sub hl [1, 2, 3, 4, 0] rfl⟩
set_option maxHeartbeats 4000000 in
theorem lw_step {p : Program} {l : Launch} {e : Env} {s : State} {m : MethodId} {below : List Frame} {meth : Method} {c : Code} {D : va_G} {cy : Nat → ClassId} {S : Nat × Nat × Nat} {A : Nat → Prop} {b N9 : Nat} {xs : Nat → Int32} {Q : State → Prop} {i0 cells slots : Nat} (C0 : lCx p l s m meth c D cy S A b N9 xs) (hi0 : i0 + 5 ≤ N9) (hc9 : cells + 1 ≤ 601024) (hs9 : slots + 6 ≤ 7293034) (hk9 : lGo p l e s m below meth c D cy A b Q 1577 i0 (cells + 1) (slots + 6)) : lGo p l e s m below meth c D cy A b Q 23 i0 cells slots := by
  intro o a b2 fa ta ra sv ou sc V C L F Ar d C2 L2 F2 A2 d2 Fl bs ln pl sa asd th lf lt ca gr ch p2 rd gs rl of ls H locs hh
  obtain ⟨hx, hb, hr, hml, hown, hts, hXs, hbl, hN, hX, hNc, hK, hL9, hst, hlocks, hAi⟩ := id C0
  have hbA : ¬ A b := fun h => Nat.not_le.mpr hbl ((hAi b).mp h)
  obtain ⟨hG, hP, hD, hS, hl⟩ := hh
  refine lv_iload hx hb dL_law_23 (lv_at hl 4 rfl) ?_
  refine lv_aload_n hx hb dL_law_25 rfl (lv_at hl 0 rfl) ?_
  refine va_slen hx hb hXs hbl hbA hS dL_law_26 ?_
  refine lv_iconst (v := nI 5) hx hb dL_law_27 (by decide) ?_
  refine lv_isub hx hb dL_law_28 ?_
  refine lv_icmp_gt (tgt := 1583) hx hb dL_law_29 (by decide) (fun h9 => absurd ((kLt5 hL9 (by omega)).mp h9) (by omega)) (fun _ => ?_)
  refine lv_aload_n hx hb dL_law_32 rfl (lv_at hl 0 rfl) ?_
  refine lv_iload hx hb dL_law_33 (lv_at hl 4 rfl) ?_
  refine va_sld hx hb hXs hbl hbA hS (vp_in_nI (n := i0) (N := N9) (by omega) (by omega)) dL_law_35 ?_
  refine lv_bipush (v := nI 31) hx hb dL_law_36 (by decide) ?_
  refine lv_iand hx hb dL_law_38 ?_
  obtain ⟨n, hn, hv⟩ := k31 (xs (nI i0).toNatClampNeg)
  refine kv_i (y := nI n) hv ?_
  have hh : lHd D cy A s b o a b2 fa ta ra sv ou sc V C L F Ar d C2 L2 F2 A2 d2 Fl bs ln pl sa asd th lf lt ca gr ch p2 rd gs rl of i0 ls H locs := ⟨hG, hP, hD, hS, hl⟩
  clear hv hG hP hD hS hl
  rcases k32 hn with rfl | rfl | rfl | rfl | rfl | rfl | rfl | rfl | rfl | rfl | rfl | rfl | rfl | rfl | rfl | rfl | rfl | rfl | rfl | rfl | rfl | rfl | rfl | rfl | rfl | rfl | h26
  · refine lv_tableIn (off := 117) (tgt := 156) hx hb dL_law_39 (by decide) (by decide) (by decide) (by decide) ?_
    exact lc_addGuest C0 hi0 hc9 hs9 hk9 hh
  · refine lv_tableIn (off := 241) (tgt := 280) hx hb dL_law_39 (by decide) (by decide) (by decide) (by decide) ?_
    exact lc_giveTokens C0 hi0 hc9 hs9 hk9 hh
  · refine lv_tableIn (off := 337) (tgt := 376) hx hb dL_law_39 (by decide) (by decide) (by decide) (by decide) ?_
    exact lc_setHere C0 hi0 hc9 hs9 hk9 hh
  · refine lv_tableIn (off := 449) (tgt := 488) hx hb dL_law_39 (by decide) (by decide) (by decide) (by decide) ?_
    exact lc_setShoes C0 hi0 hc9 hs9 hk9 hh
  · refine lv_tableIn (off := 517) (tgt := 556) hx hb dL_law_39 (by decide) (by decide) (by decide) (by decide) ?_
    exact lc_setLamps C0 hi0 hc9 hs9 hk9 hh
  · refine lv_tableIn (off := 585) (tgt := 624) hx hb dL_law_39 (by decide) (by decide) (by decide) (by decide) ?_
    exact lc_setFiddlers C0 hi0 hc9 hs9 hk9 hh
  · refine lv_tableIn (off := 641) (tgt := 680) hx hb dL_law_39 (by decide) (by decide) (by decide) (by decide) ?_
    exact lc_setPart C0 hi0 hc9 hs9 hk9 hh
  · refine lv_tableIn (off := 709) (tgt := 748) hx hb dL_law_39 (by decide) (by decide) (by decide) (by decide) ?_
    exact lc_dance C0 hi0 hc9 hs9 hk9 hh
  · refine lv_tableIn (off := 753) (tgt := 792) hx hb dL_law_39 (by decide) (by decide) (by decide) (by decide) ?_
    exact lc_danceOn C0 hi0 hc9 hs9 hk9 hh
  · refine lv_tableIn (off := 766) (tgt := 805) hx hb dL_law_39 (by decide) (by decide) (by decide) (by decide) ?_
    exact lc_endNight C0 hi0 hc9 hs9 hk9 hh
  · refine lv_tableIn (off := 779) (tgt := 818) hx hb dL_law_39 (by decide) (by decide) (by decide) (by decide) ?_
    exact lc_guest C0 hi0 hc9 hs9 hk9 hh
  · refine lv_tableIn (off := 875) (tgt := 914) hx hb dL_law_39 (by decide) (by decide) (by decide) (by decide) ?_
    exact lc_value C0 hi0 hc9 hs9 hk9 hh
  · refine lv_tableIn (off := 931) (tgt := 970) hx hb dL_law_39 (by decide) (by decide) (by decide) (by decide) ?_
    exact lc_shoes C0 hi0 hc9 hs9 hk9 hh
  · refine lv_tableIn (off := 1015) (tgt := 1054) hx hb dL_law_39 (by decide) (by decide) (by decide) (by decide) ?_
    exact lc_fiddler C0 hi0 hc9 hs9 hk9 hh
  · refine lv_tableIn (off := 1083) (tgt := 1122) hx hb dL_law_39 (by decide) (by decide) (by decide) (by decide) ?_
    exact lc_danced C0 hi0 hc9 hs9 hk9 hh
  · refine lv_tableIn (off := 1151) (tgt := 1190) hx hb dL_law_39 (by decide) (by decide) (by decide) (by decide) ?_
    exact lc_partner C0 hi0 hc9 hs9 hk9 hh
  · refine lv_tableIn (off := 1219) (tgt := 1258) hx hb dL_law_39 (by decide) (by decide) (by decide) (by decide) ?_
    exact lc_next C0 hi0 hc9 hs9 hk9 hh
  · refine lv_tableIn (off := 1275) (tgt := 1314) hx hb dL_law_39 (by decide) (by decide) (by decide) (by decide) ?_
    exact lc_couplesWith C0 hi0 hc9 hs9 hk9 hh
  · refine lv_tableIn (off := 1331) (tgt := 1370) hx hb dL_law_39 (by decide) (by decide) (by decide) (by decide) ?_
    exact lc_dancesLeft C0 hi0 hc9 hs9 hk9 hh
  · refine lv_tableIn (off := 1344) (tgt := 1383) hx hb dL_law_39 (by decide) (by decide) (by decide) (by decide) ?_
    exact lc_bestSize C0 hi0 hc9 hs9 hk9 hh
  · refine lv_tableIn (off := 1357) (tgt := 1396) hx hb dL_law_39 (by decide) (by decide) (by decide) (by decide) ?_
    exact lc_share C0 hi0 hc9 hs9 hk9 hh
  · refine lv_tableIn (off := 1398) (tgt := 1437) hx hb dL_law_39 (by decide) (by decide) (by decide) (by decide) ?_
    exact lc_append C0 hi0 hc9 hs9 hk9 hh
  · refine lv_tableIn (off := 1454) (tgt := 1493) hx hb dL_law_39 (by decide) (by decide) (by decide) (by decide) ?_
    exact lc_clearText C0 hi0 hc9 hs9 hk9 hh
  · refine lv_tableIn (off := 1467) (tgt := 1506) hx hb dL_law_39 (by decide) (by decide) (by decide) (by decide) ?_
    exact lc_parse C0 hi0 hc9 hs9 hk9 hh
  · refine lv_tableIn (off := 1480) (tgt := 1519) hx hb dL_law_39 (by decide) (by decide) (by decide) (by decide) ?_
    exact lc_undo C0 hi0 hc9 hs9 hk9 hh
  · refine lv_tableIn (off := 1524) (tgt := 1563) hx hb dL_law_39 (by decide) (by decide) (by decide) (by decide) ?_
    exact lc_digest C0 hi0 hc9 hs9 hk9 hh
  · refine lv_tableOut (tgt := 1577) hx hb dL_law_39 (Or.inr (by rw [nI_toInt (by omega)]; omega)) (by decide) ?_
    refine W.widen (k := cells + 1) (n := slots + 6) (by omega) (by omega) ?_
    exact hk9 o a b2 fa ta ra sv ou sc V C L F Ar d C2 L2 F2 A2 d2 Fl bs ln pl sa asd th lf lt ca gr ch p2 rd gs rl of ls H locs hh
/-- the loop, from any of its heads -/
theorem lw_all {p : Program} {l : Launch} {e : Env} {s : State} {m : MethodId} {below : List Frame} {meth : Method} {c : Code} {D : va_G} {cy : Nat → ClassId} {S : Nat × Nat × Nat} {A : Nat → Prop} {b N9 : Nat} {xs : Nat → Int32} {Q : State → Prop} (C0 : lCx p l s m meth c D cy S A b N9 xs) (hQ : ∀ (H : Heap) (ls : Array Slot), W p l e room_1 s m #[Value.ref b] below meth c H [] 601024 7293034 Q (F0 m 1584 ls [.int 1])) : ∀ (n i0 cells slots : Nat), N9 < i0 + 5 * n → i0 ≤ 2560 → cells + n ≤ 601024 → slots + 6 * n ≤ 7293034 → lGo p l e s m below meth c D cy A b Q 23 i0 cells slots := by
  intro n
  induction n with
  | zero =>
    intro i0 cells slots h1 h2 h3 h4
    exact lw_exit C0 hQ (by omega) (by omega) (by omega) (by omega)
  | succ n ih =>
    intro i0 cells slots h1 h2 h3 h4
    rcases Nat.lt_or_ge N9 (i0 + 5) with h | h
    · exact lw_exit C0 hQ h (by omega) (by omega) (by omega)
    · have hL9 : N9 ≤ 2560 := C0.2.2.2.2.2.2.2.2.2.2.2.2.1
      exact lw_step C0 h (by omega) (by omega) (lw_iinc C0 (ih (i0 + 5) (cells + 1) (slots + 6) (by omega) (by omega) (by omega) (by omega)))
