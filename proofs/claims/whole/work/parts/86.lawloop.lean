/-! OWN ROWS: the law's loop -/
set_option maxHeartbeats 4000000 in
set_option maxRecDepth 100000 in
theorem law_loop {p : Program} {l : Launch} {e : Env} {s : State} {m : MethodId} {below : List Frame} {meth : Method} {c : Code} {D : va_G} {A : Nat → Prop} {cI cZ cJ : ClassId} {b L : Nat} {xs : Nat → Int32} {h0 a0 a1 a2 a3 a4 a5 g0 b0 b1 b2 b3 b4 b5 oj : Nat} (hl0 : l.stackTraces = false) (hx : p.tables.exec = Jvm.exec) (hb : c.code = code) (hml : c.maxLocals = 7) (hown : s.vm.findClass RL = some m.cls) (hts : ∀ w ∈ wsL_law, w.before #[Value.ref b] s = true) (hX : va_X b L xs s s.heap) (hbl : b < s.heap.size) (hbA : ¬ A b) (hA : ∀ q : Nat, s.heap.size ≤ q → A q) (hK : va_K D vwCl (tyL cI cZ cJ) s) (hT : xT A s s.heap) (hL : L ≤ 2048) (hr : meth.sig.returnType = ret) (hlocks : meth.locks = false) (hAf : ∀ q : Nat, A q → s.heap.size ≤ q) : ∀ (n9 j9 : Nat), L + 4 ≤ 4 * j9 + 4 * n9 → 4 * j9 ≤ L → lgW p l e s m below meth c (lw_Z below #[Value.ref b] s) D A cI cZ cJ b h0 a0 a1 a2 a3 a4 a5 g0 b0 b1 b2 b3 b4 b5 oj j9 := by
  intro n9
  induction n9 with
  | zero =>
    intro j9 h1 h2
    exact absurd h1 (by omega)
  | succ n9 ih =>
    intro j9 h1 h2 bf pw hs lo lg rt nb fi fo en on off cu ma th og H locs ls hpo hi1 hi2 hi3 hcu hP hD hS hl
    have exitw : ∀ (rest : List Value), W p l e room_1 s m #[Value.ref b] below meth c H locs (15 + j9) (199844 + 6 * j9) (lw_Z below #[Value.ref b] s) (F0 m 1182 ls []) := by
      intro _
      refine lv_iconst (v := 1) hx hb dL_law_1182 (by decide) ?_
      refine va_forget (fun q hq => hAf _ (hS.2.2 q hq)) ?_
      refine W.widen (k := 601024) (n := 7293034) (by omega) (by omega) ?_
      exact lw_ret hx hb hr hlocks dL_law_1183
    refine lv_iload hx hb dL_law_23 (lv_at hl 4 rfl) ?_
    refine lv_aload_n hx hb dL_law_25 rfl (lv_at hl 0 rfl) ?_
    refine va_slen hx hb hX hbl hbA hS dL_law_26 ?_
    refine lv_iconst (v := nI 4) hx hb dL_law_27 (by decide) ?_
    show W p l e room_1 s m #[Value.ref b] below meth c H locs (15 + j9) (199844 + 6 * j9) (lw_Z below #[Value.ref b] s) (F0 m 28 ls (.int (nI 4) :: .int (nI L) :: .int (nI (4 * j9)) :: []))
    by_cases h4 : 4 ≤ L
    · refine n_isub hx hb h4 dL_law_28 ?_
      refine n_gt (tgt := 1182) hx hb (by omega) (by omega) dL_law_29 (by decide) (fun _ => exitw []) (fun c_29 => ?_)
      have hj : 4 * j9 + 4 ≤ L := by omega
      have IH := ih (j9 + 1) (by omega) (by omega)
      obtain ⟨op9, hop, eop⟩ := pk_andE (xs (4 * j9)) (m := nI 31) 5 (by decide)
      refine lv_aload_n hx hb dL_law_32 rfl (lv_at hl 0 rfl) ?_
      refine lv_iload hx hb dL_law_33 (lv_at hl 4 rfl) ?_
      refine n_sld hx hb hX hbl hbA hS (4 * j9) (by omega) (by omega) (xs (4 * j9)) rfl dL_law_35 ?_
      refine lv_bipush (v := nI 31) hx hb dL_law_36 (by decide) ?_
      refine lv_iand hx hb dL_law_38 ?_
      rw [eop]
      by_cases h22 : op9 < 22
      · rcases (show op9 = 0 ∨ op9 = 1 ∨ op9 = 2 ∨ op9 = 3 ∨ op9 = 4 ∨ op9 = 5 ∨ op9 = 6 ∨ op9 = 7 ∨ op9 = 8 ∨ op9 = 9 ∨ op9 = 10 ∨ op9 = 11 ∨ op9 = 12 ∨ op9 = 13 ∨ op9 = 14 ∨ op9 = 15 ∨ op9 = 16 ∨ op9 = 17 ∨ op9 = 18 ∨ op9 = 19 ∨ op9 = 20 ∨ op9 = 21 by omega) with rfl | rfl | rfl | rfl | rfl | rfl | rfl | rfl | rfl | rfl | rfl | rfl | rfl | rfl | rfl | rfl | rfl | rfl | rfl | rfl | rfl | rfl
        · exact lv_tableIn (off := 101) (tgt := 140) hx hb dL_law_39 (by decide) (by decide) (by decide) (by decide) (lo_set hl0 hx hb hml hown hts hX hbl hbA hA hK hT hL j9 hj IH bf pw hs lo lg rt nb fi fo en on off cu ma th og H locs ls hpo hi1 hi2 hi3 hcu hP hD hS hl)
        · exact lv_tableIn (off := 149) (tgt := 188) hx hb dL_law_39 (by decide) (by decide) (by decide) (by decide) (lo_fill hl0 hx hb hml hown hts hX hbl hbA hA hK hT hL j9 hj IH bf pw hs lo lg rt nb fi fo en on off cu ma th og H locs ls hpo hi1 hi2 hi3 hcu hP hD hS hl)
        · exact lv_tableIn (off := 197) (tgt := 236) hx hb dL_law_39 (by decide) (by decide) (by decide) (by decide) (lo_get hl0 hx hb hml hown hts hX hbl hbA hA hK hT hL j9 hj IH bf pw hs lo lg rt nb fi fo en on off cu ma th og H locs ls hpo hi1 hi2 hi3 hcu hP hD hS hl)
        · exact lv_tableIn (off := 253) (tgt := 292) hx hb dL_law_39 (by decide) (by decide) (by decide) (by decide) (lo_sum hl0 hx hb hml hown hts hX hbl hbA hA hK hT hL j9 hj IH bf pw hs lo lg rt nb fi fo en on off cu ma th og H locs ls hpo hi1 hi2 hi3 hcu hP hD hS hl)
        · exact lv_tableIn (off := 266) (tgt := 305) hx hb dL_law_39 (by decide) (by decide) (by decide) (by decide) (lo_write hl0 hx hb hml hown hts hX hbl hbA hA hK hT hL j9 hj IH bf pw hs lo lg rt nb fi fo en on off cu ma th og H locs ls hpo hi1 hi2 hi3 hcu hP hD hS hl)
        · exact lv_tableIn (off := 334) (tgt := 373) hx hb dL_law_39 (by decide) (by decide) (by decide) (by decide) (lo_read hl0 hx hb hml hown hts hX hbl hbA hA hK hT hL j9 hj IH bf pw hs lo lg rt nb fi fo en on off cu ma th og H locs ls hpo hi1 hi2 hi3 hcu hP hD hS hl)
        · exact lv_tableIn (off := 402) (tgt := 441) hx hb dL_law_39 (by decide) (by decide) (by decide) (by decide) (lo_copy hl0 hx hb hml hown hts hX hbl hbA hA hK hT hL j9 hj IH bf pw hs lo lg rt nb fi fo en on off cu ma th og H locs ls hpo hi1 hi2 hi3 hcu hP hD hS hl)
        · exact lv_tableIn (off := 470) (tgt := 509) hx hb dL_law_39 (by decide) (by decide) (by decide) (by decide) (lo_append hl0 hx hb hml hown hts hX hbl hbA hA hK hT hL j9 hj IH bf pw hs lo lg rt nb fi fo en on off cu ma th og H locs ls hpo hi1 hi2 hi3 hcu hP hD hS hl)
        · exact lv_tableIn (off := 526) (tgt := 565) hx hb dL_law_39 (by decide) (by decide) (by decide) (by decide) (lo_force hl0 hx hb hml hown hts hX hbl hbA hA hK hT hL j9 hj IH bf pw hs lo lg rt nb fi fo en on off cu ma th og H locs ls hpo hi1 hi2 hi3 hcu hP hD hS hl)
        · exact lv_tableIn (off := 582) (tgt := 621) hx hb dL_law_39 (by decide) (by decide) (by decide) (by decide) (lo_readLog hl0 hx hb hml hown hts hX hbl hbA hA hK hT hL j9 hj IH bf pw hs lo lg rt nb fi fo en on off cu ma th og H locs ls hpo hi1 hi2 hi3 hcu hP hD hS hl)
        · exact lv_tableIn (off := 630) (tgt := 669) hx hb dL_law_39 (by decide) (by decide) (by decide) (by decide) (lo_giveBack hl0 hx hb hml hown hts hX hbl hbA hA hK hT hL j9 hj IH bf pw hs lo lg rt nb fi fo en on off cu ma th og H locs ls hpo hi1 hi2 hi3 hcu hP hD hS hl)
        · exact lv_tableIn (off := 666) (tgt := 705) hx hb dL_law_39 (by decide) (by decide) (by decide) (by decide) (lo_log hl0 hx hb hml hown hts hX hbl hbA hA hK hT hL j9 hj IH bf pw hs lo lg rt nb fi fo en on off cu ma th og H locs ls hpo hi1 hi2 hi3 hcu hP hD hS hl)
        · exact lv_tableIn (off := 722) (tgt := 761) hx hb dL_law_39 (by decide) (by decide) (by decide) (by decide) (lo_setRoot hl0 hx hb hml hown hts hX hbl hbA hA hK hT hL j9 hj IH bf pw hs lo lg rt nb fi fo en on off cu ma th og H locs ls hpo hi1 hi2 hi3 hcu hP hD hS hl)
        · exact lv_tableIn (off := 797) (tgt := 836) hx hb dL_law_39 (by decide) (by decide) (by decide) (by decide) (lo_root hl0 hx hb hml hown hts hX hbl hbA hA hK hT hL j9 hj IH bf pw hs lo lg rt nb fi fo en on off cu ma th og H locs ls hpo hi1 hi2 hi3 hcu hP hD hS hl)
        · exact lv_tableIn (off := 853) (tgt := 892) hx hb dL_law_39 (by decide) (by decide) (by decide) (by decide) (lo_lose hl0 hx hb hml hown hts hX hbl hbA hA hK hT hL j9 hj IH bf pw hs lo lg rt nb fi fo en on off cu ma th og H locs ls hpo hi1 hi2 hi3 hcu hP hD hS hl)
        · exact lv_tableIn (off := 901) (tgt := 940) hx hb dL_law_39 (by decide) (by decide) (by decide) (by decide) (lo_stamp hl0 hx hb hml hown hts hX hbl hbA hA hK hT hL j9 hj IH bf pw hs lo lg rt nb fi fo en on off cu ma th og H locs ls hpo hi1 hi2 hi3 hcu hP hD hS hl)
        · exact lv_tableIn (off := 981) (tgt := 1020) hx hb dL_law_39 (by decide) (by decide) (by decide) (by decide) (lo_count hl0 hx hb hml hown hts hX hbl hbA hA hK hT hL j9 hj IH bf pw hs lo lg rt nb fi fo en on off cu ma th og H locs ls hpo hi1 hi2 hi3 hcu hP hD hS hl)
        · exact lv_tableIn (off := 1049) (tgt := 1088) hx hb dL_law_39 (by decide) (by decide) (by decide) (by decide) (lo_writes hl0 hx hb hml hown hts hX hbl hbA hA hK hT hL j9 hj IH bf pw hs lo lg rt nb fi fo en on off cu ma th og H locs ls hpo hi1 hi2 hi3 hcu hP hD hS hl)
        · exact lv_tableIn (off := 1062) (tgt := 1101) hx hb dL_law_39 (by decide) (by decide) (by decide) (by decide) (lo_cutAfter hl0 hx hb hml hown hts hX hbl hbA hA hK hT hL j9 hj IH bf pw hs lo lg rt nb fi fo en on off cu ma th og H locs ls hpo hi1 hi2 hi3 hcu hP hD hS hl)
        · exact lv_tableIn (off := 1098) (tgt := 1137) hx hb dL_law_39 (by decide) (by decide) (by decide) (by decide) (lo_cut hl0 hx hb hml hown hts hX hbl hbA hA hK hT hL j9 hj IH bf pw hs lo lg rt nb fi fo en on off cu ma th og H locs ls hpo hi1 hi2 hi3 hcu hP hD hS hl)
        · exact lv_tableIn (off := 1111) (tgt := 1150) hx hb dL_law_39 (by decide) (by decide) (by decide) (by decide) (lo_start hl0 hx hb hml hown hts hX hbl hbA hA hK hT hL j9 hj IH bf pw hs lo lg rt nb fi fo en on off cu ma th og H locs ls hpo hi1 hi2 hi3 hcu hP hD hS hl)
        · exact lv_tableIn (off := 1124) (tgt := 1163) hx hb dL_law_39 (by decide) (by decide) (by decide) (by decide) (lo_isOn hl0 hx hb hml hown hts hX hbl hbA hA hK hT hL j9 hj IH bf pw hs lo lg rt nb fi fo en on off cu ma th og H locs ls hpo hi1 hi2 hi3 hcu hP hD hS hl)
      · refine lv_tableOut (tgt := 1176) hx hb dL_law_39 (Or.inr (by rw [nI_toInt (by omega)]; omega)) (by decide) ?_
        refine W.widen (k := 15 + (j9 + 1)) (n := 199844 + 6 * (j9 + 1)) (by omega) (by omega) ?_
        refine lv_iinc (v := nI (4 * (j9 + 1))) (lv' := [(4, .int (nI (4 * (j9 + 1)))), (0, .ref b), (1, .ref h0), (2, .ref g0), (3, .ref oj)]) hx hb dL_law_1176 hl (k := 4) rfl (nI_add (4 * j9) 4) (by decide) rfl (fun ls hl => ?_)
        refine lv_goto (tgt := 23) hx hb dL_law_1179 (by decide) ?_
        exact IH bf pw hs lo lg rt nb fi fo en on off cu ma th og _ _ _ hpo hi1 hi2 (by omega) hcu hP hD hS (lv_sub hl [1, 2, 3, 4, 0] rfl)
    · refine lv_isub hx hb dL_law_28 ?_
      refine lv_icmp_gt (tgt := 1182) hx hb dL_law_29 (by decide) (fun _ => exitw []) (fun c_29 => absurd ?_ c_29)
      have e9 : 4 * j9 = 0 := by omega
      rw [e9, nI_0]
      exact pk_sneg (by omega) (by omega)
