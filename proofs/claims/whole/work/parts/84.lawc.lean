/-! OWN ROWS, by program: the law, call by call -/
set_option maxHeartbeats 4000000 in
set_option maxRecDepth 100000 in
theorem lo_log {p : Program} {l : Launch} {e : Env} {s : State} {m : MethodId} {below : List Frame} {meth : Method} {c : Code} {Q : State → Prop} {D : va_G} {A : Nat → Prop} {cI cZ cJ : ClassId} {b L : Nat} {xs : Nat → Int32} {h0 a0 a1 a2 a3 a4 a5 g0 b0 b1 b2 b3 b4 b5 oj : Nat} (hl0 : l.stackTraces = false) (hx : p.tables.exec = Jvm.exec) (hb : c.code = code) (hml : c.maxLocals = 7) (hown : s.vm.findClass RL = some m.cls) (hts : ∀ w ∈ wsL_law, w.before #[Value.ref b] s = true) (hX : va_X b L xs s s.heap) (hbl : b < s.heap.size) (hbA : ¬ A b) (hA : ∀ q : Nat, s.heap.size ≤ q → A q) (hK : va_K D vwCl (tyL cI cZ cJ) s) (hT : xT A s s.heap) (hL : L ≤ 2048) (j9 : Nat) (hj : 4 * j9 + 4 ≤ L)
    (IH : lgW p l e s m below meth c Q D A cI cZ cJ b h0 a0 a1 a2 a3 a4 a5 g0 b0 b1 b2 b3 b4 b5 oj (j9 + 1))
    (bf pw hs lo lg rt : Nat → Int32) (nb : Int32) (fi fo en : Nat) (on off cu ma th : Int32) (og : Nat → Int64) (H : Heap) (locs : List Loc) (ls : Array Slot) (hpo : (on = 0 ∧ off = 1) ∨ (on = 1 ∧ off = 0)) (hi1 : fi ≤ fo) (hi2 : fo ≤ en) (hi3 : en ≤ 64 * j9) (hcu : -1 ≤ cu)
    (hP : va_P D vwCl (wA h0 a0 a1 a2 a3 a4 a5 g0 b0 b1 b2 b3 b4 b5 oj cI cZ cJ bf pw hs lo lg rt nb fi fo en on off cu ma th og) H) (hD : va_D A (wA h0 a0 a1 a2 a3 a4 a5 g0 b0 b1 b2 b3 b4 b5 oj cI cZ cJ bf pw hs lo lg rt nb fi fo en on off cu ma th og)) (hS : va_S A s.heap H locs) (hl : lv_has ls 7 [(0, .ref b), (1, .ref h0), (2, .ref g0), (3, .ref oj), (4, .int (nI (4 * j9)))]) :
    W p l e room_1 s m #[Value.ref b] below meth c H locs (15 + j9) (199844 + 6 * j9) Q (F0 m 705 ls []) := by
  have he : en ≤ 60000 := by omega
  have hc0 : 15 + j9 + 0 ≤ room_1.cells ∧ 199844 + 6 * j9 + 0 ≤ room_1.slots := ⟨show 15 + j9 + 0 ≤ 601024 by omega, show 199844 + 6 * j9 + 0 ≤ 7293034 by omega⟩
  have hc1 : 15 + j9 + 1 ≤ room_1.cells ∧ 199844 + 6 * j9 + 6 ≤ room_1.slots := ⟨show 15 + j9 + 1 ≤ 601024 by omega, show 199844 + 6 * j9 + 6 ≤ 7293034 by omega⟩
  have hc9 : 15 + j9 + 1 + 0 ≤ room_1.cells ∧ 199844 + 6 * j9 + 6 + 0 ≤ room_1.slots := hc1
  obtain ⟨x, ex⟩ : ∃ z9, xs (4 * j9 + 1) = z9 := ⟨_, rfl⟩
  rcases ix_cases x 3 (by omega) with h | ⟨k, hk, rfl⟩
  · have hP : va_P D vwCl (wC h0 a0 a1 a2 a3 a4 a5 cI cZ bf pw hs lo lg rt nb (nI fi) (nI fo) (nI en) on cu ma ++ (wM g0 b0 b1 b2 b3 b4 b5 cI cZ th bf pw hs lo lg rt nb (nI fi) (nI fo) (nI en) off cu ma ++ wO oj cJ og)) H := hP
    have hD : va_D A (wC h0 a0 a1 a2 a3 a4 a5 cI cZ bf pw hs lo lg rt nb (nI fi) (nI fo) (nI en) on cu ma ++ (wM g0 b0 b1 b2 b3 b4 b5 cI cZ th bf pw hs lo lg rt nb (nI fi) (nI fo) (nI en) off cu ma ++ wO oj cJ og)) := hD
    refine lv_aload_n hx hb dL_law_705 rfl (lv_at hl 1 rfl) ?_
    refine lv_aload_n hx hb dL_law_706 rfl (lv_at hl 0 rfl) ?_
    refine lv_iload hx hb dL_law_707 (lv_at hl 4 rfl) ?_
    refine lv_iconst (v := (nI 1)) hx hb dL_law_709 (by decide) ?_
    refine n_iadd hx hb dL_law_710 ?_
    refine n_sld hx hb hX hbl hbA hS (4 * j9 + 1) (by omega) (by omega) (x) ex dL_law_711 ?_
    refine lv_aload_n hx hb dL_law_712 rfl (lv_at hl 3 rfl) ?_
    refine k_I (wr := wM g0 b0 b1 b2 b3 b4 b5 cI cZ th bf pw hs lo lg rt nb (nI fi) (nI fo) (nI en) off cu ma) hP hD hS hA (vx_runSW (As := [.ref h0, .int x, .ref oj]) (rest := []) ⟨hx, hb, hml, hown, hts⟩ (tL_log_xb hl0 bf pw hs lo lg rt nb fi fo en on cu ma x h oj og _) (vx_cwSW 3 hts gL_law_L_log rfl rfl rfl (by decide +kernel) ⟨Nat.le_of_ble_eq_true rfl, Nat.le_of_ble_eq_true rfl⟩) (pS_X hP hD hK hS hA hT [0, 1, 2] rfl [0, 1, 2, 3, 4, 5, 6, 14] rfl rfl) rfl rfl hl.1 rfl (lv_room (Nat.le_of_ble_eq_true rfl)) dL_law_713 hc1) [0, 1, 2, 3, 4, 5, 6, 14] [7, 8, 9, 10, 11, 12, 13] rfl rfl rfl (by decide) (fun H locs hP hD hS => ?_)
    have hP : va_P D vwCl (wC h0 a0 a1 a2 a3 a4 a5 cI cZ bf pw hs lo lg rt nb (nI fi) (nI fo) (nI en) on cu ma ++ (wM g0 b0 b1 b2 b3 b4 b5 cI cZ th bf pw hs lo lg rt nb (nI fi) (nI fo) (nI en) off cu ma ++ wO oj cJ og)) H := hP.sub [7, 8, 9, 10, 11, 12, 13, 0, 1, 2, 3, 4, 5, 6, 14] rfl
    have hD : va_D A (wC h0 a0 a1 a2 a3 a4 a5 cI cZ bf pw hs lo lg rt nb (nI fi) (nI fo) (nI en) on cu ma ++ (wM g0 b0 b1 b2 b3 b4 b5 cI cZ th bf pw hs lo lg rt nb (nI fi) (nI fo) (nI en) off cu ma ++ wO oj cJ og)) := hD.sub [7, 8, 9, 10, 11, 12, 13, 0, 1, 2, 3, 4, 5, 6, 14] (by decide) rfl
    refine lv_istore (lv' := [(5, .int 1), (0, .ref b), (1, .ref h0), (2, .ref g0), (3, .ref oj), (4, .int (nI (4 * j9)))]) hx hb dL_law_716 hl (by decide) rfl (fun ls hl => ?_)
    refine lv_aload_n hx hb dL_law_718 rfl (lv_at hl 3 rfl) ?_
    refine lv_aload_n hx hb dL_law_719 rfl (lv_at hl 1 rfl) ?_
    refine lv_iload hx hb dL_law_720 (lv_at hl 5 rfl) ?_
    refine lv_iconst (v := (nI 1)) hx hb dL_law_722 (by decide) ?_
    refine n_iadd hx hb dL_law_723 ?_
    refine n_sld hx hb hX hbl hbA hS (4 * j9 + 1) (by omega) (by omega) (x) ex dL_law_724 ?_
    refine k_I (wr := wC h0 a0 a1 a2 a3 a4 a5 cI cZ bf pw hs lo lg rt nb (nI fi) (nI fo) (nI en) on cu ma ++ wO oj cJ og) hP hD hS hA (va_runV (As := [.int x]) (rest := []) ⟨hx, hb, hml, hown, hts⟩ (tX1_log_xb th bf pw hs lo lg rt nb fi fo en off cu ma x h _) (cwV 1 hts gL_law_X1_log rfl rfl rfl (by decide +kernel) ⟨Nat.le_of_ble_eq_true rfl, Nat.le_of_ble_eq_true rfl⟩) (pV_B hP hD hK (ci := 1) (q0 := 7) rfl rfl rfl [0, 1] rfl [7, 8, 9, 10, 11, 12, 13] rfl rfl) rfl rfl hl.1 rfl (lv_room (Nat.le_of_ble_eq_true rfl)) dL_law_725 hc9) [7, 8, 9, 10, 11, 12, 13] [0, 1, 2, 3, 4, 5, 6, 14] rfl rfl rfl (by decide) (fun H locs hP hD hS => ?_)
    have hP : va_P D vwCl (wC h0 a0 a1 a2 a3 a4 a5 cI cZ bf pw hs lo lg rt nb (nI fi) (nI fo) (nI en) on cu ma ++ (wM g0 b0 b1 b2 b3 b4 b5 cI cZ 1 bf pw hs lo lg rt nb (nI fi) (nI fo) (nI en) off cu ma ++ wO oj cJ og)) H := hP.sub [0, 1, 2, 3, 4, 5, 6, 8, 9, 10, 11, 12, 13, 14, 7] rfl
    have hD : va_D A (wC h0 a0 a1 a2 a3 a4 a5 cI cZ bf pw hs lo lg rt nb (nI fi) (nI fo) (nI en) on cu ma ++ (wM g0 b0 b1 b2 b3 b4 b5 cI cZ 1 bf pw hs lo lg rt nb (nI fi) (nI fo) (nI en) off cu ma ++ wO oj cJ og)) := hD.sub [0, 1, 2, 3, 4, 5, 6, 8, 9, 10, 11, 12, 13, 14, 7] (by decide) rfl
    refine lv_istore (lv' := [(6, .int 0), (5, .int 1), (0, .ref b), (1, .ref h0), (2, .ref g0), (3, .ref oj), (4, .int (nI (4 * j9)))]) hx hb dL_law_728 hl (by decide) rfl (fun ls hl => ?_)
    refine lv_aload_n hx hb dL_law_730 rfl (lv_at hl 4 rfl) ?_
    refine k_I (wr := wC h0 a0 a1 a2 a3 a4 a5 cI cZ bf pw hs lo lg rt nb (nI fi) (nI fo) (nI en) on cu ma ++ wO oj cJ og) hP hD hS hA (va_runV (As := []) (rest := []) ⟨hx, hb, hml, hown, hts⟩ (tX1_thrown 1 bf pw hs lo lg rt nb fi fo en off cu ma _) (cwV 0 hts gL_law_X1_thrown rfl rfl rfl (by decide +kernel) ⟨Nat.le_of_ble_eq_true rfl, Nat.le_of_ble_eq_true rfl⟩) (pV_B hP hD hK (ci := 1) (q0 := 7) rfl rfl rfl [0, 1] rfl [7, 8, 9, 10, 11, 12, 13] rfl rfl) rfl rfl hl.1 rfl (lv_room (Nat.le_of_ble_eq_true rfl)) dL_law_731 hc9) [7, 8, 9, 10, 11, 12, 13] [0, 1, 2, 3, 4, 5, 6, 14] rfl rfl rfl (by decide) (fun H locs hP hD hS => ?_)
    have hP : va_P D vwCl (wC h0 a0 a1 a2 a3 a4 a5 cI cZ bf pw hs lo lg rt nb (nI fi) (nI fo) (nI en) on cu ma ++ (wM g0 b0 b1 b2 b3 b4 b5 cI cZ 1 bf pw hs lo lg rt nb (nI fi) (nI fo) (nI en) off cu ma ++ wO oj cJ og)) H := hP.sub [0, 1, 2, 3, 4, 5, 6, 8, 9, 10, 11, 12, 13, 14, 7] rfl
    have hD : va_D A (wC h0 a0 a1 a2 a3 a4 a5 cI cZ bf pw hs lo lg rt nb (nI fi) (nI fo) (nI en) on cu ma ++ (wM g0 b0 b1 b2 b3 b4 b5 cI cZ 1 bf pw hs lo lg rt nb (nI fi) (nI fo) (nI en) off cu ma ++ wO oj cJ og)) := hD.sub [0, 1, 2, 3, 4, 5, 6, 8, 9, 10, 11, 12, 13, 14, 7] (by decide) rfl
    refine lv_iload hx hb dL_law_734 (lv_at hl 1 rfl) ?_
    refine lv_icmp_eq (tgt := 741) hx hb dL_law_736 (by decide) (fun c_736 => ?_) (fun c_736 => absurd (by decide) c_736)
    refine lv_iload hx hb dL_law_741 (lv_at hl 1 rfl) ?_
    refine lv_if_ne (tgt := 758) hx hb dL_law_743 (by decide) (fun c_743 => ?_) (fun c_743 => absurd c_743 (by decide))
    refine lv_goto (tgt := 1176) hx hb dL_law_758 (by decide) ?_
    refine W.widen (k := 15 + (j9 + 1)) (n := 199844 + 6 * (j9 + 1)) (by omega) (by omega) ?_
    refine lv_iinc (v := nI (4 * (j9 + 1))) (lv' := [(4, .int (nI (4 * (j9 + 1)))), (6, .int 0), (5, .int 1), (0, .ref b), (1, .ref h0), (2, .ref g0), (3, .ref oj)]) hx hb dL_law_1176 hl (k := 6) rfl (nI_add (4 * j9) 4) (by decide) rfl (fun ls hl => ?_)
    refine lv_goto (tgt := 23) hx hb dL_law_1179 (by decide) ?_
    exact IH bf pw hs lo lg rt nb fi fo en on off cu ma 1 og _ _ _ hpo (by omega) (by omega) (by omega) hcu hP hD hS (lv_sub hl [3, 4, 5, 6, 0] rfl)
  · rcases (show k = 0 ∨ k = 1 ∨ k = 2 by omega) with rfl | rfl | rfl
    · have hP : va_P D vwCl (wC h0 a0 a1 a2 a3 a4 a5 cI cZ bf pw hs lo lg rt nb (nI fi) (nI fo) (nI en) on cu ma ++ (wM g0 b0 b1 b2 b3 b4 b5 cI cZ th bf pw hs lo lg rt nb (nI fi) (nI fo) (nI en) off cu ma ++ wO oj cJ og)) H := hP
      have hD : va_D A (wC h0 a0 a1 a2 a3 a4 a5 cI cZ bf pw hs lo lg rt nb (nI fi) (nI fo) (nI en) on cu ma ++ (wM g0 b0 b1 b2 b3 b4 b5 cI cZ th bf pw hs lo lg rt nb (nI fi) (nI fo) (nI en) off cu ma ++ wO oj cJ og)) := hD
      refine lv_aload_n hx hb dL_law_705 rfl (lv_at hl 1 rfl) ?_
      refine lv_aload_n hx hb dL_law_706 rfl (lv_at hl 0 rfl) ?_
      refine lv_iload hx hb dL_law_707 (lv_at hl 4 rfl) ?_
      refine lv_iconst (v := (nI 1)) hx hb dL_law_709 (by decide) ?_
      refine n_iadd hx hb dL_law_710 ?_
      refine n_sld hx hb hX hbl hbA hS (4 * j9 + 1) (by omega) (by omega) ((nI 0)) ex dL_law_711 ?_
      refine lv_aload_n hx hb dL_law_712 rfl (lv_at hl 3 rfl) ?_
      refine k_I (wr := wM g0 b0 b1 b2 b3 b4 b5 cI cZ th bf pw hs lo lg rt nb (nI fi) (nI fo) (nI en) off cu ma) hP hD hS hA (vx_runSW (As := [.ref h0, .int (nI 0), .ref oj]) (rest := []) ⟨hx, hb, hml, hown, hts⟩ (tL_log_ok0 hl0 bf pw hs lo lg rt nb fi fo en on cu ma oj og _) (vx_cwSW 3 hts gL_law_L_log rfl rfl rfl (by decide +kernel) ⟨Nat.le_of_ble_eq_true rfl, Nat.le_of_ble_eq_true rfl⟩) (pS_X hP hD hK hS hA hT [0, 1, 2] rfl [0, 1, 2, 3, 4, 5, 6, 14] rfl rfl) rfl rfl hl.1 rfl (lv_room (Nat.le_of_ble_eq_true rfl)) dL_law_713 hc1) [0, 1, 2, 3, 4, 5, 6, 14] [7, 8, 9, 10, 11, 12, 13] rfl rfl rfl (by decide) (fun H locs hP hD hS => ?_)
      have hP : va_P D vwCl (wC h0 a0 a1 a2 a3 a4 a5 cI cZ bf pw hs lo lg rt nb (nI fi) (nI fo) (nI en) on cu ma ++ (wM g0 b0 b1 b2 b3 b4 b5 cI cZ th bf pw hs lo lg rt nb (nI fi) (nI fo) (nI en) off cu ma ++ wO oj cJ (vp_updL og 0 (Int32.toInt64 (nI fi))))) H := hP.sub [7, 8, 9, 10, 11, 12, 13, 0, 1, 2, 3, 4, 5, 6, 14] rfl
      have hD : va_D A (wC h0 a0 a1 a2 a3 a4 a5 cI cZ bf pw hs lo lg rt nb (nI fi) (nI fo) (nI en) on cu ma ++ (wM g0 b0 b1 b2 b3 b4 b5 cI cZ th bf pw hs lo lg rt nb (nI fi) (nI fo) (nI en) off cu ma ++ wO oj cJ (vp_updL og 0 (Int32.toInt64 (nI fi))))) := hD.sub [7, 8, 9, 10, 11, 12, 13, 0, 1, 2, 3, 4, 5, 6, 14] (by decide) rfl
      refine lv_istore (lv' := [(5, .int 0), (0, .ref b), (1, .ref h0), (2, .ref g0), (3, .ref oj), (4, .int (nI (4 * j9)))]) hx hb dL_law_716 hl (by decide) rfl (fun ls hl => ?_)
      refine lv_aload_n hx hb dL_law_718 rfl (lv_at hl 3 rfl) ?_
      refine lv_aload_n hx hb dL_law_719 rfl (lv_at hl 1 rfl) ?_
      refine lv_iload hx hb dL_law_720 (lv_at hl 5 rfl) ?_
      refine lv_iconst (v := (nI 1)) hx hb dL_law_722 (by decide) ?_
      refine n_iadd hx hb dL_law_723 ?_
      refine n_sld hx hb hX hbl hbA hS (4 * j9 + 1) (by omega) (by omega) ((nI 0)) ex dL_law_724 ?_
      refine k_I (wr := wC h0 a0 a1 a2 a3 a4 a5 cI cZ bf pw hs lo lg rt nb (nI fi) (nI fo) (nI en) on cu ma ++ wO oj cJ (vp_updL og 0 (Int32.toInt64 (nI fi)))) hP hD hS hA (va_runV (As := [.int (nI 0)]) (rest := []) ⟨hx, hb, hml, hown, hts⟩ (tX1_log_ok0 th bf pw hs lo lg rt nb fi fo en off cu ma _) (cwV 1 hts gL_law_X1_log rfl rfl rfl (by decide +kernel) ⟨Nat.le_of_ble_eq_true rfl, Nat.le_of_ble_eq_true rfl⟩) (pV_B hP hD hK (ci := 1) (q0 := 7) rfl rfl rfl [0, 1] rfl [7, 8, 9, 10, 11, 12, 13] rfl rfl) rfl rfl hl.1 rfl (lv_room (Nat.le_of_ble_eq_true rfl)) dL_law_725 hc9) [7, 8, 9, 10, 11, 12, 13] [0, 1, 2, 3, 4, 5, 6, 14] rfl rfl rfl (by decide) (fun H locs hP hD hS => ?_)
      have hP : va_P D vwCl (wC h0 a0 a1 a2 a3 a4 a5 cI cZ bf pw hs lo lg rt nb (nI fi) (nI fo) (nI en) on cu ma ++ (wM g0 b0 b1 b2 b3 b4 b5 cI cZ 0 bf pw hs lo lg rt nb (nI fi) (nI fo) (nI en) off cu ma ++ wO oj cJ (vp_updL og 0 (Int32.toInt64 (nI fi))))) H := hP.sub [0, 1, 2, 3, 4, 5, 6, 8, 9, 10, 11, 12, 13, 14, 7] rfl
      have hD : va_D A (wC h0 a0 a1 a2 a3 a4 a5 cI cZ bf pw hs lo lg rt nb (nI fi) (nI fo) (nI en) on cu ma ++ (wM g0 b0 b1 b2 b3 b4 b5 cI cZ 0 bf pw hs lo lg rt nb (nI fi) (nI fo) (nI en) off cu ma ++ wO oj cJ (vp_updL og 0 (Int32.toInt64 (nI fi))))) := hD.sub [0, 1, 2, 3, 4, 5, 6, 8, 9, 10, 11, 12, 13, 14, 7] (by decide) rfl
      refine lv_istore (lv' := [(6, .int (nI fi)), (5, .int 0), (0, .ref b), (1, .ref h0), (2, .ref g0), (3, .ref oj), (4, .int (nI (4 * j9)))]) hx hb dL_law_728 hl (by decide) rfl (fun ls hl => ?_)
      refine lv_aload_n hx hb dL_law_730 rfl (lv_at hl 4 rfl) ?_
      refine k_I (wr := wC h0 a0 a1 a2 a3 a4 a5 cI cZ bf pw hs lo lg rt nb (nI fi) (nI fo) (nI en) on cu ma ++ wO oj cJ (vp_updL og 0 (Int32.toInt64 (nI fi)))) hP hD hS hA (va_runV (As := []) (rest := []) ⟨hx, hb, hml, hown, hts⟩ (tX1_thrown 0 bf pw hs lo lg rt nb fi fo en off cu ma _) (cwV 0 hts gL_law_X1_thrown rfl rfl rfl (by decide +kernel) ⟨Nat.le_of_ble_eq_true rfl, Nat.le_of_ble_eq_true rfl⟩) (pV_B hP hD hK (ci := 1) (q0 := 7) rfl rfl rfl [0, 1] rfl [7, 8, 9, 10, 11, 12, 13] rfl rfl) rfl rfl hl.1 rfl (lv_room (Nat.le_of_ble_eq_true rfl)) dL_law_731 hc9) [7, 8, 9, 10, 11, 12, 13] [0, 1, 2, 3, 4, 5, 6, 14] rfl rfl rfl (by decide) (fun H locs hP hD hS => ?_)
      have hP : va_P D vwCl (wC h0 a0 a1 a2 a3 a4 a5 cI cZ bf pw hs lo lg rt nb (nI fi) (nI fo) (nI en) on cu ma ++ (wM g0 b0 b1 b2 b3 b4 b5 cI cZ 0 bf pw hs lo lg rt nb (nI fi) (nI fo) (nI en) off cu ma ++ wO oj cJ (vp_updL og 0 (Int32.toInt64 (nI fi))))) H := hP.sub [0, 1, 2, 3, 4, 5, 6, 8, 9, 10, 11, 12, 13, 14, 7] rfl
      have hD : va_D A (wC h0 a0 a1 a2 a3 a4 a5 cI cZ bf pw hs lo lg rt nb (nI fi) (nI fo) (nI en) on cu ma ++ (wM g0 b0 b1 b2 b3 b4 b5 cI cZ 0 bf pw hs lo lg rt nb (nI fi) (nI fo) (nI en) off cu ma ++ wO oj cJ (vp_updL og 0 (Int32.toInt64 (nI fi))))) := hD.sub [0, 1, 2, 3, 4, 5, 6, 8, 9, 10, 11, 12, 13, 14, 7] (by decide) rfl
      refine lv_iload hx hb dL_law_734 (lv_at hl 1 rfl) ?_
      refine lv_icmp_eq (tgt := 741) hx hb dL_law_736 (by decide) (fun c_736 => ?_) (fun c_736 => absurd (by decide) c_736)
      refine lv_iload hx hb dL_law_741 (lv_at hl 1 rfl) ?_
      refine lv_if_ne (tgt := 758) hx hb dL_law_743 (by decide) (fun c_743 => absurd (by decide) c_743) (fun c_743 => ?_)
      refine lv_aload_n hx hb dL_law_746 rfl (lv_at hl 5 rfl) ?_
      refine lv_iconst (v := (nI 0)) hx hb dL_law_747 (by decide) ?_
      refine n_lald hx hb hK hP 14 2 rfl rfl 0 (by omega) (by omega) dL_law_748 ?_
      refine lv_iload hx hb dL_law_749 (lv_at hl 0 rfl) ?_
      refine lv_i2l (v := Int32.toInt64 (nI fi)) hx hb dL_law_751 rfl ?_
      refine W.lcmp hx hb dL_law_752 ?_
      refine lv_if_eq (tgt := 758) hx hb dL_law_753 (by decide) (fun c_753 => ?_) (fun c_753 => absurd (by rw [pk_uLs]; exact lg_self _) c_753)
      refine lv_goto (tgt := 1176) hx hb dL_law_758 (by decide) ?_
      refine W.widen (k := 15 + (j9 + 1)) (n := 199844 + 6 * (j9 + 1)) (by omega) (by omega) ?_
      refine lv_iinc (v := nI (4 * (j9 + 1))) (lv' := [(4, .int (nI (4 * (j9 + 1)))), (6, .int (nI fi)), (5, .int 0), (0, .ref b), (1, .ref h0), (2, .ref g0), (3, .ref oj)]) hx hb dL_law_1176 hl (k := 6) rfl (nI_add (4 * j9) 4) (by decide) rfl (fun ls hl => ?_)
      refine lv_goto (tgt := 23) hx hb dL_law_1179 (by decide) ?_
      exact IH bf pw hs lo lg rt nb fi fo en on off cu ma 0 (vp_updL og 0 (Int32.toInt64 (nI fi))) _ _ _ hpo (by omega) (by omega) (by omega) hcu hP hD hS (lv_sub hl [3, 4, 5, 6, 0] rfl)
    · have hP : va_P D vwCl (wC h0 a0 a1 a2 a3 a4 a5 cI cZ bf pw hs lo lg rt nb (nI fi) (nI fo) (nI en) on cu ma ++ (wM g0 b0 b1 b2 b3 b4 b5 cI cZ th bf pw hs lo lg rt nb (nI fi) (nI fo) (nI en) off cu ma ++ wO oj cJ og)) H := hP
      have hD : va_D A (wC h0 a0 a1 a2 a3 a4 a5 cI cZ bf pw hs lo lg rt nb (nI fi) (nI fo) (nI en) on cu ma ++ (wM g0 b0 b1 b2 b3 b4 b5 cI cZ th bf pw hs lo lg rt nb (nI fi) (nI fo) (nI en) off cu ma ++ wO oj cJ og)) := hD
      refine lv_aload_n hx hb dL_law_705 rfl (lv_at hl 1 rfl) ?_
      refine lv_aload_n hx hb dL_law_706 rfl (lv_at hl 0 rfl) ?_
      refine lv_iload hx hb dL_law_707 (lv_at hl 4 rfl) ?_
      refine lv_iconst (v := (nI 1)) hx hb dL_law_709 (by decide) ?_
      refine n_iadd hx hb dL_law_710 ?_
      refine n_sld hx hb hX hbl hbA hS (4 * j9 + 1) (by omega) (by omega) ((nI 1)) ex dL_law_711 ?_
      refine lv_aload_n hx hb dL_law_712 rfl (lv_at hl 3 rfl) ?_
      refine k_I (wr := wM g0 b0 b1 b2 b3 b4 b5 cI cZ th bf pw hs lo lg rt nb (nI fi) (nI fo) (nI en) off cu ma) hP hD hS hA (vx_runSW (As := [.ref h0, .int (nI 1), .ref oj]) (rest := []) ⟨hx, hb, hml, hown, hts⟩ (tL_log_ok1 hl0 bf pw hs lo lg rt nb fi fo en on cu ma oj og _) (vx_cwSW 3 hts gL_law_L_log rfl rfl rfl (by decide +kernel) ⟨Nat.le_of_ble_eq_true rfl, Nat.le_of_ble_eq_true rfl⟩) (pS_X hP hD hK hS hA hT [0, 1, 2] rfl [0, 1, 2, 3, 4, 5, 6, 14] rfl rfl) rfl rfl hl.1 rfl (lv_room (Nat.le_of_ble_eq_true rfl)) dL_law_713 hc1) [0, 1, 2, 3, 4, 5, 6, 14] [7, 8, 9, 10, 11, 12, 13] rfl rfl rfl (by decide) (fun H locs hP hD hS => ?_)
      have hP : va_P D vwCl (wC h0 a0 a1 a2 a3 a4 a5 cI cZ bf pw hs lo lg rt nb (nI fi) (nI fo) (nI en) on cu ma ++ (wM g0 b0 b1 b2 b3 b4 b5 cI cZ th bf pw hs lo lg rt nb (nI fi) (nI fo) (nI en) off cu ma ++ wO oj cJ (vp_updL og 0 (Int32.toInt64 (nI fo))))) H := hP.sub [7, 8, 9, 10, 11, 12, 13, 0, 1, 2, 3, 4, 5, 6, 14] rfl
      have hD : va_D A (wC h0 a0 a1 a2 a3 a4 a5 cI cZ bf pw hs lo lg rt nb (nI fi) (nI fo) (nI en) on cu ma ++ (wM g0 b0 b1 b2 b3 b4 b5 cI cZ th bf pw hs lo lg rt nb (nI fi) (nI fo) (nI en) off cu ma ++ wO oj cJ (vp_updL og 0 (Int32.toInt64 (nI fo))))) := hD.sub [7, 8, 9, 10, 11, 12, 13, 0, 1, 2, 3, 4, 5, 6, 14] (by decide) rfl
      refine lv_istore (lv' := [(5, .int 0), (0, .ref b), (1, .ref h0), (2, .ref g0), (3, .ref oj), (4, .int (nI (4 * j9)))]) hx hb dL_law_716 hl (by decide) rfl (fun ls hl => ?_)
      refine lv_aload_n hx hb dL_law_718 rfl (lv_at hl 3 rfl) ?_
      refine lv_aload_n hx hb dL_law_719 rfl (lv_at hl 1 rfl) ?_
      refine lv_iload hx hb dL_law_720 (lv_at hl 5 rfl) ?_
      refine lv_iconst (v := (nI 1)) hx hb dL_law_722 (by decide) ?_
      refine n_iadd hx hb dL_law_723 ?_
      refine n_sld hx hb hX hbl hbA hS (4 * j9 + 1) (by omega) (by omega) ((nI 1)) ex dL_law_724 ?_
      refine k_I (wr := wC h0 a0 a1 a2 a3 a4 a5 cI cZ bf pw hs lo lg rt nb (nI fi) (nI fo) (nI en) on cu ma ++ wO oj cJ (vp_updL og 0 (Int32.toInt64 (nI fo)))) hP hD hS hA (va_runV (As := [.int (nI 1)]) (rest := []) ⟨hx, hb, hml, hown, hts⟩ (tX1_log_ok1 th bf pw hs lo lg rt nb fi fo en off cu ma _) (cwV 1 hts gL_law_X1_log rfl rfl rfl (by decide +kernel) ⟨Nat.le_of_ble_eq_true rfl, Nat.le_of_ble_eq_true rfl⟩) (pV_B hP hD hK (ci := 1) (q0 := 7) rfl rfl rfl [0, 1] rfl [7, 8, 9, 10, 11, 12, 13] rfl rfl) rfl rfl hl.1 rfl (lv_room (Nat.le_of_ble_eq_true rfl)) dL_law_725 hc9) [7, 8, 9, 10, 11, 12, 13] [0, 1, 2, 3, 4, 5, 6, 14] rfl rfl rfl (by decide) (fun H locs hP hD hS => ?_)
      have hP : va_P D vwCl (wC h0 a0 a1 a2 a3 a4 a5 cI cZ bf pw hs lo lg rt nb (nI fi) (nI fo) (nI en) on cu ma ++ (wM g0 b0 b1 b2 b3 b4 b5 cI cZ 0 bf pw hs lo lg rt nb (nI fi) (nI fo) (nI en) off cu ma ++ wO oj cJ (vp_updL og 0 (Int32.toInt64 (nI fo))))) H := hP.sub [0, 1, 2, 3, 4, 5, 6, 8, 9, 10, 11, 12, 13, 14, 7] rfl
      have hD : va_D A (wC h0 a0 a1 a2 a3 a4 a5 cI cZ bf pw hs lo lg rt nb (nI fi) (nI fo) (nI en) on cu ma ++ (wM g0 b0 b1 b2 b3 b4 b5 cI cZ 0 bf pw hs lo lg rt nb (nI fi) (nI fo) (nI en) off cu ma ++ wO oj cJ (vp_updL og 0 (Int32.toInt64 (nI fo))))) := hD.sub [0, 1, 2, 3, 4, 5, 6, 8, 9, 10, 11, 12, 13, 14, 7] (by decide) rfl
      refine lv_istore (lv' := [(6, .int (nI fo)), (5, .int 0), (0, .ref b), (1, .ref h0), (2, .ref g0), (3, .ref oj), (4, .int (nI (4 * j9)))]) hx hb dL_law_728 hl (by decide) rfl (fun ls hl => ?_)
      refine lv_aload_n hx hb dL_law_730 rfl (lv_at hl 4 rfl) ?_
      refine k_I (wr := wC h0 a0 a1 a2 a3 a4 a5 cI cZ bf pw hs lo lg rt nb (nI fi) (nI fo) (nI en) on cu ma ++ wO oj cJ (vp_updL og 0 (Int32.toInt64 (nI fo)))) hP hD hS hA (va_runV (As := []) (rest := []) ⟨hx, hb, hml, hown, hts⟩ (tX1_thrown 0 bf pw hs lo lg rt nb fi fo en off cu ma _) (cwV 0 hts gL_law_X1_thrown rfl rfl rfl (by decide +kernel) ⟨Nat.le_of_ble_eq_true rfl, Nat.le_of_ble_eq_true rfl⟩) (pV_B hP hD hK (ci := 1) (q0 := 7) rfl rfl rfl [0, 1] rfl [7, 8, 9, 10, 11, 12, 13] rfl rfl) rfl rfl hl.1 rfl (lv_room (Nat.le_of_ble_eq_true rfl)) dL_law_731 hc9) [7, 8, 9, 10, 11, 12, 13] [0, 1, 2, 3, 4, 5, 6, 14] rfl rfl rfl (by decide) (fun H locs hP hD hS => ?_)
      have hP : va_P D vwCl (wC h0 a0 a1 a2 a3 a4 a5 cI cZ bf pw hs lo lg rt nb (nI fi) (nI fo) (nI en) on cu ma ++ (wM g0 b0 b1 b2 b3 b4 b5 cI cZ 0 bf pw hs lo lg rt nb (nI fi) (nI fo) (nI en) off cu ma ++ wO oj cJ (vp_updL og 0 (Int32.toInt64 (nI fo))))) H := hP.sub [0, 1, 2, 3, 4, 5, 6, 8, 9, 10, 11, 12, 13, 14, 7] rfl
      have hD : va_D A (wC h0 a0 a1 a2 a3 a4 a5 cI cZ bf pw hs lo lg rt nb (nI fi) (nI fo) (nI en) on cu ma ++ (wM g0 b0 b1 b2 b3 b4 b5 cI cZ 0 bf pw hs lo lg rt nb (nI fi) (nI fo) (nI en) off cu ma ++ wO oj cJ (vp_updL og 0 (Int32.toInt64 (nI fo))))) := hD.sub [0, 1, 2, 3, 4, 5, 6, 8, 9, 10, 11, 12, 13, 14, 7] (by decide) rfl
      refine lv_iload hx hb dL_law_734 (lv_at hl 1 rfl) ?_
      refine lv_icmp_eq (tgt := 741) hx hb dL_law_736 (by decide) (fun c_736 => ?_) (fun c_736 => absurd (by decide) c_736)
      refine lv_iload hx hb dL_law_741 (lv_at hl 1 rfl) ?_
      refine lv_if_ne (tgt := 758) hx hb dL_law_743 (by decide) (fun c_743 => absurd (by decide) c_743) (fun c_743 => ?_)
      refine lv_aload_n hx hb dL_law_746 rfl (lv_at hl 5 rfl) ?_
      refine lv_iconst (v := (nI 0)) hx hb dL_law_747 (by decide) ?_
      refine n_lald hx hb hK hP 14 2 rfl rfl 0 (by omega) (by omega) dL_law_748 ?_
      refine lv_iload hx hb dL_law_749 (lv_at hl 0 rfl) ?_
      refine lv_i2l (v := Int32.toInt64 (nI fo)) hx hb dL_law_751 rfl ?_
      refine W.lcmp hx hb dL_law_752 ?_
      refine lv_if_eq (tgt := 758) hx hb dL_law_753 (by decide) (fun c_753 => ?_) (fun c_753 => absurd (by rw [pk_uLs]; exact lg_self _) c_753)
      refine lv_goto (tgt := 1176) hx hb dL_law_758 (by decide) ?_
      refine W.widen (k := 15 + (j9 + 1)) (n := 199844 + 6 * (j9 + 1)) (by omega) (by omega) ?_
      refine lv_iinc (v := nI (4 * (j9 + 1))) (lv' := [(4, .int (nI (4 * (j9 + 1)))), (6, .int (nI fo)), (5, .int 0), (0, .ref b), (1, .ref h0), (2, .ref g0), (3, .ref oj)]) hx hb dL_law_1176 hl (k := 6) rfl (nI_add (4 * j9) 4) (by decide) rfl (fun ls hl => ?_)
      refine lv_goto (tgt := 23) hx hb dL_law_1179 (by decide) ?_
      exact IH bf pw hs lo lg rt nb fi fo en on off cu ma 0 (vp_updL og 0 (Int32.toInt64 (nI fo))) _ _ _ hpo (by omega) (by omega) (by omega) hcu hP hD hS (lv_sub hl [3, 4, 5, 6, 0] rfl)
    · have hP : va_P D vwCl (wC h0 a0 a1 a2 a3 a4 a5 cI cZ bf pw hs lo lg rt nb (nI fi) (nI fo) (nI en) on cu ma ++ (wM g0 b0 b1 b2 b3 b4 b5 cI cZ th bf pw hs lo lg rt nb (nI fi) (nI fo) (nI en) off cu ma ++ wO oj cJ og)) H := hP
      have hD : va_D A (wC h0 a0 a1 a2 a3 a4 a5 cI cZ bf pw hs lo lg rt nb (nI fi) (nI fo) (nI en) on cu ma ++ (wM g0 b0 b1 b2 b3 b4 b5 cI cZ th bf pw hs lo lg rt nb (nI fi) (nI fo) (nI en) off cu ma ++ wO oj cJ og)) := hD
      refine lv_aload_n hx hb dL_law_705 rfl (lv_at hl 1 rfl) ?_
      refine lv_aload_n hx hb dL_law_706 rfl (lv_at hl 0 rfl) ?_
      refine lv_iload hx hb dL_law_707 (lv_at hl 4 rfl) ?_
      refine lv_iconst (v := (nI 1)) hx hb dL_law_709 (by decide) ?_
      refine n_iadd hx hb dL_law_710 ?_
      refine n_sld hx hb hX hbl hbA hS (4 * j9 + 1) (by omega) (by omega) ((nI 2)) ex dL_law_711 ?_
      refine lv_aload_n hx hb dL_law_712 rfl (lv_at hl 3 rfl) ?_
      refine k_I (wr := wM g0 b0 b1 b2 b3 b4 b5 cI cZ th bf pw hs lo lg rt nb (nI fi) (nI fo) (nI en) off cu ma) hP hD hS hA (vx_runSW (As := [.ref h0, .int (nI 2), .ref oj]) (rest := []) ⟨hx, hb, hml, hown, hts⟩ (tL_log_ok2 hl0 bf pw hs lo lg rt nb fi fo en on cu ma oj og _) (vx_cwSW 3 hts gL_law_L_log rfl rfl rfl (by decide +kernel) ⟨Nat.le_of_ble_eq_true rfl, Nat.le_of_ble_eq_true rfl⟩) (pS_X hP hD hK hS hA hT [0, 1, 2] rfl [0, 1, 2, 3, 4, 5, 6, 14] rfl rfl) rfl rfl hl.1 rfl (lv_room (Nat.le_of_ble_eq_true rfl)) dL_law_713 hc1) [0, 1, 2, 3, 4, 5, 6, 14] [7, 8, 9, 10, 11, 12, 13] rfl rfl rfl (by decide) (fun H locs hP hD hS => ?_)
      have hP : va_P D vwCl (wC h0 a0 a1 a2 a3 a4 a5 cI cZ bf pw hs lo lg rt nb (nI fi) (nI fo) (nI en) on cu ma ++ (wM g0 b0 b1 b2 b3 b4 b5 cI cZ th bf pw hs lo lg rt nb (nI fi) (nI fo) (nI en) off cu ma ++ wO oj cJ (vp_updL og 0 (Int32.toInt64 (nI en))))) H := hP.sub [7, 8, 9, 10, 11, 12, 13, 0, 1, 2, 3, 4, 5, 6, 14] rfl
      have hD : va_D A (wC h0 a0 a1 a2 a3 a4 a5 cI cZ bf pw hs lo lg rt nb (nI fi) (nI fo) (nI en) on cu ma ++ (wM g0 b0 b1 b2 b3 b4 b5 cI cZ th bf pw hs lo lg rt nb (nI fi) (nI fo) (nI en) off cu ma ++ wO oj cJ (vp_updL og 0 (Int32.toInt64 (nI en))))) := hD.sub [7, 8, 9, 10, 11, 12, 13, 0, 1, 2, 3, 4, 5, 6, 14] (by decide) rfl
      refine lv_istore (lv' := [(5, .int 0), (0, .ref b), (1, .ref h0), (2, .ref g0), (3, .ref oj), (4, .int (nI (4 * j9)))]) hx hb dL_law_716 hl (by decide) rfl (fun ls hl => ?_)
      refine lv_aload_n hx hb dL_law_718 rfl (lv_at hl 3 rfl) ?_
      refine lv_aload_n hx hb dL_law_719 rfl (lv_at hl 1 rfl) ?_
      refine lv_iload hx hb dL_law_720 (lv_at hl 5 rfl) ?_
      refine lv_iconst (v := (nI 1)) hx hb dL_law_722 (by decide) ?_
      refine n_iadd hx hb dL_law_723 ?_
      refine n_sld hx hb hX hbl hbA hS (4 * j9 + 1) (by omega) (by omega) ((nI 2)) ex dL_law_724 ?_
      refine k_I (wr := wC h0 a0 a1 a2 a3 a4 a5 cI cZ bf pw hs lo lg rt nb (nI fi) (nI fo) (nI en) on cu ma ++ wO oj cJ (vp_updL og 0 (Int32.toInt64 (nI en)))) hP hD hS hA (va_runV (As := [.int (nI 2)]) (rest := []) ⟨hx, hb, hml, hown, hts⟩ (tX1_log_ok2 th bf pw hs lo lg rt nb fi fo en off cu ma _) (cwV 1 hts gL_law_X1_log rfl rfl rfl (by decide +kernel) ⟨Nat.le_of_ble_eq_true rfl, Nat.le_of_ble_eq_true rfl⟩) (pV_B hP hD hK (ci := 1) (q0 := 7) rfl rfl rfl [0, 1] rfl [7, 8, 9, 10, 11, 12, 13] rfl rfl) rfl rfl hl.1 rfl (lv_room (Nat.le_of_ble_eq_true rfl)) dL_law_725 hc9) [7, 8, 9, 10, 11, 12, 13] [0, 1, 2, 3, 4, 5, 6, 14] rfl rfl rfl (by decide) (fun H locs hP hD hS => ?_)
      have hP : va_P D vwCl (wC h0 a0 a1 a2 a3 a4 a5 cI cZ bf pw hs lo lg rt nb (nI fi) (nI fo) (nI en) on cu ma ++ (wM g0 b0 b1 b2 b3 b4 b5 cI cZ 0 bf pw hs lo lg rt nb (nI fi) (nI fo) (nI en) off cu ma ++ wO oj cJ (vp_updL og 0 (Int32.toInt64 (nI en))))) H := hP.sub [0, 1, 2, 3, 4, 5, 6, 8, 9, 10, 11, 12, 13, 14, 7] rfl
      have hD : va_D A (wC h0 a0 a1 a2 a3 a4 a5 cI cZ bf pw hs lo lg rt nb (nI fi) (nI fo) (nI en) on cu ma ++ (wM g0 b0 b1 b2 b3 b4 b5 cI cZ 0 bf pw hs lo lg rt nb (nI fi) (nI fo) (nI en) off cu ma ++ wO oj cJ (vp_updL og 0 (Int32.toInt64 (nI en))))) := hD.sub [0, 1, 2, 3, 4, 5, 6, 8, 9, 10, 11, 12, 13, 14, 7] (by decide) rfl
      refine lv_istore (lv' := [(6, .int (nI en)), (5, .int 0), (0, .ref b), (1, .ref h0), (2, .ref g0), (3, .ref oj), (4, .int (nI (4 * j9)))]) hx hb dL_law_728 hl (by decide) rfl (fun ls hl => ?_)
      refine lv_aload_n hx hb dL_law_730 rfl (lv_at hl 4 rfl) ?_
      refine k_I (wr := wC h0 a0 a1 a2 a3 a4 a5 cI cZ bf pw hs lo lg rt nb (nI fi) (nI fo) (nI en) on cu ma ++ wO oj cJ (vp_updL og 0 (Int32.toInt64 (nI en)))) hP hD hS hA (va_runV (As := []) (rest := []) ⟨hx, hb, hml, hown, hts⟩ (tX1_thrown 0 bf pw hs lo lg rt nb fi fo en off cu ma _) (cwV 0 hts gL_law_X1_thrown rfl rfl rfl (by decide +kernel) ⟨Nat.le_of_ble_eq_true rfl, Nat.le_of_ble_eq_true rfl⟩) (pV_B hP hD hK (ci := 1) (q0 := 7) rfl rfl rfl [0, 1] rfl [7, 8, 9, 10, 11, 12, 13] rfl rfl) rfl rfl hl.1 rfl (lv_room (Nat.le_of_ble_eq_true rfl)) dL_law_731 hc9) [7, 8, 9, 10, 11, 12, 13] [0, 1, 2, 3, 4, 5, 6, 14] rfl rfl rfl (by decide) (fun H locs hP hD hS => ?_)
      have hP : va_P D vwCl (wC h0 a0 a1 a2 a3 a4 a5 cI cZ bf pw hs lo lg rt nb (nI fi) (nI fo) (nI en) on cu ma ++ (wM g0 b0 b1 b2 b3 b4 b5 cI cZ 0 bf pw hs lo lg rt nb (nI fi) (nI fo) (nI en) off cu ma ++ wO oj cJ (vp_updL og 0 (Int32.toInt64 (nI en))))) H := hP.sub [0, 1, 2, 3, 4, 5, 6, 8, 9, 10, 11, 12, 13, 14, 7] rfl
      have hD : va_D A (wC h0 a0 a1 a2 a3 a4 a5 cI cZ bf pw hs lo lg rt nb (nI fi) (nI fo) (nI en) on cu ma ++ (wM g0 b0 b1 b2 b3 b4 b5 cI cZ 0 bf pw hs lo lg rt nb (nI fi) (nI fo) (nI en) off cu ma ++ wO oj cJ (vp_updL og 0 (Int32.toInt64 (nI en))))) := hD.sub [0, 1, 2, 3, 4, 5, 6, 8, 9, 10, 11, 12, 13, 14, 7] (by decide) rfl
      refine lv_iload hx hb dL_law_734 (lv_at hl 1 rfl) ?_
      refine lv_icmp_eq (tgt := 741) hx hb dL_law_736 (by decide) (fun c_736 => ?_) (fun c_736 => absurd (by decide) c_736)
      refine lv_iload hx hb dL_law_741 (lv_at hl 1 rfl) ?_
      refine lv_if_ne (tgt := 758) hx hb dL_law_743 (by decide) (fun c_743 => absurd (by decide) c_743) (fun c_743 => ?_)
      refine lv_aload_n hx hb dL_law_746 rfl (lv_at hl 5 rfl) ?_
      refine lv_iconst (v := (nI 0)) hx hb dL_law_747 (by decide) ?_
      refine n_lald hx hb hK hP 14 2 rfl rfl 0 (by omega) (by omega) dL_law_748 ?_
      refine lv_iload hx hb dL_law_749 (lv_at hl 0 rfl) ?_
      refine lv_i2l (v := Int32.toInt64 (nI en)) hx hb dL_law_751 rfl ?_
      refine W.lcmp hx hb dL_law_752 ?_
      refine lv_if_eq (tgt := 758) hx hb dL_law_753 (by decide) (fun c_753 => ?_) (fun c_753 => absurd (by rw [pk_uLs]; exact lg_self _) c_753)
      refine lv_goto (tgt := 1176) hx hb dL_law_758 (by decide) ?_
      refine W.widen (k := 15 + (j9 + 1)) (n := 199844 + 6 * (j9 + 1)) (by omega) (by omega) ?_
      refine lv_iinc (v := nI (4 * (j9 + 1))) (lv' := [(4, .int (nI (4 * (j9 + 1)))), (6, .int (nI en)), (5, .int 0), (0, .ref b), (1, .ref h0), (2, .ref g0), (3, .ref oj)]) hx hb dL_law_1176 hl (k := 6) rfl (nI_add (4 * j9) 4) (by decide) rfl (fun ls hl => ?_)
      refine lv_goto (tgt := 23) hx hb dL_law_1179 (by decide) ?_
      exact IH bf pw hs lo lg rt nb fi fo en on off cu ma 0 (vp_updL og 0 (Int32.toInt64 (nI en))) _ _ _ hpo (by omega) (by omega) (by omega) hcu hP hD hS (lv_sub hl [3, 4, 5, 6, 0] rfl)
set_option maxHeartbeats 4000000 in
set_option maxRecDepth 100000 in
theorem lo_setRoot {p : Program} {l : Launch} {e : Env} {s : State} {m : MethodId} {below : List Frame} {meth : Method} {c : Code} {Q : State → Prop} {D : va_G} {A : Nat → Prop} {cI cZ cJ : ClassId} {b L : Nat} {xs : Nat → Int32} {h0 a0 a1 a2 a3 a4 a5 g0 b0 b1 b2 b3 b4 b5 oj : Nat} (hl0 : l.stackTraces = false) (hx : p.tables.exec = Jvm.exec) (hb : c.code = code) (hml : c.maxLocals = 7) (hown : s.vm.findClass RL = some m.cls) (hts : ∀ w ∈ wsL_law, w.before #[Value.ref b] s = true) (hX : va_X b L xs s s.heap) (hbl : b < s.heap.size) (hbA : ¬ A b) (hA : ∀ q : Nat, s.heap.size ≤ q → A q) (hK : va_K D vwCl (tyL cI cZ cJ) s) (hT : xT A s s.heap) (hL : L ≤ 2048) (j9 : Nat) (hj : 4 * j9 + 4 ≤ L)
    (IH : lgW p l e s m below meth c Q D A cI cZ cJ b h0 a0 a1 a2 a3 a4 a5 g0 b0 b1 b2 b3 b4 b5 oj (j9 + 1))
    (bf pw hs lo lg rt : Nat → Int32) (nb : Int32) (fi fo en : Nat) (on off cu ma th : Int32) (og : Nat → Int64) (H : Heap) (locs : List Loc) (ls : Array Slot) (hpo : (on = 0 ∧ off = 1) ∨ (on = 1 ∧ off = 0)) (hi1 : fi ≤ fo) (hi2 : fo ≤ en) (hi3 : en ≤ 64 * j9) (hcu : -1 ≤ cu)
    (hP : va_P D vwCl (wA h0 a0 a1 a2 a3 a4 a5 g0 b0 b1 b2 b3 b4 b5 oj cI cZ cJ bf pw hs lo lg rt nb fi fo en on off cu ma th og) H) (hD : va_D A (wA h0 a0 a1 a2 a3 a4 a5 g0 b0 b1 b2 b3 b4 b5 oj cI cZ cJ bf pw hs lo lg rt nb fi fo en on off cu ma th og)) (hS : va_S A s.heap H locs) (hl : lv_has ls 7 [(0, .ref b), (1, .ref h0), (2, .ref g0), (3, .ref oj), (4, .int (nI (4 * j9)))]) :
    W p l e room_1 s m #[Value.ref b] below meth c H locs (15 + j9) (199844 + 6 * j9) Q (F0 m 761 ls []) := by
  have he : en ≤ 60000 := by omega
  have hc0 : 15 + j9 + 0 ≤ room_1.cells ∧ 199844 + 6 * j9 + 0 ≤ room_1.slots := ⟨show 15 + j9 + 0 ≤ 601024 by omega, show 199844 + 6 * j9 + 0 ≤ 7293034 by omega⟩
  have hc1 : 15 + j9 + 1 ≤ room_1.cells ∧ 199844 + 6 * j9 + 6 ≤ room_1.slots := ⟨show 15 + j9 + 1 ≤ 601024 by omega, show 199844 + 6 * j9 + 6 ≤ 7293034 by omega⟩
  have hc9 : 15 + j9 + 1 + 0 ≤ room_1.cells ∧ 199844 + 6 * j9 + 6 + 0 ≤ room_1.slots := hc1
  obtain ⟨x, ex⟩ : ∃ z9, xs (4 * j9 + 1) = z9 := ⟨_, rfl⟩
  obtain ⟨y, ey⟩ : ∃ z9, xs (4 * j9 + 2) = z9 := ⟨_, rfl⟩
  rcases hpo with ⟨rfl, rfl⟩ | ⟨rfl, rfl⟩
  · have hP : va_P D vwCl (wC h0 a0 a1 a2 a3 a4 a5 cI cZ bf pw hs lo lg rt nb (nI fi) (nI fo) (nI en) 0 cu ma ++ (wM g0 b0 b1 b2 b3 b4 b5 cI cZ th bf pw hs lo lg rt nb (nI fi) (nI fo) (nI en) 1 cu ma ++ wO oj cJ og)) H := hP
    have hD : va_D A (wC h0 a0 a1 a2 a3 a4 a5 cI cZ bf pw hs lo lg rt nb (nI fi) (nI fo) (nI en) 0 cu ma ++ (wM g0 b0 b1 b2 b3 b4 b5 cI cZ th bf pw hs lo lg rt nb (nI fi) (nI fo) (nI en) 1 cu ma ++ wO oj cJ og)) := hD
    refine lv_aload_n hx hb dL_law_761 rfl (lv_at hl 1 rfl) ?_
    refine lv_aload_n hx hb dL_law_762 rfl (lv_at hl 0 rfl) ?_
    refine lv_iload hx hb dL_law_763 (lv_at hl 4 rfl) ?_
    refine lv_iconst (v := (nI 1)) hx hb dL_law_765 (by decide) ?_
    refine n_iadd hx hb dL_law_766 ?_
    refine n_sld hx hb hX hbl hbA hS (4 * j9 + 1) (by omega) (by omega) (x) ex dL_law_767 ?_
    refine lv_aload_n hx hb dL_law_768 rfl (lv_at hl 0 rfl) ?_
    refine lv_iload hx hb dL_law_769 (lv_at hl 4 rfl) ?_
    refine lv_iconst (v := (nI 2)) hx hb dL_law_771 (by decide) ?_
    refine n_iadd hx hb dL_law_772 ?_
    refine n_sld hx hb hX hbl hbA hS (4 * j9 + 2) (by omega) (by omega) (y) ey dL_law_773 ?_
    refine lv_aload_n hx hb dL_law_774 rfl (lv_at hl 3 rfl) ?_
    refine k_I (wr := wM g0 b0 b1 b2 b3 b4 b5 cI cZ th bf pw hs lo lg rt nb (nI fi) (nI fo) (nI en) 1 cu ma) hP hD hS hA (vx_runSW (As := [.ref h0, .int x, .int y, .ref oj]) (rest := []) ⟨hx, hb, hml, hown, hts⟩ (tL_setRoot_x0 hl0 bf pw hs lo lg rt nb fi fo en cu ma x y oj og _) (vx_cwSW 4 hts gL_law_L_setRoot rfl rfl rfl (by decide +kernel) ⟨Nat.le_of_ble_eq_true rfl, Nat.le_of_ble_eq_true rfl⟩) (pS_X hP hD hK hS hA hT [0, 1, 2] rfl [0, 1, 2, 3, 4, 5, 6, 14] rfl rfl) rfl rfl hl.1 rfl (lv_room (Nat.le_of_ble_eq_true rfl)) dL_law_775 hc1) [0, 1, 2, 3, 4, 5, 6, 14] [7, 8, 9, 10, 11, 12, 13] rfl rfl rfl (by decide) (fun H locs hP hD hS => ?_)
    have hP : va_P D vwCl (wC h0 a0 a1 a2 a3 a4 a5 cI cZ bf pw hs lo lg rt nb (nI fi) (nI fo) (nI en) 0 cu ma ++ (wM g0 b0 b1 b2 b3 b4 b5 cI cZ th bf pw hs lo lg rt nb (nI fi) (nI fo) (nI en) 1 cu ma ++ wO oj cJ og)) H := hP.sub [7, 8, 9, 10, 11, 12, 13, 0, 1, 2, 3, 4, 5, 6, 14] rfl
    have hD : va_D A (wC h0 a0 a1 a2 a3 a4 a5 cI cZ bf pw hs lo lg rt nb (nI fi) (nI fo) (nI en) 0 cu ma ++ (wM g0 b0 b1 b2 b3 b4 b5 cI cZ th bf pw hs lo lg rt nb (nI fi) (nI fo) (nI en) 1 cu ma ++ wO oj cJ og)) := hD.sub [7, 8, 9, 10, 11, 12, 13, 0, 1, 2, 3, 4, 5, 6, 14] (by decide) rfl
    refine lv_istore (lv' := [(5, .int 1), (0, .ref b), (1, .ref h0), (2, .ref g0), (3, .ref oj), (4, .int (nI (4 * j9)))]) hx hb dL_law_778 hl (by decide) rfl (fun ls hl => ?_)
    refine lv_aload_n hx hb dL_law_780 rfl (lv_at hl 3 rfl) ?_
    refine lv_aload_n hx hb dL_law_781 rfl (lv_at hl 1 rfl) ?_
    refine lv_iload hx hb dL_law_782 (lv_at hl 5 rfl) ?_
    refine lv_iconst (v := (nI 1)) hx hb dL_law_784 (by decide) ?_
    refine n_iadd hx hb dL_law_785 ?_
    refine n_sld hx hb hX hbl hbA hS (4 * j9 + 1) (by omega) (by omega) (x) ex dL_law_786 ?_
    refine lv_aload_n hx hb dL_law_787 rfl (lv_at hl 1 rfl) ?_
    refine lv_iload hx hb dL_law_788 (lv_at hl 5 rfl) ?_
    refine lv_iconst (v := (nI 2)) hx hb dL_law_790 (by decide) ?_
    refine n_iadd hx hb dL_law_791 ?_
    refine n_sld hx hb hX hbl hbA hS (4 * j9 + 2) (by omega) (by omega) (y) ey dL_law_792 ?_
    refine k_I (wr := wC h0 a0 a1 a2 a3 a4 a5 cI cZ bf pw hs lo lg rt nb (nI fi) (nI fo) (nI en) 0 cu ma ++ wO oj cJ og) hP hD hS hA (va_runV (As := [.int x, .int y]) (rest := []) ⟨hx, hb, hml, hown, hts⟩ (tX1_setRoot_x0 th bf pw hs lo lg rt nb fi fo en cu ma x y _) (cwV 2 hts gL_law_X1_setRoot rfl rfl rfl (by decide +kernel) ⟨Nat.le_of_ble_eq_true rfl, Nat.le_of_ble_eq_true rfl⟩) (pV_B hP hD hK (ci := 1) (q0 := 7) rfl rfl rfl [0, 1] rfl [7, 8, 9, 10, 11, 12, 13] rfl rfl) rfl rfl hl.1 rfl (lv_room (Nat.le_of_ble_eq_true rfl)) dL_law_793 hc9) [7, 8, 9, 10, 11, 12, 13] [0, 1, 2, 3, 4, 5, 6, 14] rfl rfl rfl (by decide) (fun H locs hP hD hS => ?_)
    have hP : va_P D vwCl (wC h0 a0 a1 a2 a3 a4 a5 cI cZ bf pw hs lo lg rt nb (nI fi) (nI fo) (nI en) 0 cu ma ++ (wM g0 b0 b1 b2 b3 b4 b5 cI cZ 1 bf pw hs lo lg rt nb (nI fi) (nI fo) (nI en) 1 cu ma ++ wO oj cJ og)) H := hP.sub [0, 1, 2, 3, 4, 5, 6, 8, 9, 10, 11, 12, 13, 14, 7] rfl
    have hD : va_D A (wC h0 a0 a1 a2 a3 a4 a5 cI cZ bf pw hs lo lg rt nb (nI fi) (nI fo) (nI en) 0 cu ma ++ (wM g0 b0 b1 b2 b3 b4 b5 cI cZ 1 bf pw hs lo lg rt nb (nI fi) (nI fo) (nI en) 1 cu ma ++ wO oj cJ og)) := hD.sub [0, 1, 2, 3, 4, 5, 6, 8, 9, 10, 11, 12, 13, 14, 7] (by decide) rfl
    refine lv_istore (lv' := [(6, .int 0), (5, .int 1), (0, .ref b), (1, .ref h0), (2, .ref g0), (3, .ref oj), (4, .int (nI (4 * j9)))]) hx hb dL_law_796 hl (by decide) rfl (fun ls hl => ?_)
    refine lv_aload_n hx hb dL_law_798 rfl (lv_at hl 4 rfl) ?_
    refine k_I (wr := wC h0 a0 a1 a2 a3 a4 a5 cI cZ bf pw hs lo lg rt nb (nI fi) (nI fo) (nI en) 0 cu ma ++ wO oj cJ og) hP hD hS hA (va_runV (As := []) (rest := []) ⟨hx, hb, hml, hown, hts⟩ (tX1_thrown 1 bf pw hs lo lg rt nb fi fo en 1 cu ma _) (cwV 0 hts gL_law_X1_thrown rfl rfl rfl (by decide +kernel) ⟨Nat.le_of_ble_eq_true rfl, Nat.le_of_ble_eq_true rfl⟩) (pV_B hP hD hK (ci := 1) (q0 := 7) rfl rfl rfl [0, 1] rfl [7, 8, 9, 10, 11, 12, 13] rfl rfl) rfl rfl hl.1 rfl (lv_room (Nat.le_of_ble_eq_true rfl)) dL_law_799 hc9) [7, 8, 9, 10, 11, 12, 13] [0, 1, 2, 3, 4, 5, 6, 14] rfl rfl rfl (by decide) (fun H locs hP hD hS => ?_)
    have hP : va_P D vwCl (wC h0 a0 a1 a2 a3 a4 a5 cI cZ bf pw hs lo lg rt nb (nI fi) (nI fo) (nI en) 0 cu ma ++ (wM g0 b0 b1 b2 b3 b4 b5 cI cZ 1 bf pw hs lo lg rt nb (nI fi) (nI fo) (nI en) 1 cu ma ++ wO oj cJ og)) H := hP.sub [0, 1, 2, 3, 4, 5, 6, 8, 9, 10, 11, 12, 13, 14, 7] rfl
    have hD : va_D A (wC h0 a0 a1 a2 a3 a4 a5 cI cZ bf pw hs lo lg rt nb (nI fi) (nI fo) (nI en) 0 cu ma ++ (wM g0 b0 b1 b2 b3 b4 b5 cI cZ 1 bf pw hs lo lg rt nb (nI fi) (nI fo) (nI en) 1 cu ma ++ wO oj cJ og)) := hD.sub [0, 1, 2, 3, 4, 5, 6, 8, 9, 10, 11, 12, 13, 14, 7] (by decide) rfl
    refine lv_iload hx hb dL_law_802 (lv_at hl 1 rfl) ?_
    refine lv_icmp_eq (tgt := 809) hx hb dL_law_804 (by decide) (fun c_804 => ?_) (fun c_804 => absurd (by decide) c_804)
    refine lv_iload hx hb dL_law_809 (lv_at hl 1 rfl) ?_
    refine lv_if_ne (tgt := 833) hx hb dL_law_811 (by decide) (fun c_811 => ?_) (fun c_811 => absurd c_811 (by decide))
    refine lv_goto (tgt := 1176) hx hb dL_law_833 (by decide) ?_
    refine W.widen (k := 15 + (j9 + 1)) (n := 199844 + 6 * (j9 + 1)) (by omega) (by omega) ?_
    refine lv_iinc (v := nI (4 * (j9 + 1))) (lv' := [(4, .int (nI (4 * (j9 + 1)))), (6, .int 0), (5, .int 1), (0, .ref b), (1, .ref h0), (2, .ref g0), (3, .ref oj)]) hx hb dL_law_1176 hl (k := 6) rfl (nI_add (4 * j9) 4) (by decide) rfl (fun ls hl => ?_)
    refine lv_goto (tgt := 23) hx hb dL_law_1179 (by decide) ?_
    exact IH bf pw hs lo lg rt nb fi fo en 0 1 cu ma 1 og _ _ _ (Or.inl ⟨rfl, rfl⟩) (by omega) (by omega) (by omega) hcu hP hD hS (lv_sub hl [3, 4, 5, 6, 0] rfl)
  · rcases ix_cases x 4 (by omega) with h | ⟨k, hk, rfl⟩
    · have hP : va_P D vwCl (wC h0 a0 a1 a2 a3 a4 a5 cI cZ bf pw hs lo lg rt nb (nI fi) (nI fo) (nI en) 1 cu ma ++ (wM g0 b0 b1 b2 b3 b4 b5 cI cZ th bf pw hs lo lg rt nb (nI fi) (nI fo) (nI en) 0 cu ma ++ wO oj cJ og)) H := hP
      have hD : va_D A (wC h0 a0 a1 a2 a3 a4 a5 cI cZ bf pw hs lo lg rt nb (nI fi) (nI fo) (nI en) 1 cu ma ++ (wM g0 b0 b1 b2 b3 b4 b5 cI cZ th bf pw hs lo lg rt nb (nI fi) (nI fo) (nI en) 0 cu ma ++ wO oj cJ og)) := hD
      refine lv_aload_n hx hb dL_law_761 rfl (lv_at hl 1 rfl) ?_
      refine lv_aload_n hx hb dL_law_762 rfl (lv_at hl 0 rfl) ?_
      refine lv_iload hx hb dL_law_763 (lv_at hl 4 rfl) ?_
      refine lv_iconst (v := (nI 1)) hx hb dL_law_765 (by decide) ?_
      refine n_iadd hx hb dL_law_766 ?_
      refine n_sld hx hb hX hbl hbA hS (4 * j9 + 1) (by omega) (by omega) (x) ex dL_law_767 ?_
      refine lv_aload_n hx hb dL_law_768 rfl (lv_at hl 0 rfl) ?_
      refine lv_iload hx hb dL_law_769 (lv_at hl 4 rfl) ?_
      refine lv_iconst (v := (nI 2)) hx hb dL_law_771 (by decide) ?_
      refine n_iadd hx hb dL_law_772 ?_
      refine n_sld hx hb hX hbl hbA hS (4 * j9 + 2) (by omega) (by omega) (y) ey dL_law_773 ?_
      refine lv_aload_n hx hb dL_law_774 rfl (lv_at hl 3 rfl) ?_
      refine k_I (wr := wM g0 b0 b1 b2 b3 b4 b5 cI cZ th bf pw hs lo lg rt nb (nI fi) (nI fo) (nI en) 0 cu ma) hP hD hS hA (vx_runSW (As := [.ref h0, .int x, .int y, .ref oj]) (rest := []) ⟨hx, hb, hml, hown, hts⟩ (tL_setRoot_xb hl0 bf pw hs lo lg rt nb fi fo en cu ma x y h oj og _) (vx_cwSW 4 hts gL_law_L_setRoot rfl rfl rfl (by decide +kernel) ⟨Nat.le_of_ble_eq_true rfl, Nat.le_of_ble_eq_true rfl⟩) (pS_X hP hD hK hS hA hT [0, 1, 2] rfl [0, 1, 2, 3, 4, 5, 6, 14] rfl rfl) rfl rfl hl.1 rfl (lv_room (Nat.le_of_ble_eq_true rfl)) dL_law_775 hc1) [0, 1, 2, 3, 4, 5, 6, 14] [7, 8, 9, 10, 11, 12, 13] rfl rfl rfl (by decide) (fun H locs hP hD hS => ?_)
      have hP : va_P D vwCl (wC h0 a0 a1 a2 a3 a4 a5 cI cZ bf pw hs lo lg rt nb (nI fi) (nI fo) (nI en) 1 cu ma ++ (wM g0 b0 b1 b2 b3 b4 b5 cI cZ th bf pw hs lo lg rt nb (nI fi) (nI fo) (nI en) 0 cu ma ++ wO oj cJ og)) H := hP.sub [7, 8, 9, 10, 11, 12, 13, 0, 1, 2, 3, 4, 5, 6, 14] rfl
      have hD : va_D A (wC h0 a0 a1 a2 a3 a4 a5 cI cZ bf pw hs lo lg rt nb (nI fi) (nI fo) (nI en) 1 cu ma ++ (wM g0 b0 b1 b2 b3 b4 b5 cI cZ th bf pw hs lo lg rt nb (nI fi) (nI fo) (nI en) 0 cu ma ++ wO oj cJ og)) := hD.sub [7, 8, 9, 10, 11, 12, 13, 0, 1, 2, 3, 4, 5, 6, 14] (by decide) rfl
      refine lv_istore (lv' := [(5, .int 2), (0, .ref b), (1, .ref h0), (2, .ref g0), (3, .ref oj), (4, .int (nI (4 * j9)))]) hx hb dL_law_778 hl (by decide) rfl (fun ls hl => ?_)
      refine lv_aload_n hx hb dL_law_780 rfl (lv_at hl 3 rfl) ?_
      refine lv_aload_n hx hb dL_law_781 rfl (lv_at hl 1 rfl) ?_
      refine lv_iload hx hb dL_law_782 (lv_at hl 5 rfl) ?_
      refine lv_iconst (v := (nI 1)) hx hb dL_law_784 (by decide) ?_
      refine n_iadd hx hb dL_law_785 ?_
      refine n_sld hx hb hX hbl hbA hS (4 * j9 + 1) (by omega) (by omega) (x) ex dL_law_786 ?_
      refine lv_aload_n hx hb dL_law_787 rfl (lv_at hl 1 rfl) ?_
      refine lv_iload hx hb dL_law_788 (lv_at hl 5 rfl) ?_
      refine lv_iconst (v := (nI 2)) hx hb dL_law_790 (by decide) ?_
      refine n_iadd hx hb dL_law_791 ?_
      refine n_sld hx hb hX hbl hbA hS (4 * j9 + 2) (by omega) (by omega) (y) ey dL_law_792 ?_
      refine k_I (wr := wC h0 a0 a1 a2 a3 a4 a5 cI cZ bf pw hs lo lg rt nb (nI fi) (nI fo) (nI en) 1 cu ma ++ wO oj cJ og) hP hD hS hA (va_runV (As := [.int x, .int y]) (rest := []) ⟨hx, hb, hml, hown, hts⟩ (tX1_setRoot_xb th bf pw hs lo lg rt nb fi fo en cu ma x y h _) (cwV 2 hts gL_law_X1_setRoot rfl rfl rfl (by decide +kernel) ⟨Nat.le_of_ble_eq_true rfl, Nat.le_of_ble_eq_true rfl⟩) (pV_B hP hD hK (ci := 1) (q0 := 7) rfl rfl rfl [0, 1] rfl [7, 8, 9, 10, 11, 12, 13] rfl rfl) rfl rfl hl.1 rfl (lv_room (Nat.le_of_ble_eq_true rfl)) dL_law_793 hc9) [7, 8, 9, 10, 11, 12, 13] [0, 1, 2, 3, 4, 5, 6, 14] rfl rfl rfl (by decide) (fun H locs hP hD hS => ?_)
      have hP : va_P D vwCl (wC h0 a0 a1 a2 a3 a4 a5 cI cZ bf pw hs lo lg rt nb (nI fi) (nI fo) (nI en) 1 cu ma ++ (wM g0 b0 b1 b2 b3 b4 b5 cI cZ 2 bf pw hs lo lg rt nb (nI fi) (nI fo) (nI en) 0 cu ma ++ wO oj cJ og)) H := hP.sub [0, 1, 2, 3, 4, 5, 6, 8, 9, 10, 11, 12, 13, 14, 7] rfl
      have hD : va_D A (wC h0 a0 a1 a2 a3 a4 a5 cI cZ bf pw hs lo lg rt nb (nI fi) (nI fo) (nI en) 1 cu ma ++ (wM g0 b0 b1 b2 b3 b4 b5 cI cZ 2 bf pw hs lo lg rt nb (nI fi) (nI fo) (nI en) 0 cu ma ++ wO oj cJ og)) := hD.sub [0, 1, 2, 3, 4, 5, 6, 8, 9, 10, 11, 12, 13, 14, 7] (by decide) rfl
      refine lv_istore (lv' := [(6, .int 0), (5, .int 2), (0, .ref b), (1, .ref h0), (2, .ref g0), (3, .ref oj), (4, .int (nI (4 * j9)))]) hx hb dL_law_796 hl (by decide) rfl (fun ls hl => ?_)
      refine lv_aload_n hx hb dL_law_798 rfl (lv_at hl 4 rfl) ?_
      refine k_I (wr := wC h0 a0 a1 a2 a3 a4 a5 cI cZ bf pw hs lo lg rt nb (nI fi) (nI fo) (nI en) 1 cu ma ++ wO oj cJ og) hP hD hS hA (va_runV (As := []) (rest := []) ⟨hx, hb, hml, hown, hts⟩ (tX1_thrown 2 bf pw hs lo lg rt nb fi fo en 0 cu ma _) (cwV 0 hts gL_law_X1_thrown rfl rfl rfl (by decide +kernel) ⟨Nat.le_of_ble_eq_true rfl, Nat.le_of_ble_eq_true rfl⟩) (pV_B hP hD hK (ci := 1) (q0 := 7) rfl rfl rfl [0, 1] rfl [7, 8, 9, 10, 11, 12, 13] rfl rfl) rfl rfl hl.1 rfl (lv_room (Nat.le_of_ble_eq_true rfl)) dL_law_799 hc9) [7, 8, 9, 10, 11, 12, 13] [0, 1, 2, 3, 4, 5, 6, 14] rfl rfl rfl (by decide) (fun H locs hP hD hS => ?_)
      have hP : va_P D vwCl (wC h0 a0 a1 a2 a3 a4 a5 cI cZ bf pw hs lo lg rt nb (nI fi) (nI fo) (nI en) 1 cu ma ++ (wM g0 b0 b1 b2 b3 b4 b5 cI cZ 2 bf pw hs lo lg rt nb (nI fi) (nI fo) (nI en) 0 cu ma ++ wO oj cJ og)) H := hP.sub [0, 1, 2, 3, 4, 5, 6, 8, 9, 10, 11, 12, 13, 14, 7] rfl
      have hD : va_D A (wC h0 a0 a1 a2 a3 a4 a5 cI cZ bf pw hs lo lg rt nb (nI fi) (nI fo) (nI en) 1 cu ma ++ (wM g0 b0 b1 b2 b3 b4 b5 cI cZ 2 bf pw hs lo lg rt nb (nI fi) (nI fo) (nI en) 0 cu ma ++ wO oj cJ og)) := hD.sub [0, 1, 2, 3, 4, 5, 6, 8, 9, 10, 11, 12, 13, 14, 7] (by decide) rfl
      refine lv_iload hx hb dL_law_802 (lv_at hl 1 rfl) ?_
      refine lv_icmp_eq (tgt := 809) hx hb dL_law_804 (by decide) (fun c_804 => ?_) (fun c_804 => absurd (by decide) c_804)
      refine lv_iload hx hb dL_law_809 (lv_at hl 1 rfl) ?_
      refine lv_if_ne (tgt := 833) hx hb dL_law_811 (by decide) (fun c_811 => ?_) (fun c_811 => absurd c_811 (by decide))
      refine lv_goto (tgt := 1176) hx hb dL_law_833 (by decide) ?_
      refine W.widen (k := 15 + (j9 + 1)) (n := 199844 + 6 * (j9 + 1)) (by omega) (by omega) ?_
      refine lv_iinc (v := nI (4 * (j9 + 1))) (lv' := [(4, .int (nI (4 * (j9 + 1)))), (6, .int 0), (5, .int 2), (0, .ref b), (1, .ref h0), (2, .ref g0), (3, .ref oj)]) hx hb dL_law_1176 hl (k := 6) rfl (nI_add (4 * j9) 4) (by decide) rfl (fun ls hl => ?_)
      refine lv_goto (tgt := 23) hx hb dL_law_1179 (by decide) ?_
      exact IH bf pw hs lo lg rt nb fi fo en 1 0 cu ma 2 og _ _ _ (Or.inr ⟨rfl, rfl⟩) (by omega) (by omega) (by omega) hcu hP hD hS (lv_sub hl [3, 4, 5, 6, 0] rfl)
    · by_cases h : cu = 0
      · have hP : va_P D vwCl (wC h0 a0 a1 a2 a3 a4 a5 cI cZ bf pw hs lo lg rt nb (nI fi) (nI fo) (nI en) 1 cu ma ++ (wM g0 b0 b1 b2 b3 b4 b5 cI cZ th bf pw hs lo lg rt nb (nI fi) (nI fo) (nI en) 0 cu ma ++ wO oj cJ og)) H := hP
        have hD : va_D A (wC h0 a0 a1 a2 a3 a4 a5 cI cZ bf pw hs lo lg rt nb (nI fi) (nI fo) (nI en) 1 cu ma ++ (wM g0 b0 b1 b2 b3 b4 b5 cI cZ th bf pw hs lo lg rt nb (nI fi) (nI fo) (nI en) 0 cu ma ++ wO oj cJ og)) := hD
        refine lv_aload_n hx hb dL_law_761 rfl (lv_at hl 1 rfl) ?_
        refine lv_aload_n hx hb dL_law_762 rfl (lv_at hl 0 rfl) ?_
        refine lv_iload hx hb dL_law_763 (lv_at hl 4 rfl) ?_
        refine lv_iconst (v := (nI 1)) hx hb dL_law_765 (by decide) ?_
        refine n_iadd hx hb dL_law_766 ?_
        refine n_sld hx hb hX hbl hbA hS (4 * j9 + 1) (by omega) (by omega) ((nI k)) ex dL_law_767 ?_
        refine lv_aload_n hx hb dL_law_768 rfl (lv_at hl 0 rfl) ?_
        refine lv_iload hx hb dL_law_769 (lv_at hl 4 rfl) ?_
        refine lv_iconst (v := (nI 2)) hx hb dL_law_771 (by decide) ?_
        refine n_iadd hx hb dL_law_772 ?_
        refine n_sld hx hb hX hbl hbA hS (4 * j9 + 2) (by omega) (by omega) (y) ey dL_law_773 ?_
        refine lv_aload_n hx hb dL_law_774 rfl (lv_at hl 3 rfl) ?_
        refine k_I (wr := wM g0 b0 b1 b2 b3 b4 b5 cI cZ th bf pw hs lo lg rt nb (nI fi) (nI fo) (nI en) 0 cu ma) hP hD hS hA (vx_runSW (As := [.ref h0, .int (nI k), .int y, .ref oj]) (rest := []) ⟨hx, hb, hml, hown, hts⟩ (tL_setRoot_cut hl0 bf pw hs lo lg rt nb fi fo en cu ma k hk y h oj og _) (vx_cwSW 4 hts gL_law_L_setRoot rfl rfl rfl (by decide +kernel) ⟨Nat.le_of_ble_eq_true rfl, Nat.le_of_ble_eq_true rfl⟩) (pS_X hP hD hK hS hA hT [0, 1, 2] rfl [0, 1, 2, 3, 4, 5, 6, 14] rfl rfl) rfl rfl hl.1 rfl (lv_room (Nat.le_of_ble_eq_true rfl)) dL_law_775 hc1) [0, 1, 2, 3, 4, 5, 6, 14] [7, 8, 9, 10, 11, 12, 13] rfl rfl rfl (by decide) (fun H locs hP hD hS => ?_)
        have hP : va_P D vwCl (wC h0 a0 a1 a2 a3 a4 a5 cI cZ (zf bf) pw hs lo lg rt nb (nI fi) (nI fo) (nI fo) 0 cu ma ++ (wM g0 b0 b1 b2 b3 b4 b5 cI cZ th bf pw hs lo lg rt nb (nI fi) (nI fo) (nI en) 0 cu ma ++ wO oj cJ (vp_updL og 0 0))) H := hP.sub [7, 8, 9, 10, 11, 12, 13, 0, 1, 2, 3, 4, 5, 6, 14] rfl
        have hD : va_D A (wC h0 a0 a1 a2 a3 a4 a5 cI cZ (zf bf) pw hs lo lg rt nb (nI fi) (nI fo) (nI fo) 0 cu ma ++ (wM g0 b0 b1 b2 b3 b4 b5 cI cZ th bf pw hs lo lg rt nb (nI fi) (nI fo) (nI en) 0 cu ma ++ wO oj cJ (vp_updL og 0 0))) := hD.sub [7, 8, 9, 10, 11, 12, 13, 0, 1, 2, 3, 4, 5, 6, 14] (by decide) rfl
        refine lv_istore (lv' := [(5, .int 0), (0, .ref b), (1, .ref h0), (2, .ref g0), (3, .ref oj), (4, .int (nI (4 * j9)))]) hx hb dL_law_778 hl (by decide) rfl (fun ls hl => ?_)
        refine lv_aload_n hx hb dL_law_780 rfl (lv_at hl 3 rfl) ?_
        refine lv_aload_n hx hb dL_law_781 rfl (lv_at hl 1 rfl) ?_
        refine lv_iload hx hb dL_law_782 (lv_at hl 5 rfl) ?_
        refine lv_iconst (v := (nI 1)) hx hb dL_law_784 (by decide) ?_
        refine n_iadd hx hb dL_law_785 ?_
        refine n_sld hx hb hX hbl hbA hS (4 * j9 + 1) (by omega) (by omega) ((nI k)) ex dL_law_786 ?_
        refine lv_aload_n hx hb dL_law_787 rfl (lv_at hl 1 rfl) ?_
        refine lv_iload hx hb dL_law_788 (lv_at hl 5 rfl) ?_
        refine lv_iconst (v := (nI 2)) hx hb dL_law_790 (by decide) ?_
        refine n_iadd hx hb dL_law_791 ?_
        refine n_sld hx hb hX hbl hbA hS (4 * j9 + 2) (by omega) (by omega) (y) ey dL_law_792 ?_
        refine k_I (wr := wC h0 a0 a1 a2 a3 a4 a5 cI cZ (zf bf) pw hs lo lg rt nb (nI fi) (nI fo) (nI fo) 0 cu ma ++ wO oj cJ (vp_updL og 0 0)) hP hD hS hA (va_runV (As := [.int (nI k), .int y]) (rest := []) ⟨hx, hb, hml, hown, hts⟩ (tX1_setRoot_cut th bf pw hs lo lg rt nb fi fo en cu ma k hk y h _) (cwV 2 hts gL_law_X1_setRoot rfl rfl rfl (by decide +kernel) ⟨Nat.le_of_ble_eq_true rfl, Nat.le_of_ble_eq_true rfl⟩) (pV_B hP hD hK (ci := 1) (q0 := 7) rfl rfl rfl [0, 1] rfl [7, 8, 9, 10, 11, 12, 13] rfl rfl) rfl rfl hl.1 rfl (lv_room (Nat.le_of_ble_eq_true rfl)) dL_law_793 hc9) [7, 8, 9, 10, 11, 12, 13] [0, 1, 2, 3, 4, 5, 6, 14] rfl rfl rfl (by decide) (fun H locs hP hD hS => ?_)
        have hP : va_P D vwCl (wC h0 a0 a1 a2 a3 a4 a5 cI cZ (zf bf) pw hs lo lg rt nb (nI fi) (nI fo) (nI fo) 0 cu ma ++ (wM g0 b0 b1 b2 b3 b4 b5 cI cZ 0 (zf bf) pw hs lo lg rt nb (nI fi) (nI fo) (nI fo) 1 cu ma ++ wO oj cJ (vp_updL og 0 0))) H := hP.sub [0, 1, 2, 3, 4, 5, 6, 8, 9, 10, 11, 12, 13, 14, 7] rfl
        have hD : va_D A (wC h0 a0 a1 a2 a3 a4 a5 cI cZ (zf bf) pw hs lo lg rt nb (nI fi) (nI fo) (nI fo) 0 cu ma ++ (wM g0 b0 b1 b2 b3 b4 b5 cI cZ 0 (zf bf) pw hs lo lg rt nb (nI fi) (nI fo) (nI fo) 1 cu ma ++ wO oj cJ (vp_updL og 0 0))) := hD.sub [0, 1, 2, 3, 4, 5, 6, 8, 9, 10, 11, 12, 13, 14, 7] (by decide) rfl
        refine lv_istore (lv' := [(6, .int 0), (5, .int 0), (0, .ref b), (1, .ref h0), (2, .ref g0), (3, .ref oj), (4, .int (nI (4 * j9)))]) hx hb dL_law_796 hl (by decide) rfl (fun ls hl => ?_)
        refine lv_aload_n hx hb dL_law_798 rfl (lv_at hl 4 rfl) ?_
        refine k_I (wr := wC h0 a0 a1 a2 a3 a4 a5 cI cZ (zf bf) pw hs lo lg rt nb (nI fi) (nI fo) (nI fo) 0 cu ma ++ wO oj cJ (vp_updL og 0 0)) hP hD hS hA (va_runV (As := []) (rest := []) ⟨hx, hb, hml, hown, hts⟩ (tX1_thrown 0 (zf bf) pw hs lo lg rt nb fi fo fo 1 cu ma _) (cwV 0 hts gL_law_X1_thrown rfl rfl rfl (by decide +kernel) ⟨Nat.le_of_ble_eq_true rfl, Nat.le_of_ble_eq_true rfl⟩) (pV_B hP hD hK (ci := 1) (q0 := 7) rfl rfl rfl [0, 1] rfl [7, 8, 9, 10, 11, 12, 13] rfl rfl) rfl rfl hl.1 rfl (lv_room (Nat.le_of_ble_eq_true rfl)) dL_law_799 hc9) [7, 8, 9, 10, 11, 12, 13] [0, 1, 2, 3, 4, 5, 6, 14] rfl rfl rfl (by decide) (fun H locs hP hD hS => ?_)
        have hP : va_P D vwCl (wC h0 a0 a1 a2 a3 a4 a5 cI cZ (zf bf) pw hs lo lg rt nb (nI fi) (nI fo) (nI fo) 0 cu ma ++ (wM g0 b0 b1 b2 b3 b4 b5 cI cZ 0 (zf bf) pw hs lo lg rt nb (nI fi) (nI fo) (nI fo) 1 cu ma ++ wO oj cJ (vp_updL og 0 0))) H := hP.sub [0, 1, 2, 3, 4, 5, 6, 8, 9, 10, 11, 12, 13, 14, 7] rfl
        have hD : va_D A (wC h0 a0 a1 a2 a3 a4 a5 cI cZ (zf bf) pw hs lo lg rt nb (nI fi) (nI fo) (nI fo) 0 cu ma ++ (wM g0 b0 b1 b2 b3 b4 b5 cI cZ 0 (zf bf) pw hs lo lg rt nb (nI fi) (nI fo) (nI fo) 1 cu ma ++ wO oj cJ (vp_updL og 0 0))) := hD.sub [0, 1, 2, 3, 4, 5, 6, 8, 9, 10, 11, 12, 13, 14, 7] (by decide) rfl
        refine lv_iload hx hb dL_law_802 (lv_at hl 1 rfl) ?_
        refine lv_icmp_eq (tgt := 809) hx hb dL_law_804 (by decide) (fun c_804 => ?_) (fun c_804 => absurd (by decide) c_804)
        refine lv_iload hx hb dL_law_809 (lv_at hl 1 rfl) ?_
        refine lv_if_ne (tgt := 833) hx hb dL_law_811 (by decide) (fun c_811 => absurd (by decide) c_811) (fun c_811 => ?_)
        refine lv_aload_n hx hb dL_law_814 rfl (lv_at hl 5 rfl) ?_
        refine lv_iconst (v := (nI 0)) hx hb dL_law_815 (by decide) ?_
        refine n_lald hx hb hK hP 14 2 rfl rfl 0 (by omega) (by omega) dL_law_816 ?_
        refine lv_iload hx hb dL_law_817 (lv_at hl 0 rfl) ?_
        refine lv_if_eq (tgt := 826) hx hb dL_law_819 (by decide) (fun c_819 => ?_) (fun c_819 => absurd (by decide) c_819)
        refine lv_lconst (v := 0) hx hb dL_law_826 (by decide) ?_
        refine W.lcmp hx hb dL_law_827 ?_
        refine lv_if_eq (tgt := 833) hx hb dL_law_828 (by decide) (fun c_828 => ?_) (fun c_828 => absurd (by rw [pk_uLs]; exact lg_self _) c_828)
        refine lv_goto (tgt := 1176) hx hb dL_law_833 (by decide) ?_
        refine W.widen (k := 15 + (j9 + 1)) (n := 199844 + 6 * (j9 + 1)) (by omega) (by omega) ?_
        refine lv_iinc (v := nI (4 * (j9 + 1))) (lv' := [(4, .int (nI (4 * (j9 + 1)))), (6, .int 0), (5, .int 0), (0, .ref b), (1, .ref h0), (2, .ref g0), (3, .ref oj)]) hx hb dL_law_1176 hl (k := 6) rfl (nI_add (4 * j9) 4) (by decide) rfl (fun ls hl => ?_)
        refine lv_goto (tgt := 23) hx hb dL_law_1179 (by decide) ?_
        exact IH (zf bf) pw hs lo lg rt nb fi fo fo 0 1 cu ma 0 (vp_updL og 0 0) _ _ _ (Or.inl ⟨rfl, rfl⟩) (by omega) (by omega) (by omega) hcu hP hD hS (lv_sub hl [3, 4, 5, 6, 0] rfl)
      · have hP : va_P D vwCl (wC h0 a0 a1 a2 a3 a4 a5 cI cZ bf pw hs lo lg rt nb (nI fi) (nI fo) (nI en) 1 cu ma ++ (wM g0 b0 b1 b2 b3 b4 b5 cI cZ th bf pw hs lo lg rt nb (nI fi) (nI fo) (nI en) 0 cu ma ++ wO oj cJ og)) H := hP
        have hD : va_D A (wC h0 a0 a1 a2 a3 a4 a5 cI cZ bf pw hs lo lg rt nb (nI fi) (nI fo) (nI en) 1 cu ma ++ (wM g0 b0 b1 b2 b3 b4 b5 cI cZ th bf pw hs lo lg rt nb (nI fi) (nI fo) (nI en) 0 cu ma ++ wO oj cJ og)) := hD
        refine lv_aload_n hx hb dL_law_761 rfl (lv_at hl 1 rfl) ?_
        refine lv_aload_n hx hb dL_law_762 rfl (lv_at hl 0 rfl) ?_
        refine lv_iload hx hb dL_law_763 (lv_at hl 4 rfl) ?_
        refine lv_iconst (v := (nI 1)) hx hb dL_law_765 (by decide) ?_
        refine n_iadd hx hb dL_law_766 ?_
        refine n_sld hx hb hX hbl hbA hS (4 * j9 + 1) (by omega) (by omega) ((nI k)) ex dL_law_767 ?_
        refine lv_aload_n hx hb dL_law_768 rfl (lv_at hl 0 rfl) ?_
        refine lv_iload hx hb dL_law_769 (lv_at hl 4 rfl) ?_
        refine lv_iconst (v := (nI 2)) hx hb dL_law_771 (by decide) ?_
        refine n_iadd hx hb dL_law_772 ?_
        refine n_sld hx hb hX hbl hbA hS (4 * j9 + 2) (by omega) (by omega) (y) ey dL_law_773 ?_
        refine lv_aload_n hx hb dL_law_774 rfl (lv_at hl 3 rfl) ?_
        refine k_I (wr := wM g0 b0 b1 b2 b3 b4 b5 cI cZ th bf pw hs lo lg rt nb (nI fi) (nI fo) (nI en) 0 cu ma) hP hD hS hA (vx_runSW (As := [.ref h0, .int (nI k), .int y, .ref oj]) (rest := []) ⟨hx, hb, hml, hown, hts⟩ (tL_setRoot_ok hl0 bf pw hs lo lg rt nb fi fo en cu ma k hk y h oj og _) (vx_cwSW 4 hts gL_law_L_setRoot rfl rfl rfl (by decide +kernel) ⟨Nat.le_of_ble_eq_true rfl, Nat.le_of_ble_eq_true rfl⟩) (pS_X hP hD hK hS hA hT [0, 1, 2] rfl [0, 1, 2, 3, 4, 5, 6, 14] rfl rfl) rfl rfl hl.1 rfl (lv_room (Nat.le_of_ble_eq_true rfl)) dL_law_775 hc1) [0, 1, 2, 3, 4, 5, 6, 14] [7, 8, 9, 10, 11, 12, 13] rfl rfl rfl (by decide) (fun H locs hP hD hS => ?_)
        have hP : va_P D vwCl (wC h0 a0 a1 a2 a3 a4 a5 cI cZ bf pw hs lo lg (upd rt k y) nb (nI fi) (nI fo) (nI en) 1 (dcu cu) (ma + 1) ++ (wM g0 b0 b1 b2 b3 b4 b5 cI cZ th bf pw hs lo lg rt nb (nI fi) (nI fo) (nI en) 0 cu ma ++ wO oj cJ (vp_updL og 0 1))) H := hP.sub [7, 8, 9, 10, 11, 12, 13, 0, 1, 2, 3, 4, 5, 6, 14] rfl
        have hD : va_D A (wC h0 a0 a1 a2 a3 a4 a5 cI cZ bf pw hs lo lg (upd rt k y) nb (nI fi) (nI fo) (nI en) 1 (dcu cu) (ma + 1) ++ (wM g0 b0 b1 b2 b3 b4 b5 cI cZ th bf pw hs lo lg rt nb (nI fi) (nI fo) (nI en) 0 cu ma ++ wO oj cJ (vp_updL og 0 1))) := hD.sub [7, 8, 9, 10, 11, 12, 13, 0, 1, 2, 3, 4, 5, 6, 14] (by decide) rfl
        refine lv_istore (lv' := [(5, .int 0), (0, .ref b), (1, .ref h0), (2, .ref g0), (3, .ref oj), (4, .int (nI (4 * j9)))]) hx hb dL_law_778 hl (by decide) rfl (fun ls hl => ?_)
        refine lv_aload_n hx hb dL_law_780 rfl (lv_at hl 3 rfl) ?_
        refine lv_aload_n hx hb dL_law_781 rfl (lv_at hl 1 rfl) ?_
        refine lv_iload hx hb dL_law_782 (lv_at hl 5 rfl) ?_
        refine lv_iconst (v := (nI 1)) hx hb dL_law_784 (by decide) ?_
        refine n_iadd hx hb dL_law_785 ?_
        refine n_sld hx hb hX hbl hbA hS (4 * j9 + 1) (by omega) (by omega) ((nI k)) ex dL_law_786 ?_
        refine lv_aload_n hx hb dL_law_787 rfl (lv_at hl 1 rfl) ?_
        refine lv_iload hx hb dL_law_788 (lv_at hl 5 rfl) ?_
        refine lv_iconst (v := (nI 2)) hx hb dL_law_790 (by decide) ?_
        refine n_iadd hx hb dL_law_791 ?_
        refine n_sld hx hb hX hbl hbA hS (4 * j9 + 2) (by omega) (by omega) (y) ey dL_law_792 ?_
        refine k_I (wr := wC h0 a0 a1 a2 a3 a4 a5 cI cZ bf pw hs lo lg (upd rt k y) nb (nI fi) (nI fo) (nI en) 1 (dcu cu) (ma + 1) ++ wO oj cJ (vp_updL og 0 1)) hP hD hS hA (va_runV (As := [.int (nI k), .int y]) (rest := []) ⟨hx, hb, hml, hown, hts⟩ (tX1_setRoot_ok th bf pw hs lo lg rt nb fi fo en cu ma k hk y hcu h _) (cwV 2 hts gL_law_X1_setRoot rfl rfl rfl (by decide +kernel) ⟨Nat.le_of_ble_eq_true rfl, Nat.le_of_ble_eq_true rfl⟩) (pV_B hP hD hK (ci := 1) (q0 := 7) rfl rfl rfl [0, 1] rfl [7, 8, 9, 10, 11, 12, 13] rfl rfl) rfl rfl hl.1 rfl (lv_room (Nat.le_of_ble_eq_true rfl)) dL_law_793 hc9) [7, 8, 9, 10, 11, 12, 13] [0, 1, 2, 3, 4, 5, 6, 14] rfl rfl rfl (by decide) (fun H locs hP hD hS => ?_)
        have hP : va_P D vwCl (wC h0 a0 a1 a2 a3 a4 a5 cI cZ bf pw hs lo lg (upd rt k y) nb (nI fi) (nI fo) (nI en) 1 (dcu cu) (ma + 1) ++ (wM g0 b0 b1 b2 b3 b4 b5 cI cZ 0 bf pw hs lo lg (upd rt k y) nb (nI fi) (nI fo) (nI en) 0 (dcu cu) (ma + 1) ++ wO oj cJ (vp_updL og 0 1))) H := hP.sub [0, 1, 2, 3, 4, 5, 6, 8, 9, 10, 11, 12, 13, 14, 7] rfl
        have hD : va_D A (wC h0 a0 a1 a2 a3 a4 a5 cI cZ bf pw hs lo lg (upd rt k y) nb (nI fi) (nI fo) (nI en) 1 (dcu cu) (ma + 1) ++ (wM g0 b0 b1 b2 b3 b4 b5 cI cZ 0 bf pw hs lo lg (upd rt k y) nb (nI fi) (nI fo) (nI en) 0 (dcu cu) (ma + 1) ++ wO oj cJ (vp_updL og 0 1))) := hD.sub [0, 1, 2, 3, 4, 5, 6, 8, 9, 10, 11, 12, 13, 14, 7] (by decide) rfl
        refine lv_istore (lv' := [(6, .int 1), (5, .int 0), (0, .ref b), (1, .ref h0), (2, .ref g0), (3, .ref oj), (4, .int (nI (4 * j9)))]) hx hb dL_law_796 hl (by decide) rfl (fun ls hl => ?_)
        refine lv_aload_n hx hb dL_law_798 rfl (lv_at hl 4 rfl) ?_
        refine k_I (wr := wC h0 a0 a1 a2 a3 a4 a5 cI cZ bf pw hs lo lg (upd rt k y) nb (nI fi) (nI fo) (nI en) 1 (dcu cu) (ma + 1) ++ wO oj cJ (vp_updL og 0 1)) hP hD hS hA (va_runV (As := []) (rest := []) ⟨hx, hb, hml, hown, hts⟩ (tX1_thrown 0 bf pw hs lo lg (upd rt k y) nb fi fo en 0 (dcu cu) (ma + 1) _) (cwV 0 hts gL_law_X1_thrown rfl rfl rfl (by decide +kernel) ⟨Nat.le_of_ble_eq_true rfl, Nat.le_of_ble_eq_true rfl⟩) (pV_B hP hD hK (ci := 1) (q0 := 7) rfl rfl rfl [0, 1] rfl [7, 8, 9, 10, 11, 12, 13] rfl rfl) rfl rfl hl.1 rfl (lv_room (Nat.le_of_ble_eq_true rfl)) dL_law_799 hc9) [7, 8, 9, 10, 11, 12, 13] [0, 1, 2, 3, 4, 5, 6, 14] rfl rfl rfl (by decide) (fun H locs hP hD hS => ?_)
        have hP : va_P D vwCl (wC h0 a0 a1 a2 a3 a4 a5 cI cZ bf pw hs lo lg (upd rt k y) nb (nI fi) (nI fo) (nI en) 1 (dcu cu) (ma + 1) ++ (wM g0 b0 b1 b2 b3 b4 b5 cI cZ 0 bf pw hs lo lg (upd rt k y) nb (nI fi) (nI fo) (nI en) 0 (dcu cu) (ma + 1) ++ wO oj cJ (vp_updL og 0 1))) H := hP.sub [0, 1, 2, 3, 4, 5, 6, 8, 9, 10, 11, 12, 13, 14, 7] rfl
        have hD : va_D A (wC h0 a0 a1 a2 a3 a4 a5 cI cZ bf pw hs lo lg (upd rt k y) nb (nI fi) (nI fo) (nI en) 1 (dcu cu) (ma + 1) ++ (wM g0 b0 b1 b2 b3 b4 b5 cI cZ 0 bf pw hs lo lg (upd rt k y) nb (nI fi) (nI fo) (nI en) 0 (dcu cu) (ma + 1) ++ wO oj cJ (vp_updL og 0 1))) := hD.sub [0, 1, 2, 3, 4, 5, 6, 8, 9, 10, 11, 12, 13, 14, 7] (by decide) rfl
        refine lv_iload hx hb dL_law_802 (lv_at hl 1 rfl) ?_
        refine lv_icmp_eq (tgt := 809) hx hb dL_law_804 (by decide) (fun c_804 => ?_) (fun c_804 => absurd (by decide) c_804)
        refine lv_iload hx hb dL_law_809 (lv_at hl 1 rfl) ?_
        refine lv_if_ne (tgt := 833) hx hb dL_law_811 (by decide) (fun c_811 => absurd (by decide) c_811) (fun c_811 => ?_)
        refine lv_aload_n hx hb dL_law_814 rfl (lv_at hl 5 rfl) ?_
        refine lv_iconst (v := (nI 0)) hx hb dL_law_815 (by decide) ?_
        refine n_lald hx hb hK hP 14 2 rfl rfl 0 (by omega) (by omega) dL_law_816 ?_
        refine lv_iload hx hb dL_law_817 (lv_at hl 0 rfl) ?_
        refine lv_if_eq (tgt := 826) hx hb dL_law_819 (by decide) (fun c_819 => absurd c_819 (by decide)) (fun c_819 => ?_)
        refine lv_lconst (v := 1) hx hb dL_law_822 (by decide) ?_
        refine lv_goto (tgt := 827) hx hb dL_law_823 (by decide) ?_
        refine W.lcmp hx hb dL_law_827 ?_
        refine lv_if_eq (tgt := 833) hx hb dL_law_828 (by decide) (fun c_828 => ?_) (fun c_828 => absurd (by rw [pk_uLs]; exact lg_self _) c_828)
        refine lv_goto (tgt := 1176) hx hb dL_law_833 (by decide) ?_
        refine W.widen (k := 15 + (j9 + 1)) (n := 199844 + 6 * (j9 + 1)) (by omega) (by omega) ?_
        refine lv_iinc (v := nI (4 * (j9 + 1))) (lv' := [(4, .int (nI (4 * (j9 + 1)))), (6, .int 1), (5, .int 0), (0, .ref b), (1, .ref h0), (2, .ref g0), (3, .ref oj)]) hx hb dL_law_1176 hl (k := 6) rfl (nI_add (4 * j9) 4) (by decide) rfl (fun ls hl => ?_)
        refine lv_goto (tgt := 23) hx hb dL_law_1179 (by decide) ?_
        exact IH bf pw hs lo lg (upd rt k y) nb fi fo en 1 0 (dcu cu) (ma + 1) 0 (vp_updL og 0 1) _ _ _ (Or.inr ⟨rfl, rfl⟩) (by omega) (by omega) (by omega) (dcu_ge h hcu) hP hD hS (lv_sub hl [3, 4, 5, 6, 0] rfl)
set_option maxHeartbeats 4000000 in
set_option maxRecDepth 100000 in
theorem lo_root {p : Program} {l : Launch} {e : Env} {s : State} {m : MethodId} {below : List Frame} {meth : Method} {c : Code} {Q : State → Prop} {D : va_G} {A : Nat → Prop} {cI cZ cJ : ClassId} {b L : Nat} {xs : Nat → Int32} {h0 a0 a1 a2 a3 a4 a5 g0 b0 b1 b2 b3 b4 b5 oj : Nat} (hl0 : l.stackTraces = false) (hx : p.tables.exec = Jvm.exec) (hb : c.code = code) (hml : c.maxLocals = 7) (hown : s.vm.findClass RL = some m.cls) (hts : ∀ w ∈ wsL_law, w.before #[Value.ref b] s = true) (hX : va_X b L xs s s.heap) (hbl : b < s.heap.size) (hbA : ¬ A b) (hA : ∀ q : Nat, s.heap.size ≤ q → A q) (hK : va_K D vwCl (tyL cI cZ cJ) s) (hT : xT A s s.heap) (hL : L ≤ 2048) (j9 : Nat) (hj : 4 * j9 + 4 ≤ L)
    (IH : lgW p l e s m below meth c Q D A cI cZ cJ b h0 a0 a1 a2 a3 a4 a5 g0 b0 b1 b2 b3 b4 b5 oj (j9 + 1))
    (bf pw hs lo lg rt : Nat → Int32) (nb : Int32) (fi fo en : Nat) (on off cu ma th : Int32) (og : Nat → Int64) (H : Heap) (locs : List Loc) (ls : Array Slot) (hpo : (on = 0 ∧ off = 1) ∨ (on = 1 ∧ off = 0)) (hi1 : fi ≤ fo) (hi2 : fo ≤ en) (hi3 : en ≤ 64 * j9) (hcu : -1 ≤ cu)
    (hP : va_P D vwCl (wA h0 a0 a1 a2 a3 a4 a5 g0 b0 b1 b2 b3 b4 b5 oj cI cZ cJ bf pw hs lo lg rt nb fi fo en on off cu ma th og) H) (hD : va_D A (wA h0 a0 a1 a2 a3 a4 a5 g0 b0 b1 b2 b3 b4 b5 oj cI cZ cJ bf pw hs lo lg rt nb fi fo en on off cu ma th og)) (hS : va_S A s.heap H locs) (hl : lv_has ls 7 [(0, .ref b), (1, .ref h0), (2, .ref g0), (3, .ref oj), (4, .int (nI (4 * j9)))]) :
    W p l e room_1 s m #[Value.ref b] below meth c H locs (15 + j9) (199844 + 6 * j9) Q (F0 m 836 ls []) := by
  have he : en ≤ 60000 := by omega
  have hc0 : 15 + j9 + 0 ≤ room_1.cells ∧ 199844 + 6 * j9 + 0 ≤ room_1.slots := ⟨show 15 + j9 + 0 ≤ 601024 by omega, show 199844 + 6 * j9 + 0 ≤ 7293034 by omega⟩
  have hc1 : 15 + j9 + 1 ≤ room_1.cells ∧ 199844 + 6 * j9 + 6 ≤ room_1.slots := ⟨show 15 + j9 + 1 ≤ 601024 by omega, show 199844 + 6 * j9 + 6 ≤ 7293034 by omega⟩
  have hc9 : 15 + j9 + 1 + 0 ≤ room_1.cells ∧ 199844 + 6 * j9 + 6 + 0 ≤ room_1.slots := hc1
  obtain ⟨x, ex⟩ : ∃ z9, xs (4 * j9 + 1) = z9 := ⟨_, rfl⟩
  rcases ix_cases x 4 (by omega) with h | ⟨k, hk, rfl⟩
  · have hP : va_P D vwCl (wC h0 a0 a1 a2 a3 a4 a5 cI cZ bf pw hs lo lg rt nb (nI fi) (nI fo) (nI en) on cu ma ++ (wM g0 b0 b1 b2 b3 b4 b5 cI cZ th bf pw hs lo lg rt nb (nI fi) (nI fo) (nI en) off cu ma ++ wO oj cJ og)) H := hP
    have hD : va_D A (wC h0 a0 a1 a2 a3 a4 a5 cI cZ bf pw hs lo lg rt nb (nI fi) (nI fo) (nI en) on cu ma ++ (wM g0 b0 b1 b2 b3 b4 b5 cI cZ th bf pw hs lo lg rt nb (nI fi) (nI fo) (nI en) off cu ma ++ wO oj cJ og)) := hD
    refine lv_aload_n hx hb dL_law_836 rfl (lv_at hl 1 rfl) ?_
    refine lv_aload_n hx hb dL_law_837 rfl (lv_at hl 0 rfl) ?_
    refine lv_iload hx hb dL_law_838 (lv_at hl 4 rfl) ?_
    refine lv_iconst (v := (nI 1)) hx hb dL_law_840 (by decide) ?_
    refine n_iadd hx hb dL_law_841 ?_
    refine n_sld hx hb hX hbl hbA hS (4 * j9 + 1) (by omega) (by omega) (x) ex dL_law_842 ?_
    refine lv_aload_n hx hb dL_law_843 rfl (lv_at hl 3 rfl) ?_
    refine k_I (wr := wM g0 b0 b1 b2 b3 b4 b5 cI cZ th bf pw hs lo lg rt nb (nI fi) (nI fo) (nI en) off cu ma) hP hD hS hA (vx_runSW (As := [.ref h0, .int x, .ref oj]) (rest := []) ⟨hx, hb, hml, hown, hts⟩ (tL_root_xb hl0 bf pw hs lo lg rt nb fi fo en on cu ma x h oj og _) (vx_cwSW 3 hts gL_law_L_root rfl rfl rfl (by decide +kernel) ⟨Nat.le_of_ble_eq_true rfl, Nat.le_of_ble_eq_true rfl⟩) (pS_X hP hD hK hS hA hT [0, 1, 2] rfl [0, 1, 2, 3, 4, 5, 6, 14] rfl rfl) rfl rfl hl.1 rfl (lv_room (Nat.le_of_ble_eq_true rfl)) dL_law_844 hc1) [0, 1, 2, 3, 4, 5, 6, 14] [7, 8, 9, 10, 11, 12, 13] rfl rfl rfl (by decide) (fun H locs hP hD hS => ?_)
    have hP : va_P D vwCl (wC h0 a0 a1 a2 a3 a4 a5 cI cZ bf pw hs lo lg rt nb (nI fi) (nI fo) (nI en) on cu ma ++ (wM g0 b0 b1 b2 b3 b4 b5 cI cZ th bf pw hs lo lg rt nb (nI fi) (nI fo) (nI en) off cu ma ++ wO oj cJ og)) H := hP.sub [7, 8, 9, 10, 11, 12, 13, 0, 1, 2, 3, 4, 5, 6, 14] rfl
    have hD : va_D A (wC h0 a0 a1 a2 a3 a4 a5 cI cZ bf pw hs lo lg rt nb (nI fi) (nI fo) (nI en) on cu ma ++ (wM g0 b0 b1 b2 b3 b4 b5 cI cZ th bf pw hs lo lg rt nb (nI fi) (nI fo) (nI en) off cu ma ++ wO oj cJ og)) := hD.sub [7, 8, 9, 10, 11, 12, 13, 0, 1, 2, 3, 4, 5, 6, 14] (by decide) rfl
    refine lv_istore (lv' := [(5, .int 1), (0, .ref b), (1, .ref h0), (2, .ref g0), (3, .ref oj), (4, .int (nI (4 * j9)))]) hx hb dL_law_847 hl (by decide) rfl (fun ls hl => ?_)
    refine lv_aload_n hx hb dL_law_849 rfl (lv_at hl 3 rfl) ?_
    refine lv_aload_n hx hb dL_law_850 rfl (lv_at hl 1 rfl) ?_
    refine lv_iload hx hb dL_law_851 (lv_at hl 5 rfl) ?_
    refine lv_iconst (v := (nI 1)) hx hb dL_law_853 (by decide) ?_
    refine n_iadd hx hb dL_law_854 ?_
    refine n_sld hx hb hX hbl hbA hS (4 * j9 + 1) (by omega) (by omega) (x) ex dL_law_855 ?_
    refine k_I (wr := wC h0 a0 a1 a2 a3 a4 a5 cI cZ bf pw hs lo lg rt nb (nI fi) (nI fo) (nI en) on cu ma ++ wO oj cJ og) hP hD hS hA (va_runV (As := [.int x]) (rest := []) ⟨hx, hb, hml, hown, hts⟩ (tX1_root_xb th bf pw hs lo lg rt nb fi fo en off cu ma x h _) (cwV 1 hts gL_law_X1_root rfl rfl rfl (by decide +kernel) ⟨Nat.le_of_ble_eq_true rfl, Nat.le_of_ble_eq_true rfl⟩) (pV_B hP hD hK (ci := 1) (q0 := 7) rfl rfl rfl [0, 1] rfl [7, 8, 9, 10, 11, 12, 13] rfl rfl) rfl rfl hl.1 rfl (lv_room (Nat.le_of_ble_eq_true rfl)) dL_law_856 hc9) [7, 8, 9, 10, 11, 12, 13] [0, 1, 2, 3, 4, 5, 6, 14] rfl rfl rfl (by decide) (fun H locs hP hD hS => ?_)
    have hP : va_P D vwCl (wC h0 a0 a1 a2 a3 a4 a5 cI cZ bf pw hs lo lg rt nb (nI fi) (nI fo) (nI en) on cu ma ++ (wM g0 b0 b1 b2 b3 b4 b5 cI cZ 1 bf pw hs lo lg rt nb (nI fi) (nI fo) (nI en) off cu ma ++ wO oj cJ og)) H := hP.sub [0, 1, 2, 3, 4, 5, 6, 8, 9, 10, 11, 12, 13, 14, 7] rfl
    have hD : va_D A (wC h0 a0 a1 a2 a3 a4 a5 cI cZ bf pw hs lo lg rt nb (nI fi) (nI fo) (nI en) on cu ma ++ (wM g0 b0 b1 b2 b3 b4 b5 cI cZ 1 bf pw hs lo lg rt nb (nI fi) (nI fo) (nI en) off cu ma ++ wO oj cJ og)) := hD.sub [0, 1, 2, 3, 4, 5, 6, 8, 9, 10, 11, 12, 13, 14, 7] (by decide) rfl
    refine lv_istore (lv' := [(6, .int 0), (5, .int 1), (0, .ref b), (1, .ref h0), (2, .ref g0), (3, .ref oj), (4, .int (nI (4 * j9)))]) hx hb dL_law_859 hl (by decide) rfl (fun ls hl => ?_)
    refine lv_aload_n hx hb dL_law_861 rfl (lv_at hl 4 rfl) ?_
    refine k_I (wr := wC h0 a0 a1 a2 a3 a4 a5 cI cZ bf pw hs lo lg rt nb (nI fi) (nI fo) (nI en) on cu ma ++ wO oj cJ og) hP hD hS hA (va_runV (As := []) (rest := []) ⟨hx, hb, hml, hown, hts⟩ (tX1_thrown 1 bf pw hs lo lg rt nb fi fo en off cu ma _) (cwV 0 hts gL_law_X1_thrown rfl rfl rfl (by decide +kernel) ⟨Nat.le_of_ble_eq_true rfl, Nat.le_of_ble_eq_true rfl⟩) (pV_B hP hD hK (ci := 1) (q0 := 7) rfl rfl rfl [0, 1] rfl [7, 8, 9, 10, 11, 12, 13] rfl rfl) rfl rfl hl.1 rfl (lv_room (Nat.le_of_ble_eq_true rfl)) dL_law_862 hc9) [7, 8, 9, 10, 11, 12, 13] [0, 1, 2, 3, 4, 5, 6, 14] rfl rfl rfl (by decide) (fun H locs hP hD hS => ?_)
    have hP : va_P D vwCl (wC h0 a0 a1 a2 a3 a4 a5 cI cZ bf pw hs lo lg rt nb (nI fi) (nI fo) (nI en) on cu ma ++ (wM g0 b0 b1 b2 b3 b4 b5 cI cZ 1 bf pw hs lo lg rt nb (nI fi) (nI fo) (nI en) off cu ma ++ wO oj cJ og)) H := hP.sub [0, 1, 2, 3, 4, 5, 6, 8, 9, 10, 11, 12, 13, 14, 7] rfl
    have hD : va_D A (wC h0 a0 a1 a2 a3 a4 a5 cI cZ bf pw hs lo lg rt nb (nI fi) (nI fo) (nI en) on cu ma ++ (wM g0 b0 b1 b2 b3 b4 b5 cI cZ 1 bf pw hs lo lg rt nb (nI fi) (nI fo) (nI en) off cu ma ++ wO oj cJ og)) := hD.sub [0, 1, 2, 3, 4, 5, 6, 8, 9, 10, 11, 12, 13, 14, 7] (by decide) rfl
    refine lv_iload hx hb dL_law_865 (lv_at hl 1 rfl) ?_
    refine lv_icmp_eq (tgt := 872) hx hb dL_law_867 (by decide) (fun c_867 => ?_) (fun c_867 => absurd (by decide) c_867)
    refine lv_iload hx hb dL_law_872 (lv_at hl 1 rfl) ?_
    refine lv_if_ne (tgt := 889) hx hb dL_law_874 (by decide) (fun c_874 => ?_) (fun c_874 => absurd c_874 (by decide))
    refine lv_goto (tgt := 1176) hx hb dL_law_889 (by decide) ?_
    refine W.widen (k := 15 + (j9 + 1)) (n := 199844 + 6 * (j9 + 1)) (by omega) (by omega) ?_
    refine lv_iinc (v := nI (4 * (j9 + 1))) (lv' := [(4, .int (nI (4 * (j9 + 1)))), (6, .int 0), (5, .int 1), (0, .ref b), (1, .ref h0), (2, .ref g0), (3, .ref oj)]) hx hb dL_law_1176 hl (k := 6) rfl (nI_add (4 * j9) 4) (by decide) rfl (fun ls hl => ?_)
    refine lv_goto (tgt := 23) hx hb dL_law_1179 (by decide) ?_
    exact IH bf pw hs lo lg rt nb fi fo en on off cu ma 1 og _ _ _ hpo (by omega) (by omega) (by omega) hcu hP hD hS (lv_sub hl [3, 4, 5, 6, 0] rfl)
  · have hP : va_P D vwCl (wC h0 a0 a1 a2 a3 a4 a5 cI cZ bf pw hs lo lg rt nb (nI fi) (nI fo) (nI en) on cu ma ++ (wM g0 b0 b1 b2 b3 b4 b5 cI cZ th bf pw hs lo lg rt nb (nI fi) (nI fo) (nI en) off cu ma ++ wO oj cJ og)) H := hP
    have hD : va_D A (wC h0 a0 a1 a2 a3 a4 a5 cI cZ bf pw hs lo lg rt nb (nI fi) (nI fo) (nI en) on cu ma ++ (wM g0 b0 b1 b2 b3 b4 b5 cI cZ th bf pw hs lo lg rt nb (nI fi) (nI fo) (nI en) off cu ma ++ wO oj cJ og)) := hD
    refine lv_aload_n hx hb dL_law_836 rfl (lv_at hl 1 rfl) ?_
    refine lv_aload_n hx hb dL_law_837 rfl (lv_at hl 0 rfl) ?_
    refine lv_iload hx hb dL_law_838 (lv_at hl 4 rfl) ?_
    refine lv_iconst (v := (nI 1)) hx hb dL_law_840 (by decide) ?_
    refine n_iadd hx hb dL_law_841 ?_
    refine n_sld hx hb hX hbl hbA hS (4 * j9 + 1) (by omega) (by omega) ((nI k)) ex dL_law_842 ?_
    refine lv_aload_n hx hb dL_law_843 rfl (lv_at hl 3 rfl) ?_
    refine k_I (wr := wM g0 b0 b1 b2 b3 b4 b5 cI cZ th bf pw hs lo lg rt nb (nI fi) (nI fo) (nI en) off cu ma) hP hD hS hA (vx_runSW (As := [.ref h0, .int (nI k), .ref oj]) (rest := []) ⟨hx, hb, hml, hown, hts⟩ (tL_root_ok hl0 bf pw hs lo lg rt nb fi fo en on cu ma k hk oj og _) (vx_cwSW 3 hts gL_law_L_root rfl rfl rfl (by decide +kernel) ⟨Nat.le_of_ble_eq_true rfl, Nat.le_of_ble_eq_true rfl⟩) (pS_X hP hD hK hS hA hT [0, 1, 2] rfl [0, 1, 2, 3, 4, 5, 6, 14] rfl rfl) rfl rfl hl.1 rfl (lv_room (Nat.le_of_ble_eq_true rfl)) dL_law_844 hc1) [0, 1, 2, 3, 4, 5, 6, 14] [7, 8, 9, 10, 11, 12, 13] rfl rfl rfl (by decide) (fun H locs hP hD hS => ?_)
    have hP : va_P D vwCl (wC h0 a0 a1 a2 a3 a4 a5 cI cZ bf pw hs lo lg rt nb (nI fi) (nI fo) (nI en) on cu ma ++ (wM g0 b0 b1 b2 b3 b4 b5 cI cZ th bf pw hs lo lg rt nb (nI fi) (nI fo) (nI en) off cu ma ++ wO oj cJ (vp_updL og 0 (Int32.toInt64 (rt k))))) H := hP.sub [7, 8, 9, 10, 11, 12, 13, 0, 1, 2, 3, 4, 5, 6, 14] rfl
    have hD : va_D A (wC h0 a0 a1 a2 a3 a4 a5 cI cZ bf pw hs lo lg rt nb (nI fi) (nI fo) (nI en) on cu ma ++ (wM g0 b0 b1 b2 b3 b4 b5 cI cZ th bf pw hs lo lg rt nb (nI fi) (nI fo) (nI en) off cu ma ++ wO oj cJ (vp_updL og 0 (Int32.toInt64 (rt k))))) := hD.sub [7, 8, 9, 10, 11, 12, 13, 0, 1, 2, 3, 4, 5, 6, 14] (by decide) rfl
    refine lv_istore (lv' := [(5, .int 0), (0, .ref b), (1, .ref h0), (2, .ref g0), (3, .ref oj), (4, .int (nI (4 * j9)))]) hx hb dL_law_847 hl (by decide) rfl (fun ls hl => ?_)
    refine lv_aload_n hx hb dL_law_849 rfl (lv_at hl 3 rfl) ?_
    refine lv_aload_n hx hb dL_law_850 rfl (lv_at hl 1 rfl) ?_
    refine lv_iload hx hb dL_law_851 (lv_at hl 5 rfl) ?_
    refine lv_iconst (v := (nI 1)) hx hb dL_law_853 (by decide) ?_
    refine n_iadd hx hb dL_law_854 ?_
    refine n_sld hx hb hX hbl hbA hS (4 * j9 + 1) (by omega) (by omega) ((nI k)) ex dL_law_855 ?_
    refine k_I (wr := wC h0 a0 a1 a2 a3 a4 a5 cI cZ bf pw hs lo lg rt nb (nI fi) (nI fo) (nI en) on cu ma ++ wO oj cJ (vp_updL og 0 (Int32.toInt64 (rt k)))) hP hD hS hA (va_runV (As := [.int (nI k)]) (rest := []) ⟨hx, hb, hml, hown, hts⟩ (tX1_root_ok th bf pw hs lo lg rt nb fi fo en off cu ma k hk _) (cwV 1 hts gL_law_X1_root rfl rfl rfl (by decide +kernel) ⟨Nat.le_of_ble_eq_true rfl, Nat.le_of_ble_eq_true rfl⟩) (pV_B hP hD hK (ci := 1) (q0 := 7) rfl rfl rfl [0, 1] rfl [7, 8, 9, 10, 11, 12, 13] rfl rfl) rfl rfl hl.1 rfl (lv_room (Nat.le_of_ble_eq_true rfl)) dL_law_856 hc9) [7, 8, 9, 10, 11, 12, 13] [0, 1, 2, 3, 4, 5, 6, 14] rfl rfl rfl (by decide) (fun H locs hP hD hS => ?_)
    have hP : va_P D vwCl (wC h0 a0 a1 a2 a3 a4 a5 cI cZ bf pw hs lo lg rt nb (nI fi) (nI fo) (nI en) on cu ma ++ (wM g0 b0 b1 b2 b3 b4 b5 cI cZ 0 bf pw hs lo lg rt nb (nI fi) (nI fo) (nI en) off cu ma ++ wO oj cJ (vp_updL og 0 (Int32.toInt64 (rt k))))) H := hP.sub [0, 1, 2, 3, 4, 5, 6, 8, 9, 10, 11, 12, 13, 14, 7] rfl
    have hD : va_D A (wC h0 a0 a1 a2 a3 a4 a5 cI cZ bf pw hs lo lg rt nb (nI fi) (nI fo) (nI en) on cu ma ++ (wM g0 b0 b1 b2 b3 b4 b5 cI cZ 0 bf pw hs lo lg rt nb (nI fi) (nI fo) (nI en) off cu ma ++ wO oj cJ (vp_updL og 0 (Int32.toInt64 (rt k))))) := hD.sub [0, 1, 2, 3, 4, 5, 6, 8, 9, 10, 11, 12, 13, 14, 7] (by decide) rfl
    refine lv_istore (lv' := [(6, .int (rt k)), (5, .int 0), (0, .ref b), (1, .ref h0), (2, .ref g0), (3, .ref oj), (4, .int (nI (4 * j9)))]) hx hb dL_law_859 hl (by decide) rfl (fun ls hl => ?_)
    refine lv_aload_n hx hb dL_law_861 rfl (lv_at hl 4 rfl) ?_
    refine k_I (wr := wC h0 a0 a1 a2 a3 a4 a5 cI cZ bf pw hs lo lg rt nb (nI fi) (nI fo) (nI en) on cu ma ++ wO oj cJ (vp_updL og 0 (Int32.toInt64 (rt k)))) hP hD hS hA (va_runV (As := []) (rest := []) ⟨hx, hb, hml, hown, hts⟩ (tX1_thrown 0 bf pw hs lo lg rt nb fi fo en off cu ma _) (cwV 0 hts gL_law_X1_thrown rfl rfl rfl (by decide +kernel) ⟨Nat.le_of_ble_eq_true rfl, Nat.le_of_ble_eq_true rfl⟩) (pV_B hP hD hK (ci := 1) (q0 := 7) rfl rfl rfl [0, 1] rfl [7, 8, 9, 10, 11, 12, 13] rfl rfl) rfl rfl hl.1 rfl (lv_room (Nat.le_of_ble_eq_true rfl)) dL_law_862 hc9) [7, 8, 9, 10, 11, 12, 13] [0, 1, 2, 3, 4, 5, 6, 14] rfl rfl rfl (by decide) (fun H locs hP hD hS => ?_)
    have hP : va_P D vwCl (wC h0 a0 a1 a2 a3 a4 a5 cI cZ bf pw hs lo lg rt nb (nI fi) (nI fo) (nI en) on cu ma ++ (wM g0 b0 b1 b2 b3 b4 b5 cI cZ 0 bf pw hs lo lg rt nb (nI fi) (nI fo) (nI en) off cu ma ++ wO oj cJ (vp_updL og 0 (Int32.toInt64 (rt k))))) H := hP.sub [0, 1, 2, 3, 4, 5, 6, 8, 9, 10, 11, 12, 13, 14, 7] rfl
    have hD : va_D A (wC h0 a0 a1 a2 a3 a4 a5 cI cZ bf pw hs lo lg rt nb (nI fi) (nI fo) (nI en) on cu ma ++ (wM g0 b0 b1 b2 b3 b4 b5 cI cZ 0 bf pw hs lo lg rt nb (nI fi) (nI fo) (nI en) off cu ma ++ wO oj cJ (vp_updL og 0 (Int32.toInt64 (rt k))))) := hD.sub [0, 1, 2, 3, 4, 5, 6, 8, 9, 10, 11, 12, 13, 14, 7] (by decide) rfl
    refine lv_iload hx hb dL_law_865 (lv_at hl 1 rfl) ?_
    refine lv_icmp_eq (tgt := 872) hx hb dL_law_867 (by decide) (fun c_867 => ?_) (fun c_867 => absurd (by decide) c_867)
    refine lv_iload hx hb dL_law_872 (lv_at hl 1 rfl) ?_
    refine lv_if_ne (tgt := 889) hx hb dL_law_874 (by decide) (fun c_874 => absurd (by decide) c_874) (fun c_874 => ?_)
    refine lv_aload_n hx hb dL_law_877 rfl (lv_at hl 5 rfl) ?_
    refine lv_iconst (v := (nI 0)) hx hb dL_law_878 (by decide) ?_
    refine n_lald hx hb hK hP 14 2 rfl rfl 0 (by omega) (by omega) dL_law_879 ?_
    refine lv_iload hx hb dL_law_880 (lv_at hl 0 rfl) ?_
    refine lv_i2l (v := Int32.toInt64 (rt k)) hx hb dL_law_882 rfl ?_
    refine W.lcmp hx hb dL_law_883 ?_
    refine lv_if_eq (tgt := 889) hx hb dL_law_884 (by decide) (fun c_884 => ?_) (fun c_884 => absurd (by rw [pk_uLs]; exact lg_self _) c_884)
    refine lv_goto (tgt := 1176) hx hb dL_law_889 (by decide) ?_
    refine W.widen (k := 15 + (j9 + 1)) (n := 199844 + 6 * (j9 + 1)) (by omega) (by omega) ?_
    refine lv_iinc (v := nI (4 * (j9 + 1))) (lv' := [(4, .int (nI (4 * (j9 + 1)))), (6, .int (rt k)), (5, .int 0), (0, .ref b), (1, .ref h0), (2, .ref g0), (3, .ref oj)]) hx hb dL_law_1176 hl (k := 6) rfl (nI_add (4 * j9) 4) (by decide) rfl (fun ls hl => ?_)
    refine lv_goto (tgt := 23) hx hb dL_law_1179 (by decide) ?_
    exact IH bf pw hs lo lg rt nb fi fo en on off cu ma 0 (vp_updL og 0 (Int32.toInt64 (rt k))) _ _ _ hpo (by omega) (by omega) (by omega) hcu hP hD hS (lv_sub hl [3, 4, 5, 6, 0] rfl)
set_option maxHeartbeats 4000000 in
set_option maxRecDepth 100000 in
theorem lo_lose {p : Program} {l : Launch} {e : Env} {s : State} {m : MethodId} {below : List Frame} {meth : Method} {c : Code} {Q : State → Prop} {D : va_G} {A : Nat → Prop} {cI cZ cJ : ClassId} {b L : Nat} {xs : Nat → Int32} {h0 a0 a1 a2 a3 a4 a5 g0 b0 b1 b2 b3 b4 b5 oj : Nat} (hl0 : l.stackTraces = false) (hx : p.tables.exec = Jvm.exec) (hb : c.code = code) (hml : c.maxLocals = 7) (hown : s.vm.findClass RL = some m.cls) (hts : ∀ w ∈ wsL_law, w.before #[Value.ref b] s = true) (hX : va_X b L xs s s.heap) (hbl : b < s.heap.size) (hbA : ¬ A b) (hA : ∀ q : Nat, s.heap.size ≤ q → A q) (hK : va_K D vwCl (tyL cI cZ cJ) s) (hT : xT A s s.heap) (hL : L ≤ 2048) (j9 : Nat) (hj : 4 * j9 + 4 ≤ L)
    (IH : lgW p l e s m below meth c Q D A cI cZ cJ b h0 a0 a1 a2 a3 a4 a5 g0 b0 b1 b2 b3 b4 b5 oj (j9 + 1))
    (bf pw hs lo lg rt : Nat → Int32) (nb : Int32) (fi fo en : Nat) (on off cu ma th : Int32) (og : Nat → Int64) (H : Heap) (locs : List Loc) (ls : Array Slot) (hpo : (on = 0 ∧ off = 1) ∨ (on = 1 ∧ off = 0)) (hi1 : fi ≤ fo) (hi2 : fo ≤ en) (hi3 : en ≤ 64 * j9) (hcu : -1 ≤ cu)
    (hP : va_P D vwCl (wA h0 a0 a1 a2 a3 a4 a5 g0 b0 b1 b2 b3 b4 b5 oj cI cZ cJ bf pw hs lo lg rt nb fi fo en on off cu ma th og) H) (hD : va_D A (wA h0 a0 a1 a2 a3 a4 a5 g0 b0 b1 b2 b3 b4 b5 oj cI cZ cJ bf pw hs lo lg rt nb fi fo en on off cu ma th og)) (hS : va_S A s.heap H locs) (hl : lv_has ls 7 [(0, .ref b), (1, .ref h0), (2, .ref g0), (3, .ref oj), (4, .int (nI (4 * j9)))]) :
    W p l e room_1 s m #[Value.ref b] below meth c H locs (15 + j9) (199844 + 6 * j9) Q (F0 m 892 ls []) := by
  have he : en ≤ 60000 := by omega
  have hc0 : 15 + j9 + 0 ≤ room_1.cells ∧ 199844 + 6 * j9 + 0 ≤ room_1.slots := ⟨show 15 + j9 + 0 ≤ 601024 by omega, show 199844 + 6 * j9 + 0 ≤ 7293034 by omega⟩
  have hc1 : 15 + j9 + 1 ≤ room_1.cells ∧ 199844 + 6 * j9 + 6 ≤ room_1.slots := ⟨show 15 + j9 + 1 ≤ 601024 by omega, show 199844 + 6 * j9 + 6 ≤ 7293034 by omega⟩
  have hc9 : 15 + j9 + 1 + 0 ≤ room_1.cells ∧ 199844 + 6 * j9 + 6 + 0 ≤ room_1.slots := hc1
  obtain ⟨x, ex⟩ : ∃ z9, xs (4 * j9 + 1) = z9 := ⟨_, rfl⟩
  obtain ⟨y, ey⟩ : ∃ z9, xs (4 * j9 + 2) = z9 := ⟨_, rfl⟩
  rcases pg_cases x y with h | ⟨ar, pg, h1, h2, rfl, rfl⟩
  · have hP : va_P D vwCl (wC h0 a0 a1 a2 a3 a4 a5 cI cZ bf pw hs lo lg rt nb (nI fi) (nI fo) (nI en) on cu ma ++ (wM g0 b0 b1 b2 b3 b4 b5 cI cZ th bf pw hs lo lg rt nb (nI fi) (nI fo) (nI en) off cu ma ++ wO oj cJ og)) H := hP
    have hD : va_D A (wC h0 a0 a1 a2 a3 a4 a5 cI cZ bf pw hs lo lg rt nb (nI fi) (nI fo) (nI en) on cu ma ++ (wM g0 b0 b1 b2 b3 b4 b5 cI cZ th bf pw hs lo lg rt nb (nI fi) (nI fo) (nI en) off cu ma ++ wO oj cJ og)) := hD
    refine lv_aload_n hx hb dL_law_892 rfl (lv_at hl 1 rfl) ?_
    refine lv_aload_n hx hb dL_law_893 rfl (lv_at hl 0 rfl) ?_
    refine lv_iload hx hb dL_law_894 (lv_at hl 4 rfl) ?_
    refine lv_iconst (v := (nI 1)) hx hb dL_law_896 (by decide) ?_
    refine n_iadd hx hb dL_law_897 ?_
    refine n_sld hx hb hX hbl hbA hS (4 * j9 + 1) (by omega) (by omega) (x) ex dL_law_898 ?_
    refine lv_aload_n hx hb dL_law_899 rfl (lv_at hl 0 rfl) ?_
    refine lv_iload hx hb dL_law_900 (lv_at hl 4 rfl) ?_
    refine lv_iconst (v := (nI 2)) hx hb dL_law_902 (by decide) ?_
    refine n_iadd hx hb dL_law_903 ?_
    refine n_sld hx hb hX hbl hbA hS (4 * j9 + 2) (by omega) (by omega) (y) ey dL_law_904 ?_
    refine k_I (wr := wM g0 b0 b1 b2 b3 b4 b5 cI cZ th bf pw hs lo lg rt nb (nI fi) (nI fo) (nI en) off cu ma ++ wO oj cJ og) hP hD hS hA (vx_runSW (As := [.ref h0, .int x, .int y]) (rest := []) ⟨hx, hb, hml, hown, hts⟩ (tL_lose_xb hl0 bf pw hs lo lg rt nb fi fo en on cu ma x y h oj og _) (vx_cwSW 3 hts gL_law_L_lose rfl rfl rfl (by decide +kernel) ⟨Nat.le_of_ble_eq_true rfl, Nat.le_of_ble_eq_true rfl⟩) (pS_X hP hD hK hS hA hT [0, 1, 2] rfl [0, 1, 2, 3, 4, 5, 6] rfl rfl) rfl rfl hl.1 rfl (lv_room (Nat.le_of_ble_eq_true rfl)) dL_law_905 hc1) [0, 1, 2, 3, 4, 5, 6] [7, 8, 9, 10, 11, 12, 13, 14] rfl rfl rfl (by decide) (fun H locs hP hD hS => ?_)
    have hP : va_P D vwCl (wC h0 a0 a1 a2 a3 a4 a5 cI cZ bf pw hs lo lg rt nb (nI fi) (nI fo) (nI en) on cu ma ++ (wM g0 b0 b1 b2 b3 b4 b5 cI cZ th bf pw hs lo lg rt nb (nI fi) (nI fo) (nI en) off cu ma ++ wO oj cJ og)) H := hP.sub [8, 9, 10, 11, 12, 13, 14, 0, 1, 2, 3, 4, 5, 6, 7] rfl
    have hD : va_D A (wC h0 a0 a1 a2 a3 a4 a5 cI cZ bf pw hs lo lg rt nb (nI fi) (nI fo) (nI en) on cu ma ++ (wM g0 b0 b1 b2 b3 b4 b5 cI cZ th bf pw hs lo lg rt nb (nI fi) (nI fo) (nI en) off cu ma ++ wO oj cJ og)) := hD.sub [8, 9, 10, 11, 12, 13, 14, 0, 1, 2, 3, 4, 5, 6, 7] (by decide) rfl
    refine lv_istore (lv' := [(5, .int 1), (0, .ref b), (1, .ref h0), (2, .ref g0), (3, .ref oj), (4, .int (nI (4 * j9)))]) hx hb dL_law_908 hl (by decide) rfl (fun ls hl => ?_)
    refine lv_aload_n hx hb dL_law_910 rfl (lv_at hl 3 rfl) ?_
    refine lv_aload_n hx hb dL_law_911 rfl (lv_at hl 1 rfl) ?_
    refine lv_iload hx hb dL_law_912 (lv_at hl 5 rfl) ?_
    refine lv_iconst (v := (nI 1)) hx hb dL_law_914 (by decide) ?_
    refine n_iadd hx hb dL_law_915 ?_
    refine n_sld hx hb hX hbl hbA hS (4 * j9 + 1) (by omega) (by omega) (x) ex dL_law_916 ?_
    refine lv_aload_n hx hb dL_law_917 rfl (lv_at hl 1 rfl) ?_
    refine lv_iload hx hb dL_law_918 (lv_at hl 5 rfl) ?_
    refine lv_iconst (v := (nI 2)) hx hb dL_law_920 (by decide) ?_
    refine n_iadd hx hb dL_law_921 ?_
    refine n_sld hx hb hX hbl hbA hS (4 * j9 + 2) (by omega) (by omega) (y) ey dL_law_922 ?_
    refine k_V (wr := wC h0 a0 a1 a2 a3 a4 a5 cI cZ bf pw hs lo lg rt nb (nI fi) (nI fo) (nI en) on cu ma ++ wO oj cJ og) hP hD hS hA (va_runV (As := [.int x, .int y]) (rest := []) ⟨hx, hb, hml, hown, hts⟩ (tX1_lose_xb th bf pw hs lo lg rt nb fi fo en off cu ma x y h _) (cwV 2 hts gL_law_X1_lose rfl rfl rfl (by decide +kernel) ⟨Nat.le_of_ble_eq_true rfl, Nat.le_of_ble_eq_true rfl⟩) (pV_B hP hD hK (ci := 1) (q0 := 7) rfl rfl rfl [0, 1] rfl [7, 8, 9, 10, 11, 12, 13] rfl rfl) rfl rfl hl.1 rfl (lv_room (Nat.le_of_ble_eq_true rfl)) dL_law_923 hc9) [7, 8, 9, 10, 11, 12, 13] [0, 1, 2, 3, 4, 5, 6, 14] rfl rfl rfl (by decide) (fun H locs hP hD hS => ?_)
    have hP : va_P D vwCl (wC h0 a0 a1 a2 a3 a4 a5 cI cZ bf pw hs lo lg rt nb (nI fi) (nI fo) (nI en) on cu ma ++ (wM g0 b0 b1 b2 b3 b4 b5 cI cZ 1 bf pw hs lo lg rt nb (nI fi) (nI fo) (nI en) off cu ma ++ wO oj cJ og)) H := hP.sub [0, 1, 2, 3, 4, 5, 6, 8, 9, 10, 11, 12, 13, 14, 7] rfl
    have hD : va_D A (wC h0 a0 a1 a2 a3 a4 a5 cI cZ bf pw hs lo lg rt nb (nI fi) (nI fo) (nI en) on cu ma ++ (wM g0 b0 b1 b2 b3 b4 b5 cI cZ 1 bf pw hs lo lg rt nb (nI fi) (nI fo) (nI en) off cu ma ++ wO oj cJ og)) := hD.sub [0, 1, 2, 3, 4, 5, 6, 8, 9, 10, 11, 12, 13, 14, 7] (by decide) rfl
    refine lv_aload_n hx hb dL_law_926 rfl (lv_at hl 3 rfl) ?_
    refine k_I (wr := wC h0 a0 a1 a2 a3 a4 a5 cI cZ bf pw hs lo lg rt nb (nI fi) (nI fo) (nI en) on cu ma ++ wO oj cJ og) hP hD hS hA (va_runV (As := []) (rest := []) ⟨hx, hb, hml, hown, hts⟩ (tX1_thrown 1 bf pw hs lo lg rt nb fi fo en off cu ma _) (cwV 0 hts gL_law_X1_thrown rfl rfl rfl (by decide +kernel) ⟨Nat.le_of_ble_eq_true rfl, Nat.le_of_ble_eq_true rfl⟩) (pV_B hP hD hK (ci := 1) (q0 := 7) rfl rfl rfl [0, 1] rfl [7, 8, 9, 10, 11, 12, 13] rfl rfl) rfl rfl hl.1 rfl (lv_room (Nat.le_of_ble_eq_true rfl)) dL_law_927 hc9) [7, 8, 9, 10, 11, 12, 13] [0, 1, 2, 3, 4, 5, 6, 14] rfl rfl rfl (by decide) (fun H locs hP hD hS => ?_)
    have hP : va_P D vwCl (wC h0 a0 a1 a2 a3 a4 a5 cI cZ bf pw hs lo lg rt nb (nI fi) (nI fo) (nI en) on cu ma ++ (wM g0 b0 b1 b2 b3 b4 b5 cI cZ 1 bf pw hs lo lg rt nb (nI fi) (nI fo) (nI en) off cu ma ++ wO oj cJ og)) H := hP.sub [0, 1, 2, 3, 4, 5, 6, 8, 9, 10, 11, 12, 13, 14, 7] rfl
    have hD : va_D A (wC h0 a0 a1 a2 a3 a4 a5 cI cZ bf pw hs lo lg rt nb (nI fi) (nI fo) (nI en) on cu ma ++ (wM g0 b0 b1 b2 b3 b4 b5 cI cZ 1 bf pw hs lo lg rt nb (nI fi) (nI fo) (nI en) off cu ma ++ wO oj cJ og)) := hD.sub [0, 1, 2, 3, 4, 5, 6, 8, 9, 10, 11, 12, 13, 14, 7] (by decide) rfl
    refine lv_iload hx hb dL_law_930 (lv_at hl 0 rfl) ?_
    refine lv_icmp_eq (tgt := 937) hx hb dL_law_932 (by decide) (fun c_932 => ?_) (fun c_932 => absurd (by decide) c_932)
    refine lv_goto (tgt := 1176) hx hb dL_law_937 (by decide) ?_
    refine W.widen (k := 15 + (j9 + 1)) (n := 199844 + 6 * (j9 + 1)) (by omega) (by omega) ?_
    refine lv_iinc (v := nI (4 * (j9 + 1))) (lv' := [(4, .int (nI (4 * (j9 + 1)))), (5, .int 1), (0, .ref b), (1, .ref h0), (2, .ref g0), (3, .ref oj)]) hx hb dL_law_1176 hl (k := 5) rfl (nI_add (4 * j9) 4) (by decide) rfl (fun ls hl => ?_)
    refine lv_goto (tgt := 23) hx hb dL_law_1179 (by decide) ?_
    exact IH bf pw hs lo lg rt nb fi fo en on off cu ma 1 og _ _ _ hpo (by omega) (by omega) (by omega) hcu hP hD hS (lv_sub hl [2, 3, 4, 5, 0] rfl)
  · have hP : va_P D vwCl (wC h0 a0 a1 a2 a3 a4 a5 cI cZ bf pw hs lo lg rt nb (nI fi) (nI fo) (nI en) on cu ma ++ (wM g0 b0 b1 b2 b3 b4 b5 cI cZ th bf pw hs lo lg rt nb (nI fi) (nI fo) (nI en) off cu ma ++ wO oj cJ og)) H := hP
    have hD : va_D A (wC h0 a0 a1 a2 a3 a4 a5 cI cZ bf pw hs lo lg rt nb (nI fi) (nI fo) (nI en) on cu ma ++ (wM g0 b0 b1 b2 b3 b4 b5 cI cZ th bf pw hs lo lg rt nb (nI fi) (nI fo) (nI en) off cu ma ++ wO oj cJ og)) := hD
    refine lv_aload_n hx hb dL_law_892 rfl (lv_at hl 1 rfl) ?_
    refine lv_aload_n hx hb dL_law_893 rfl (lv_at hl 0 rfl) ?_
    refine lv_iload hx hb dL_law_894 (lv_at hl 4 rfl) ?_
    refine lv_iconst (v := (nI 1)) hx hb dL_law_896 (by decide) ?_
    refine n_iadd hx hb dL_law_897 ?_
    refine n_sld hx hb hX hbl hbA hS (4 * j9 + 1) (by omega) (by omega) ((nI ar)) ex dL_law_898 ?_
    refine lv_aload_n hx hb dL_law_899 rfl (lv_at hl 0 rfl) ?_
    refine lv_iload hx hb dL_law_900 (lv_at hl 4 rfl) ?_
    refine lv_iconst (v := (nI 2)) hx hb dL_law_902 (by decide) ?_
    refine n_iadd hx hb dL_law_903 ?_
    refine n_sld hx hb hX hbl hbA hS (4 * j9 + 2) (by omega) (by omega) ((nI pg)) ey dL_law_904 ?_
    refine k_I (wr := wM g0 b0 b1 b2 b3 b4 b5 cI cZ th bf pw hs lo lg rt nb (nI fi) (nI fo) (nI en) off cu ma ++ wO oj cJ og) hP hD hS hA (vx_runSW (As := [.ref h0, .int (nI ar), .int (nI pg)]) (rest := []) ⟨hx, hb, hml, hown, hts⟩ (tL_lose_ok hl0 bf pw hs lo lg rt nb fi fo en on cu ma ar pg h1 h2 oj og _) (vx_cwSW 3 hts gL_law_L_lose rfl rfl rfl (by decide +kernel) ⟨Nat.le_of_ble_eq_true rfl, Nat.le_of_ble_eq_true rfl⟩) (pS_X hP hD hK hS hA hT [0, 1, 2] rfl [0, 1, 2, 3, 4, 5, 6] rfl rfl) rfl rfl hl.1 rfl (lv_room (Nat.le_of_ble_eq_true rfl)) dL_law_905 hc1) [0, 1, 2, 3, 4, 5, 6] [7, 8, 9, 10, 11, 12, 13, 14] rfl rfl rfl (by decide) (fun H locs hP hD hS => ?_)
    have hP : va_P D vwCl (wC h0 a0 a1 a2 a3 a4 a5 cI cZ bf pw hs (upd lo (ar * 256 + pg) 1) lg rt nb (nI fi) (nI fo) (nI en) on cu ma ++ (wM g0 b0 b1 b2 b3 b4 b5 cI cZ th bf pw hs lo lg rt nb (nI fi) (nI fo) (nI en) off cu ma ++ wO oj cJ og)) H := hP.sub [8, 9, 10, 11, 12, 13, 14, 0, 1, 2, 3, 4, 5, 6, 7] rfl
    have hD : va_D A (wC h0 a0 a1 a2 a3 a4 a5 cI cZ bf pw hs (upd lo (ar * 256 + pg) 1) lg rt nb (nI fi) (nI fo) (nI en) on cu ma ++ (wM g0 b0 b1 b2 b3 b4 b5 cI cZ th bf pw hs lo lg rt nb (nI fi) (nI fo) (nI en) off cu ma ++ wO oj cJ og)) := hD.sub [8, 9, 10, 11, 12, 13, 14, 0, 1, 2, 3, 4, 5, 6, 7] (by decide) rfl
    refine lv_istore (lv' := [(5, .int 0), (0, .ref b), (1, .ref h0), (2, .ref g0), (3, .ref oj), (4, .int (nI (4 * j9)))]) hx hb dL_law_908 hl (by decide) rfl (fun ls hl => ?_)
    refine lv_aload_n hx hb dL_law_910 rfl (lv_at hl 3 rfl) ?_
    refine lv_aload_n hx hb dL_law_911 rfl (lv_at hl 1 rfl) ?_
    refine lv_iload hx hb dL_law_912 (lv_at hl 5 rfl) ?_
    refine lv_iconst (v := (nI 1)) hx hb dL_law_914 (by decide) ?_
    refine n_iadd hx hb dL_law_915 ?_
    refine n_sld hx hb hX hbl hbA hS (4 * j9 + 1) (by omega) (by omega) ((nI ar)) ex dL_law_916 ?_
    refine lv_aload_n hx hb dL_law_917 rfl (lv_at hl 1 rfl) ?_
    refine lv_iload hx hb dL_law_918 (lv_at hl 5 rfl) ?_
    refine lv_iconst (v := (nI 2)) hx hb dL_law_920 (by decide) ?_
    refine n_iadd hx hb dL_law_921 ?_
    refine n_sld hx hb hX hbl hbA hS (4 * j9 + 2) (by omega) (by omega) ((nI pg)) ey dL_law_922 ?_
    refine k_V (wr := wC h0 a0 a1 a2 a3 a4 a5 cI cZ bf pw hs (upd lo (ar * 256 + pg) 1) lg rt nb (nI fi) (nI fo) (nI en) on cu ma ++ wO oj cJ og) hP hD hS hA (va_runV (As := [.int (nI ar), .int (nI pg)]) (rest := []) ⟨hx, hb, hml, hown, hts⟩ (tX1_lose_ok th bf pw hs lo lg rt nb fi fo en off cu ma ar pg h1 h2 _) (cwV 2 hts gL_law_X1_lose rfl rfl rfl (by decide +kernel) ⟨Nat.le_of_ble_eq_true rfl, Nat.le_of_ble_eq_true rfl⟩) (pV_B hP hD hK (ci := 1) (q0 := 7) rfl rfl rfl [0, 1] rfl [7, 8, 9, 10, 11, 12, 13] rfl rfl) rfl rfl hl.1 rfl (lv_room (Nat.le_of_ble_eq_true rfl)) dL_law_923 hc9) [7, 8, 9, 10, 11, 12, 13] [0, 1, 2, 3, 4, 5, 6, 14] rfl rfl rfl (by decide) (fun H locs hP hD hS => ?_)
    have hP : va_P D vwCl (wC h0 a0 a1 a2 a3 a4 a5 cI cZ bf pw hs (upd lo (ar * 256 + pg) 1) lg rt nb (nI fi) (nI fo) (nI en) on cu ma ++ (wM g0 b0 b1 b2 b3 b4 b5 cI cZ 0 bf pw hs (upd lo (ar * 256 + pg) 1) lg rt nb (nI fi) (nI fo) (nI en) off cu ma ++ wO oj cJ og)) H := hP.sub [0, 1, 2, 3, 4, 5, 6, 8, 9, 10, 11, 12, 13, 14, 7] rfl
    have hD : va_D A (wC h0 a0 a1 a2 a3 a4 a5 cI cZ bf pw hs (upd lo (ar * 256 + pg) 1) lg rt nb (nI fi) (nI fo) (nI en) on cu ma ++ (wM g0 b0 b1 b2 b3 b4 b5 cI cZ 0 bf pw hs (upd lo (ar * 256 + pg) 1) lg rt nb (nI fi) (nI fo) (nI en) off cu ma ++ wO oj cJ og)) := hD.sub [0, 1, 2, 3, 4, 5, 6, 8, 9, 10, 11, 12, 13, 14, 7] (by decide) rfl
    refine lv_aload_n hx hb dL_law_926 rfl (lv_at hl 3 rfl) ?_
    refine k_I (wr := wC h0 a0 a1 a2 a3 a4 a5 cI cZ bf pw hs (upd lo (ar * 256 + pg) 1) lg rt nb (nI fi) (nI fo) (nI en) on cu ma ++ wO oj cJ og) hP hD hS hA (va_runV (As := []) (rest := []) ⟨hx, hb, hml, hown, hts⟩ (tX1_thrown 0 bf pw hs (upd lo (ar * 256 + pg) 1) lg rt nb fi fo en off cu ma _) (cwV 0 hts gL_law_X1_thrown rfl rfl rfl (by decide +kernel) ⟨Nat.le_of_ble_eq_true rfl, Nat.le_of_ble_eq_true rfl⟩) (pV_B hP hD hK (ci := 1) (q0 := 7) rfl rfl rfl [0, 1] rfl [7, 8, 9, 10, 11, 12, 13] rfl rfl) rfl rfl hl.1 rfl (lv_room (Nat.le_of_ble_eq_true rfl)) dL_law_927 hc9) [7, 8, 9, 10, 11, 12, 13] [0, 1, 2, 3, 4, 5, 6, 14] rfl rfl rfl (by decide) (fun H locs hP hD hS => ?_)
    have hP : va_P D vwCl (wC h0 a0 a1 a2 a3 a4 a5 cI cZ bf pw hs (upd lo (ar * 256 + pg) 1) lg rt nb (nI fi) (nI fo) (nI en) on cu ma ++ (wM g0 b0 b1 b2 b3 b4 b5 cI cZ 0 bf pw hs (upd lo (ar * 256 + pg) 1) lg rt nb (nI fi) (nI fo) (nI en) off cu ma ++ wO oj cJ og)) H := hP.sub [0, 1, 2, 3, 4, 5, 6, 8, 9, 10, 11, 12, 13, 14, 7] rfl
    have hD : va_D A (wC h0 a0 a1 a2 a3 a4 a5 cI cZ bf pw hs (upd lo (ar * 256 + pg) 1) lg rt nb (nI fi) (nI fo) (nI en) on cu ma ++ (wM g0 b0 b1 b2 b3 b4 b5 cI cZ 0 bf pw hs (upd lo (ar * 256 + pg) 1) lg rt nb (nI fi) (nI fo) (nI en) off cu ma ++ wO oj cJ og)) := hD.sub [0, 1, 2, 3, 4, 5, 6, 8, 9, 10, 11, 12, 13, 14, 7] (by decide) rfl
    refine lv_iload hx hb dL_law_930 (lv_at hl 0 rfl) ?_
    refine lv_icmp_eq (tgt := 937) hx hb dL_law_932 (by decide) (fun c_932 => ?_) (fun c_932 => absurd (by decide) c_932)
    refine lv_goto (tgt := 1176) hx hb dL_law_937 (by decide) ?_
    refine W.widen (k := 15 + (j9 + 1)) (n := 199844 + 6 * (j9 + 1)) (by omega) (by omega) ?_
    refine lv_iinc (v := nI (4 * (j9 + 1))) (lv' := [(4, .int (nI (4 * (j9 + 1)))), (5, .int 0), (0, .ref b), (1, .ref h0), (2, .ref g0), (3, .ref oj)]) hx hb dL_law_1176 hl (k := 5) rfl (nI_add (4 * j9) 4) (by decide) rfl (fun ls hl => ?_)
    refine lv_goto (tgt := 23) hx hb dL_law_1179 (by decide) ?_
    exact IH bf pw hs (upd lo (ar * 256 + pg) 1) lg rt nb fi fo en on off cu ma 0 og _ _ _ hpo (by omega) (by omega) (by omega) hcu hP hD hS (lv_sub hl [2, 3, 4, 5, 0] rfl)
set_option maxHeartbeats 4000000 in
set_option maxRecDepth 100000 in
theorem lo_stamp {p : Program} {l : Launch} {e : Env} {s : State} {m : MethodId} {below : List Frame} {meth : Method} {c : Code} {Q : State → Prop} {D : va_G} {A : Nat → Prop} {cI cZ cJ : ClassId} {b L : Nat} {xs : Nat → Int32} {h0 a0 a1 a2 a3 a4 a5 g0 b0 b1 b2 b3 b4 b5 oj : Nat} (hl0 : l.stackTraces = false) (hx : p.tables.exec = Jvm.exec) (hb : c.code = code) (hml : c.maxLocals = 7) (hown : s.vm.findClass RL = some m.cls) (hts : ∀ w ∈ wsL_law, w.before #[Value.ref b] s = true) (hX : va_X b L xs s s.heap) (hbl : b < s.heap.size) (hbA : ¬ A b) (hA : ∀ q : Nat, s.heap.size ≤ q → A q) (hK : va_K D vwCl (tyL cI cZ cJ) s) (hT : xT A s s.heap) (hL : L ≤ 2048) (j9 : Nat) (hj : 4 * j9 + 4 ≤ L)
    (IH : lgW p l e s m below meth c Q D A cI cZ cJ b h0 a0 a1 a2 a3 a4 a5 g0 b0 b1 b2 b3 b4 b5 oj (j9 + 1))
    (bf pw hs lo lg rt : Nat → Int32) (nb : Int32) (fi fo en : Nat) (on off cu ma th : Int32) (og : Nat → Int64) (H : Heap) (locs : List Loc) (ls : Array Slot) (hpo : (on = 0 ∧ off = 1) ∨ (on = 1 ∧ off = 0)) (hi1 : fi ≤ fo) (hi2 : fo ≤ en) (hi3 : en ≤ 64 * j9) (hcu : -1 ≤ cu)
    (hP : va_P D vwCl (wA h0 a0 a1 a2 a3 a4 a5 g0 b0 b1 b2 b3 b4 b5 oj cI cZ cJ bf pw hs lo lg rt nb fi fo en on off cu ma th og) H) (hD : va_D A (wA h0 a0 a1 a2 a3 a4 a5 g0 b0 b1 b2 b3 b4 b5 oj cI cZ cJ bf pw hs lo lg rt nb fi fo en on off cu ma th og)) (hS : va_S A s.heap H locs) (hl : lv_has ls 7 [(0, .ref b), (1, .ref h0), (2, .ref g0), (3, .ref oj), (4, .int (nI (4 * j9)))]) :
    W p l e room_1 s m #[Value.ref b] below meth c H locs (15 + j9) (199844 + 6 * j9) Q (F0 m 940 ls []) := by
  have he : en ≤ 60000 := by omega
  have hc0 : 15 + j9 + 0 ≤ room_1.cells ∧ 199844 + 6 * j9 + 0 ≤ room_1.slots := ⟨show 15 + j9 + 0 ≤ 601024 by omega, show 199844 + 6 * j9 + 0 ≤ 7293034 by omega⟩
  have hc1 : 15 + j9 + 1 ≤ room_1.cells ∧ 199844 + 6 * j9 + 6 ≤ room_1.slots := ⟨show 15 + j9 + 1 ≤ 601024 by omega, show 199844 + 6 * j9 + 6 ≤ 7293034 by omega⟩
  have hc9 : 15 + j9 + 1 + 0 ≤ room_1.cells ∧ 199844 + 6 * j9 + 6 + 0 ≤ room_1.slots := hc1
  obtain ⟨x, ex⟩ : ∃ z9, xs (4 * j9 + 1) = z9 := ⟨_, rfl⟩
  obtain ⟨y, ey⟩ : ∃ z9, xs (4 * j9 + 2) = z9 := ⟨_, rfl⟩
  obtain ⟨z, ez⟩ : ∃ z9, xs (4 * j9 + 3) = z9 := ⟨_, rfl⟩
  rcases st_cases x y z with h | ⟨ar, pg, hf, h1, h2, h3, rfl, rfl, rfl⟩
  · have hP : va_P D vwCl (wC h0 a0 a1 a2 a3 a4 a5 cI cZ bf pw hs lo lg rt nb (nI fi) (nI fo) (nI en) on cu ma ++ (wM g0 b0 b1 b2 b3 b4 b5 cI cZ th bf pw hs lo lg rt nb (nI fi) (nI fo) (nI en) off cu ma ++ wO oj cJ og)) H := hP
    have hD : va_D A (wC h0 a0 a1 a2 a3 a4 a5 cI cZ bf pw hs lo lg rt nb (nI fi) (nI fo) (nI en) on cu ma ++ (wM g0 b0 b1 b2 b3 b4 b5 cI cZ th bf pw hs lo lg rt nb (nI fi) (nI fo) (nI en) off cu ma ++ wO oj cJ og)) := hD
    refine lv_aload_n hx hb dL_law_940 rfl (lv_at hl 1 rfl) ?_
    refine lv_aload_n hx hb dL_law_941 rfl (lv_at hl 0 rfl) ?_
    refine lv_iload hx hb dL_law_942 (lv_at hl 4 rfl) ?_
    refine lv_iconst (v := (nI 1)) hx hb dL_law_944 (by decide) ?_
    refine n_iadd hx hb dL_law_945 ?_
    refine n_sld hx hb hX hbl hbA hS (4 * j9 + 1) (by omega) (by omega) (x) ex dL_law_946 ?_
    refine lv_aload_n hx hb dL_law_947 rfl (lv_at hl 0 rfl) ?_
    refine lv_iload hx hb dL_law_948 (lv_at hl 4 rfl) ?_
    refine lv_iconst (v := (nI 2)) hx hb dL_law_950 (by decide) ?_
    refine n_iadd hx hb dL_law_951 ?_
    refine n_sld hx hb hX hbl hbA hS (4 * j9 + 2) (by omega) (by omega) (y) ey dL_law_952 ?_
    refine lv_aload_n hx hb dL_law_953 rfl (lv_at hl 0 rfl) ?_
    refine lv_iload hx hb dL_law_954 (lv_at hl 4 rfl) ?_
    refine lv_iconst (v := (nI 3)) hx hb dL_law_956 (by decide) ?_
    refine n_iadd hx hb dL_law_957 ?_
    refine n_sld hx hb hX hbl hbA hS (4 * j9 + 3) (by omega) (by omega) (z) ez dL_law_958 ?_
    refine lv_aload_n hx hb dL_law_959 rfl (lv_at hl 3 rfl) ?_
    refine k_I (wr := wM g0 b0 b1 b2 b3 b4 b5 cI cZ th bf pw hs lo lg rt nb (nI fi) (nI fo) (nI en) off cu ma) hP hD hS hA (vx_runSW (As := [.ref h0, .int x, .int y, .int z, .ref oj]) (rest := []) ⟨hx, hb, hml, hown, hts⟩ (tL_stamp_xb hl0 bf pw hs lo lg rt nb fi fo en on cu ma x y z h oj og _) (vx_cwSW 5 hts gL_law_L_stamp rfl rfl rfl (by decide +kernel) ⟨Nat.le_of_ble_eq_true rfl, Nat.le_of_ble_eq_true rfl⟩) (pS_X hP hD hK hS hA hT [0, 1, 2] rfl [0, 1, 2, 3, 4, 5, 6, 14] rfl rfl) rfl rfl hl.1 rfl (lv_room (Nat.le_of_ble_eq_true rfl)) dL_law_960 hc1) [0, 1, 2, 3, 4, 5, 6, 14] [7, 8, 9, 10, 11, 12, 13] rfl rfl rfl (by decide) (fun H locs hP hD hS => ?_)
    have hP : va_P D vwCl (wC h0 a0 a1 a2 a3 a4 a5 cI cZ bf pw hs lo lg rt nb (nI fi) (nI fo) (nI en) on cu ma ++ (wM g0 b0 b1 b2 b3 b4 b5 cI cZ th bf pw hs lo lg rt nb (nI fi) (nI fo) (nI en) off cu ma ++ wO oj cJ og)) H := hP.sub [7, 8, 9, 10, 11, 12, 13, 0, 1, 2, 3, 4, 5, 6, 14] rfl
    have hD : va_D A (wC h0 a0 a1 a2 a3 a4 a5 cI cZ bf pw hs lo lg rt nb (nI fi) (nI fo) (nI en) on cu ma ++ (wM g0 b0 b1 b2 b3 b4 b5 cI cZ th bf pw hs lo lg rt nb (nI fi) (nI fo) (nI en) off cu ma ++ wO oj cJ og)) := hD.sub [7, 8, 9, 10, 11, 12, 13, 0, 1, 2, 3, 4, 5, 6, 14] (by decide) rfl
    refine lv_istore (lv' := [(5, .int 1), (0, .ref b), (1, .ref h0), (2, .ref g0), (3, .ref oj), (4, .int (nI (4 * j9)))]) hx hb dL_law_963 hl (by decide) rfl (fun ls hl => ?_)
    refine lv_aload_n hx hb dL_law_965 rfl (lv_at hl 3 rfl) ?_
    refine lv_aload_n hx hb dL_law_966 rfl (lv_at hl 1 rfl) ?_
    refine lv_iload hx hb dL_law_967 (lv_at hl 5 rfl) ?_
    refine lv_iconst (v := (nI 1)) hx hb dL_law_969 (by decide) ?_
    refine n_iadd hx hb dL_law_970 ?_
    refine n_sld hx hb hX hbl hbA hS (4 * j9 + 1) (by omega) (by omega) (x) ex dL_law_971 ?_
    refine lv_aload_n hx hb dL_law_972 rfl (lv_at hl 1 rfl) ?_
    refine lv_iload hx hb dL_law_973 (lv_at hl 5 rfl) ?_
    refine lv_iconst (v := (nI 2)) hx hb dL_law_975 (by decide) ?_
    refine n_iadd hx hb dL_law_976 ?_
    refine n_sld hx hb hX hbl hbA hS (4 * j9 + 2) (by omega) (by omega) (y) ey dL_law_977 ?_
    refine lv_aload_n hx hb dL_law_978 rfl (lv_at hl 1 rfl) ?_
    refine lv_iload hx hb dL_law_979 (lv_at hl 5 rfl) ?_
    refine lv_iconst (v := (nI 3)) hx hb dL_law_981 (by decide) ?_
    refine n_iadd hx hb dL_law_982 ?_
    refine n_sld hx hb hX hbl hbA hS (4 * j9 + 3) (by omega) (by omega) (z) ez dL_law_983 ?_
    refine k_I (wr := wC h0 a0 a1 a2 a3 a4 a5 cI cZ bf pw hs lo lg rt nb (nI fi) (nI fo) (nI en) on cu ma ++ wO oj cJ og) hP hD hS hA (va_runV (As := [.int x, .int y, .int z]) (rest := []) ⟨hx, hb, hml, hown, hts⟩ (tX1_stamp_xb th bf pw hs lo lg rt nb fi fo en off cu ma x y z h _) (cwV 3 hts gL_law_X1_stamp rfl rfl rfl (by decide +kernel) ⟨Nat.le_of_ble_eq_true rfl, Nat.le_of_ble_eq_true rfl⟩) (pV_B hP hD hK (ci := 1) (q0 := 7) rfl rfl rfl [0, 1] rfl [7, 8, 9, 10, 11, 12, 13] rfl rfl) rfl rfl hl.1 rfl (lv_room (Nat.le_of_ble_eq_true rfl)) dL_law_984 hc9) [7, 8, 9, 10, 11, 12, 13] [0, 1, 2, 3, 4, 5, 6, 14] rfl rfl rfl (by decide) (fun H locs hP hD hS => ?_)
    have hP : va_P D vwCl (wC h0 a0 a1 a2 a3 a4 a5 cI cZ bf pw hs lo lg rt nb (nI fi) (nI fo) (nI en) on cu ma ++ (wM g0 b0 b1 b2 b3 b4 b5 cI cZ 1 bf pw hs lo lg rt nb (nI fi) (nI fo) (nI en) off cu ma ++ wO oj cJ og)) H := hP.sub [0, 1, 2, 3, 4, 5, 6, 8, 9, 10, 11, 12, 13, 14, 7] rfl
    have hD : va_D A (wC h0 a0 a1 a2 a3 a4 a5 cI cZ bf pw hs lo lg rt nb (nI fi) (nI fo) (nI en) on cu ma ++ (wM g0 b0 b1 b2 b3 b4 b5 cI cZ 1 bf pw hs lo lg rt nb (nI fi) (nI fo) (nI en) off cu ma ++ wO oj cJ og)) := hD.sub [0, 1, 2, 3, 4, 5, 6, 8, 9, 10, 11, 12, 13, 14, 7] (by decide) rfl
    refine lv_istore (lv' := [(6, .int 0), (5, .int 1), (0, .ref b), (1, .ref h0), (2, .ref g0), (3, .ref oj), (4, .int (nI (4 * j9)))]) hx hb dL_law_987 hl (by decide) rfl (fun ls hl => ?_)
    refine lv_aload_n hx hb dL_law_989 rfl (lv_at hl 4 rfl) ?_
    refine k_I (wr := wC h0 a0 a1 a2 a3 a4 a5 cI cZ bf pw hs lo lg rt nb (nI fi) (nI fo) (nI en) on cu ma ++ wO oj cJ og) hP hD hS hA (va_runV (As := []) (rest := []) ⟨hx, hb, hml, hown, hts⟩ (tX1_thrown 1 bf pw hs lo lg rt nb fi fo en off cu ma _) (cwV 0 hts gL_law_X1_thrown rfl rfl rfl (by decide +kernel) ⟨Nat.le_of_ble_eq_true rfl, Nat.le_of_ble_eq_true rfl⟩) (pV_B hP hD hK (ci := 1) (q0 := 7) rfl rfl rfl [0, 1] rfl [7, 8, 9, 10, 11, 12, 13] rfl rfl) rfl rfl hl.1 rfl (lv_room (Nat.le_of_ble_eq_true rfl)) dL_law_990 hc9) [7, 8, 9, 10, 11, 12, 13] [0, 1, 2, 3, 4, 5, 6, 14] rfl rfl rfl (by decide) (fun H locs hP hD hS => ?_)
    have hP : va_P D vwCl (wC h0 a0 a1 a2 a3 a4 a5 cI cZ bf pw hs lo lg rt nb (nI fi) (nI fo) (nI en) on cu ma ++ (wM g0 b0 b1 b2 b3 b4 b5 cI cZ 1 bf pw hs lo lg rt nb (nI fi) (nI fo) (nI en) off cu ma ++ wO oj cJ og)) H := hP.sub [0, 1, 2, 3, 4, 5, 6, 8, 9, 10, 11, 12, 13, 14, 7] rfl
    have hD : va_D A (wC h0 a0 a1 a2 a3 a4 a5 cI cZ bf pw hs lo lg rt nb (nI fi) (nI fo) (nI en) on cu ma ++ (wM g0 b0 b1 b2 b3 b4 b5 cI cZ 1 bf pw hs lo lg rt nb (nI fi) (nI fo) (nI en) off cu ma ++ wO oj cJ og)) := hD.sub [0, 1, 2, 3, 4, 5, 6, 8, 9, 10, 11, 12, 13, 14, 7] (by decide) rfl
    refine lv_iload hx hb dL_law_993 (lv_at hl 1 rfl) ?_
    refine lv_icmp_eq (tgt := 1000) hx hb dL_law_995 (by decide) (fun c_995 => ?_) (fun c_995 => absurd (by decide) c_995)
    refine lv_iload hx hb dL_law_1000 (lv_at hl 1 rfl) ?_
    refine lv_if_ne (tgt := 1017) hx hb dL_law_1002 (by decide) (fun c_1002 => ?_) (fun c_1002 => absurd c_1002 (by decide))
    refine lv_goto (tgt := 1176) hx hb dL_law_1017 (by decide) ?_
    refine W.widen (k := 15 + (j9 + 1)) (n := 199844 + 6 * (j9 + 1)) (by omega) (by omega) ?_
    refine lv_iinc (v := nI (4 * (j9 + 1))) (lv' := [(4, .int (nI (4 * (j9 + 1)))), (6, .int 0), (5, .int 1), (0, .ref b), (1, .ref h0), (2, .ref g0), (3, .ref oj)]) hx hb dL_law_1176 hl (k := 6) rfl (nI_add (4 * j9) 4) (by decide) rfl (fun ls hl => ?_)
    refine lv_goto (tgt := 23) hx hb dL_law_1179 (by decide) ?_
    exact IH bf pw hs lo lg rt nb fi fo en on off cu ma 1 og _ _ _ hpo (by omega) (by omega) (by omega) hcu hP hD hS (lv_sub hl [3, 4, 5, 6, 0] rfl)
  · have hP : va_P D vwCl (wC h0 a0 a1 a2 a3 a4 a5 cI cZ bf pw hs lo lg rt nb (nI fi) (nI fo) (nI en) on cu ma ++ (wM g0 b0 b1 b2 b3 b4 b5 cI cZ th bf pw hs lo lg rt nb (nI fi) (nI fo) (nI en) off cu ma ++ wO oj cJ og)) H := hP
    have hD : va_D A (wC h0 a0 a1 a2 a3 a4 a5 cI cZ bf pw hs lo lg rt nb (nI fi) (nI fo) (nI en) on cu ma ++ (wM g0 b0 b1 b2 b3 b4 b5 cI cZ th bf pw hs lo lg rt nb (nI fi) (nI fo) (nI en) off cu ma ++ wO oj cJ og)) := hD
    refine lv_aload_n hx hb dL_law_940 rfl (lv_at hl 1 rfl) ?_
    refine lv_aload_n hx hb dL_law_941 rfl (lv_at hl 0 rfl) ?_
    refine lv_iload hx hb dL_law_942 (lv_at hl 4 rfl) ?_
    refine lv_iconst (v := (nI 1)) hx hb dL_law_944 (by decide) ?_
    refine n_iadd hx hb dL_law_945 ?_
    refine n_sld hx hb hX hbl hbA hS (4 * j9 + 1) (by omega) (by omega) ((nI ar)) ex dL_law_946 ?_
    refine lv_aload_n hx hb dL_law_947 rfl (lv_at hl 0 rfl) ?_
    refine lv_iload hx hb dL_law_948 (lv_at hl 4 rfl) ?_
    refine lv_iconst (v := (nI 2)) hx hb dL_law_950 (by decide) ?_
    refine n_iadd hx hb dL_law_951 ?_
    refine n_sld hx hb hX hbl hbA hS (4 * j9 + 2) (by omega) (by omega) ((nI pg)) ey dL_law_952 ?_
    refine lv_aload_n hx hb dL_law_953 rfl (lv_at hl 0 rfl) ?_
    refine lv_iload hx hb dL_law_954 (lv_at hl 4 rfl) ?_
    refine lv_iconst (v := (nI 3)) hx hb dL_law_956 (by decide) ?_
    refine n_iadd hx hb dL_law_957 ?_
    refine n_sld hx hb hX hbl hbA hS (4 * j9 + 3) (by omega) (by omega) ((nI hf)) ez dL_law_958 ?_
    refine lv_aload_n hx hb dL_law_959 rfl (lv_at hl 3 rfl) ?_
    refine k_I (wr := wM g0 b0 b1 b2 b3 b4 b5 cI cZ th bf pw hs lo lg rt nb (nI fi) (nI fo) (nI en) off cu ma) hP hD hS hA (vx_runSW (As := [.ref h0, .int (nI ar), .int (nI pg), .int (nI hf), .ref oj]) (rest := []) ⟨hx, hb, hml, hown, hts⟩ (tL_stamp_ok hl0 bf pw hs lo lg rt nb fi fo en on cu ma ar pg h1 h2 hf h3 oj og _) (vx_cwSW 5 hts gL_law_L_stamp rfl rfl rfl (by decide +kernel) ⟨Nat.le_of_ble_eq_true rfl, Nat.le_of_ble_eq_true rfl⟩) (pS_X hP hD hK hS hA hT [0, 1, 2] rfl [0, 1, 2, 3, 4, 5, 6, 14] rfl rfl) rfl rfl hl.1 rfl (lv_room (Nat.le_of_ble_eq_true rfl)) dL_law_960 hc1) [0, 1, 2, 3, 4, 5, 6, 14] [7, 8, 9, 10, 11, 12, 13] rfl rfl rfl (by decide) (fun H locs hP hD hS => ?_)
    have hP : va_P D vwCl (wC h0 a0 a1 a2 a3 a4 a5 cI cZ bf pw hs lo lg rt nb (nI fi) (nI fo) (nI en) on cu ma ++ (wM g0 b0 b1 b2 b3 b4 b5 cI cZ th bf pw hs lo lg rt nb (nI fi) (nI fo) (nI en) off cu ma ++ wO oj cJ (vp_updL og 0 (Int32.toInt64 (hs ((ar * 256 + pg) * 2 + hf)))))) H := hP.sub [7, 8, 9, 10, 11, 12, 13, 0, 1, 2, 3, 4, 5, 6, 14] rfl
    have hD : va_D A (wC h0 a0 a1 a2 a3 a4 a5 cI cZ bf pw hs lo lg rt nb (nI fi) (nI fo) (nI en) on cu ma ++ (wM g0 b0 b1 b2 b3 b4 b5 cI cZ th bf pw hs lo lg rt nb (nI fi) (nI fo) (nI en) off cu ma ++ wO oj cJ (vp_updL og 0 (Int32.toInt64 (hs ((ar * 256 + pg) * 2 + hf)))))) := hD.sub [7, 8, 9, 10, 11, 12, 13, 0, 1, 2, 3, 4, 5, 6, 14] (by decide) rfl
    refine lv_istore (lv' := [(5, .int 0), (0, .ref b), (1, .ref h0), (2, .ref g0), (3, .ref oj), (4, .int (nI (4 * j9)))]) hx hb dL_law_963 hl (by decide) rfl (fun ls hl => ?_)
    refine lv_aload_n hx hb dL_law_965 rfl (lv_at hl 3 rfl) ?_
    refine lv_aload_n hx hb dL_law_966 rfl (lv_at hl 1 rfl) ?_
    refine lv_iload hx hb dL_law_967 (lv_at hl 5 rfl) ?_
    refine lv_iconst (v := (nI 1)) hx hb dL_law_969 (by decide) ?_
    refine n_iadd hx hb dL_law_970 ?_
    refine n_sld hx hb hX hbl hbA hS (4 * j9 + 1) (by omega) (by omega) ((nI ar)) ex dL_law_971 ?_
    refine lv_aload_n hx hb dL_law_972 rfl (lv_at hl 1 rfl) ?_
    refine lv_iload hx hb dL_law_973 (lv_at hl 5 rfl) ?_
    refine lv_iconst (v := (nI 2)) hx hb dL_law_975 (by decide) ?_
    refine n_iadd hx hb dL_law_976 ?_
    refine n_sld hx hb hX hbl hbA hS (4 * j9 + 2) (by omega) (by omega) ((nI pg)) ey dL_law_977 ?_
    refine lv_aload_n hx hb dL_law_978 rfl (lv_at hl 1 rfl) ?_
    refine lv_iload hx hb dL_law_979 (lv_at hl 5 rfl) ?_
    refine lv_iconst (v := (nI 3)) hx hb dL_law_981 (by decide) ?_
    refine n_iadd hx hb dL_law_982 ?_
    refine n_sld hx hb hX hbl hbA hS (4 * j9 + 3) (by omega) (by omega) ((nI hf)) ez dL_law_983 ?_
    refine k_I (wr := wC h0 a0 a1 a2 a3 a4 a5 cI cZ bf pw hs lo lg rt nb (nI fi) (nI fo) (nI en) on cu ma ++ wO oj cJ (vp_updL og 0 (Int32.toInt64 (hs ((ar * 256 + pg) * 2 + hf))))) hP hD hS hA (va_runV (As := [.int (nI ar), .int (nI pg), .int (nI hf)]) (rest := []) ⟨hx, hb, hml, hown, hts⟩ (tX1_stamp_ok th bf pw hs lo lg rt nb fi fo en off cu ma ar pg h1 h2 hf h3 _) (cwV 3 hts gL_law_X1_stamp rfl rfl rfl (by decide +kernel) ⟨Nat.le_of_ble_eq_true rfl, Nat.le_of_ble_eq_true rfl⟩) (pV_B hP hD hK (ci := 1) (q0 := 7) rfl rfl rfl [0, 1] rfl [7, 8, 9, 10, 11, 12, 13] rfl rfl) rfl rfl hl.1 rfl (lv_room (Nat.le_of_ble_eq_true rfl)) dL_law_984 hc9) [7, 8, 9, 10, 11, 12, 13] [0, 1, 2, 3, 4, 5, 6, 14] rfl rfl rfl (by decide) (fun H locs hP hD hS => ?_)
    have hP : va_P D vwCl (wC h0 a0 a1 a2 a3 a4 a5 cI cZ bf pw hs lo lg rt nb (nI fi) (nI fo) (nI en) on cu ma ++ (wM g0 b0 b1 b2 b3 b4 b5 cI cZ 0 bf pw hs lo lg rt nb (nI fi) (nI fo) (nI en) off cu ma ++ wO oj cJ (vp_updL og 0 (Int32.toInt64 (hs ((ar * 256 + pg) * 2 + hf)))))) H := hP.sub [0, 1, 2, 3, 4, 5, 6, 8, 9, 10, 11, 12, 13, 14, 7] rfl
    have hD : va_D A (wC h0 a0 a1 a2 a3 a4 a5 cI cZ bf pw hs lo lg rt nb (nI fi) (nI fo) (nI en) on cu ma ++ (wM g0 b0 b1 b2 b3 b4 b5 cI cZ 0 bf pw hs lo lg rt nb (nI fi) (nI fo) (nI en) off cu ma ++ wO oj cJ (vp_updL og 0 (Int32.toInt64 (hs ((ar * 256 + pg) * 2 + hf)))))) := hD.sub [0, 1, 2, 3, 4, 5, 6, 8, 9, 10, 11, 12, 13, 14, 7] (by decide) rfl
    refine lv_istore (lv' := [(6, .int (hs ((ar * 256 + pg) * 2 + hf))), (5, .int 0), (0, .ref b), (1, .ref h0), (2, .ref g0), (3, .ref oj), (4, .int (nI (4 * j9)))]) hx hb dL_law_987 hl (by decide) rfl (fun ls hl => ?_)
    refine lv_aload_n hx hb dL_law_989 rfl (lv_at hl 4 rfl) ?_
    refine k_I (wr := wC h0 a0 a1 a2 a3 a4 a5 cI cZ bf pw hs lo lg rt nb (nI fi) (nI fo) (nI en) on cu ma ++ wO oj cJ (vp_updL og 0 (Int32.toInt64 (hs ((ar * 256 + pg) * 2 + hf))))) hP hD hS hA (va_runV (As := []) (rest := []) ⟨hx, hb, hml, hown, hts⟩ (tX1_thrown 0 bf pw hs lo lg rt nb fi fo en off cu ma _) (cwV 0 hts gL_law_X1_thrown rfl rfl rfl (by decide +kernel) ⟨Nat.le_of_ble_eq_true rfl, Nat.le_of_ble_eq_true rfl⟩) (pV_B hP hD hK (ci := 1) (q0 := 7) rfl rfl rfl [0, 1] rfl [7, 8, 9, 10, 11, 12, 13] rfl rfl) rfl rfl hl.1 rfl (lv_room (Nat.le_of_ble_eq_true rfl)) dL_law_990 hc9) [7, 8, 9, 10, 11, 12, 13] [0, 1, 2, 3, 4, 5, 6, 14] rfl rfl rfl (by decide) (fun H locs hP hD hS => ?_)
    have hP : va_P D vwCl (wC h0 a0 a1 a2 a3 a4 a5 cI cZ bf pw hs lo lg rt nb (nI fi) (nI fo) (nI en) on cu ma ++ (wM g0 b0 b1 b2 b3 b4 b5 cI cZ 0 bf pw hs lo lg rt nb (nI fi) (nI fo) (nI en) off cu ma ++ wO oj cJ (vp_updL og 0 (Int32.toInt64 (hs ((ar * 256 + pg) * 2 + hf)))))) H := hP.sub [0, 1, 2, 3, 4, 5, 6, 8, 9, 10, 11, 12, 13, 14, 7] rfl
    have hD : va_D A (wC h0 a0 a1 a2 a3 a4 a5 cI cZ bf pw hs lo lg rt nb (nI fi) (nI fo) (nI en) on cu ma ++ (wM g0 b0 b1 b2 b3 b4 b5 cI cZ 0 bf pw hs lo lg rt nb (nI fi) (nI fo) (nI en) off cu ma ++ wO oj cJ (vp_updL og 0 (Int32.toInt64 (hs ((ar * 256 + pg) * 2 + hf)))))) := hD.sub [0, 1, 2, 3, 4, 5, 6, 8, 9, 10, 11, 12, 13, 14, 7] (by decide) rfl
    refine lv_iload hx hb dL_law_993 (lv_at hl 1 rfl) ?_
    refine lv_icmp_eq (tgt := 1000) hx hb dL_law_995 (by decide) (fun c_995 => ?_) (fun c_995 => absurd (by decide) c_995)
    refine lv_iload hx hb dL_law_1000 (lv_at hl 1 rfl) ?_
    refine lv_if_ne (tgt := 1017) hx hb dL_law_1002 (by decide) (fun c_1002 => absurd (by decide) c_1002) (fun c_1002 => ?_)
    refine lv_aload_n hx hb dL_law_1005 rfl (lv_at hl 5 rfl) ?_
    refine lv_iconst (v := (nI 0)) hx hb dL_law_1006 (by decide) ?_
    refine n_lald hx hb hK hP 14 2 rfl rfl 0 (by omega) (by omega) dL_law_1007 ?_
    refine lv_iload hx hb dL_law_1008 (lv_at hl 0 rfl) ?_
    refine lv_i2l (v := Int32.toInt64 (hs ((ar * 256 + pg) * 2 + hf))) hx hb dL_law_1010 rfl ?_
    refine W.lcmp hx hb dL_law_1011 ?_
    refine lv_if_eq (tgt := 1017) hx hb dL_law_1012 (by decide) (fun c_1012 => ?_) (fun c_1012 => absurd (by rw [pk_uLs]; exact lg_self _) c_1012)
    refine lv_goto (tgt := 1176) hx hb dL_law_1017 (by decide) ?_
    refine W.widen (k := 15 + (j9 + 1)) (n := 199844 + 6 * (j9 + 1)) (by omega) (by omega) ?_
    refine lv_iinc (v := nI (4 * (j9 + 1))) (lv' := [(4, .int (nI (4 * (j9 + 1)))), (6, .int (hs ((ar * 256 + pg) * 2 + hf))), (5, .int 0), (0, .ref b), (1, .ref h0), (2, .ref g0), (3, .ref oj)]) hx hb dL_law_1176 hl (k := 6) rfl (nI_add (4 * j9) 4) (by decide) rfl (fun ls hl => ?_)
    refine lv_goto (tgt := 23) hx hb dL_law_1179 (by decide) ?_
    exact IH bf pw hs lo lg rt nb fi fo en on off cu ma 0 (vp_updL og 0 (Int32.toInt64 (hs ((ar * 256 + pg) * 2 + hf)))) _ _ _ hpo (by omega) (by omega) (by omega) hcu hP hD hS (lv_sub hl [3, 4, 5, 6, 0] rfl)
set_option maxHeartbeats 4000000 in
set_option maxRecDepth 100000 in
theorem lo_count {p : Program} {l : Launch} {e : Env} {s : State} {m : MethodId} {below : List Frame} {meth : Method} {c : Code} {Q : State → Prop} {D : va_G} {A : Nat → Prop} {cI cZ cJ : ClassId} {b L : Nat} {xs : Nat → Int32} {h0 a0 a1 a2 a3 a4 a5 g0 b0 b1 b2 b3 b4 b5 oj : Nat} (hl0 : l.stackTraces = false) (hx : p.tables.exec = Jvm.exec) (hb : c.code = code) (hml : c.maxLocals = 7) (hown : s.vm.findClass RL = some m.cls) (hts : ∀ w ∈ wsL_law, w.before #[Value.ref b] s = true) (hX : va_X b L xs s s.heap) (hbl : b < s.heap.size) (hbA : ¬ A b) (hA : ∀ q : Nat, s.heap.size ≤ q → A q) (hK : va_K D vwCl (tyL cI cZ cJ) s) (hT : xT A s s.heap) (hL : L ≤ 2048) (j9 : Nat) (hj : 4 * j9 + 4 ≤ L)
    (IH : lgW p l e s m below meth c Q D A cI cZ cJ b h0 a0 a1 a2 a3 a4 a5 g0 b0 b1 b2 b3 b4 b5 oj (j9 + 1))
    (bf pw hs lo lg rt : Nat → Int32) (nb : Int32) (fi fo en : Nat) (on off cu ma th : Int32) (og : Nat → Int64) (H : Heap) (locs : List Loc) (ls : Array Slot) (hpo : (on = 0 ∧ off = 1) ∨ (on = 1 ∧ off = 0)) (hi1 : fi ≤ fo) (hi2 : fo ≤ en) (hi3 : en ≤ 64 * j9) (hcu : -1 ≤ cu)
    (hP : va_P D vwCl (wA h0 a0 a1 a2 a3 a4 a5 g0 b0 b1 b2 b3 b4 b5 oj cI cZ cJ bf pw hs lo lg rt nb fi fo en on off cu ma th og) H) (hD : va_D A (wA h0 a0 a1 a2 a3 a4 a5 g0 b0 b1 b2 b3 b4 b5 oj cI cZ cJ bf pw hs lo lg rt nb fi fo en on off cu ma th og)) (hS : va_S A s.heap H locs) (hl : lv_has ls 7 [(0, .ref b), (1, .ref h0), (2, .ref g0), (3, .ref oj), (4, .int (nI (4 * j9)))]) :
    W p l e room_1 s m #[Value.ref b] below meth c H locs (15 + j9) (199844 + 6 * j9) Q (F0 m 1020 ls []) := by
  have he : en ≤ 60000 := by omega
  have hc0 : 15 + j9 + 0 ≤ room_1.cells ∧ 199844 + 6 * j9 + 0 ≤ room_1.slots := ⟨show 15 + j9 + 0 ≤ 601024 by omega, show 199844 + 6 * j9 + 0 ≤ 7293034 by omega⟩
  have hc1 : 15 + j9 + 1 ≤ room_1.cells ∧ 199844 + 6 * j9 + 6 ≤ room_1.slots := ⟨show 15 + j9 + 1 ≤ 601024 by omega, show 199844 + 6 * j9 + 6 ≤ 7293034 by omega⟩
  have hc9 : 15 + j9 + 1 + 0 ≤ room_1.cells ∧ 199844 + 6 * j9 + 6 + 0 ≤ room_1.slots := hc1
  obtain ⟨x, ex⟩ : ∃ z9, xs (4 * j9 + 1) = z9 := ⟨_, rfl⟩
  obtain ⟨y, ey⟩ : ∃ z9, xs (4 * j9 + 2) = z9 := ⟨_, rfl⟩
  rcases ct_cases x y with h | ⟨ar, st, h1, h2, rfl, rfl⟩
  · have hP : va_P D vwCl (wC h0 a0 a1 a2 a3 a4 a5 cI cZ bf pw hs lo lg rt nb (nI fi) (nI fo) (nI en) on cu ma ++ (wM g0 b0 b1 b2 b3 b4 b5 cI cZ th bf pw hs lo lg rt nb (nI fi) (nI fo) (nI en) off cu ma ++ wO oj cJ og)) H := hP
    have hD : va_D A (wC h0 a0 a1 a2 a3 a4 a5 cI cZ bf pw hs lo lg rt nb (nI fi) (nI fo) (nI en) on cu ma ++ (wM g0 b0 b1 b2 b3 b4 b5 cI cZ th bf pw hs lo lg rt nb (nI fi) (nI fo) (nI en) off cu ma ++ wO oj cJ og)) := hD
    refine lv_aload_n hx hb dL_law_1020 rfl (lv_at hl 1 rfl) ?_
    refine lv_aload_n hx hb dL_law_1021 rfl (lv_at hl 0 rfl) ?_
    refine lv_iload hx hb dL_law_1022 (lv_at hl 4 rfl) ?_
    refine lv_iconst (v := (nI 1)) hx hb dL_law_1024 (by decide) ?_
    refine n_iadd hx hb dL_law_1025 ?_
    refine n_sld hx hb hX hbl hbA hS (4 * j9 + 1) (by omega) (by omega) (x) ex dL_law_1026 ?_
    refine lv_aload_n hx hb dL_law_1027 rfl (lv_at hl 0 rfl) ?_
    refine lv_iload hx hb dL_law_1028 (lv_at hl 4 rfl) ?_
    refine lv_iconst (v := (nI 2)) hx hb dL_law_1030 (by decide) ?_
    refine n_iadd hx hb dL_law_1031 ?_
    refine n_sld hx hb hX hbl hbA hS (4 * j9 + 2) (by omega) (by omega) (y) ey dL_law_1032 ?_
    refine lv_aload_n hx hb dL_law_1033 rfl (lv_at hl 3 rfl) ?_
    refine k_I (wr := wM g0 b0 b1 b2 b3 b4 b5 cI cZ th bf pw hs lo lg rt nb (nI fi) (nI fo) (nI en) off cu ma) hP hD hS hA (vx_runSW (As := [.ref h0, .int x, .int y, .ref oj]) (rest := []) ⟨hx, hb, hml, hown, hts⟩ (tL_count_xb hl0 bf pw hs lo lg rt nb fi fo en on cu ma x y h oj og _) (vx_cwSW 4 hts gL_law_L_count rfl rfl rfl (by decide +kernel) ⟨Nat.le_of_ble_eq_true rfl, Nat.le_of_ble_eq_true rfl⟩) (pS_X hP hD hK hS hA hT [0, 1, 2] rfl [0, 1, 2, 3, 4, 5, 6, 14] rfl rfl) rfl rfl hl.1 rfl (lv_room (Nat.le_of_ble_eq_true rfl)) dL_law_1034 hc1) [0, 1, 2, 3, 4, 5, 6, 14] [7, 8, 9, 10, 11, 12, 13] rfl rfl rfl (by decide) (fun H locs hP hD hS => ?_)
    have hP : va_P D vwCl (wC h0 a0 a1 a2 a3 a4 a5 cI cZ bf pw hs lo lg rt nb (nI fi) (nI fo) (nI en) on cu ma ++ (wM g0 b0 b1 b2 b3 b4 b5 cI cZ th bf pw hs lo lg rt nb (nI fi) (nI fo) (nI en) off cu ma ++ wO oj cJ og)) H := hP.sub [7, 8, 9, 10, 11, 12, 13, 0, 1, 2, 3, 4, 5, 6, 14] rfl
    have hD : va_D A (wC h0 a0 a1 a2 a3 a4 a5 cI cZ bf pw hs lo lg rt nb (nI fi) (nI fo) (nI en) on cu ma ++ (wM g0 b0 b1 b2 b3 b4 b5 cI cZ th bf pw hs lo lg rt nb (nI fi) (nI fo) (nI en) off cu ma ++ wO oj cJ og)) := hD.sub [7, 8, 9, 10, 11, 12, 13, 0, 1, 2, 3, 4, 5, 6, 14] (by decide) rfl
    refine lv_istore (lv' := [(5, .int 1), (0, .ref b), (1, .ref h0), (2, .ref g0), (3, .ref oj), (4, .int (nI (4 * j9)))]) hx hb dL_law_1037 hl (by decide) rfl (fun ls hl => ?_)
    refine lv_aload_n hx hb dL_law_1039 rfl (lv_at hl 3 rfl) ?_
    refine lv_aload_n hx hb dL_law_1040 rfl (lv_at hl 1 rfl) ?_
    refine lv_iload hx hb dL_law_1041 (lv_at hl 5 rfl) ?_
    refine lv_iconst (v := (nI 1)) hx hb dL_law_1043 (by decide) ?_
    refine n_iadd hx hb dL_law_1044 ?_
    refine n_sld hx hb hX hbl hbA hS (4 * j9 + 1) (by omega) (by omega) (x) ex dL_law_1045 ?_
    refine lv_aload_n hx hb dL_law_1046 rfl (lv_at hl 1 rfl) ?_
    refine lv_iload hx hb dL_law_1047 (lv_at hl 5 rfl) ?_
    refine lv_iconst (v := (nI 2)) hx hb dL_law_1049 (by decide) ?_
    refine n_iadd hx hb dL_law_1050 ?_
    refine n_sld hx hb hX hbl hbA hS (4 * j9 + 2) (by omega) (by omega) (y) ey dL_law_1051 ?_
    refine k_I (wr := wC h0 a0 a1 a2 a3 a4 a5 cI cZ bf pw hs lo lg rt nb (nI fi) (nI fo) (nI en) on cu ma ++ wO oj cJ og) hP hD hS hA (va_runV (As := [.int x, .int y]) (rest := []) ⟨hx, hb, hml, hown, hts⟩ (tX1_count_xb th bf pw hs lo lg rt nb fi fo en off cu ma x y h _) (cwV 2 hts gL_law_X1_count rfl rfl rfl (by decide +kernel) ⟨Nat.le_of_ble_eq_true rfl, Nat.le_of_ble_eq_true rfl⟩) (pV_B hP hD hK (ci := 1) (q0 := 7) rfl rfl rfl [0, 1] rfl [7, 8, 9, 10, 11, 12, 13] rfl rfl) rfl rfl hl.1 rfl (lv_room (Nat.le_of_ble_eq_true rfl)) dL_law_1052 hc9) [7, 8, 9, 10, 11, 12, 13] [0, 1, 2, 3, 4, 5, 6, 14] rfl rfl rfl (by decide) (fun H locs hP hD hS => ?_)
    have hP : va_P D vwCl (wC h0 a0 a1 a2 a3 a4 a5 cI cZ bf pw hs lo lg rt nb (nI fi) (nI fo) (nI en) on cu ma ++ (wM g0 b0 b1 b2 b3 b4 b5 cI cZ 1 bf pw hs lo lg rt nb (nI fi) (nI fo) (nI en) off cu ma ++ wO oj cJ og)) H := hP.sub [0, 1, 2, 3, 4, 5, 6, 8, 9, 10, 11, 12, 13, 14, 7] rfl
    have hD : va_D A (wC h0 a0 a1 a2 a3 a4 a5 cI cZ bf pw hs lo lg rt nb (nI fi) (nI fo) (nI en) on cu ma ++ (wM g0 b0 b1 b2 b3 b4 b5 cI cZ 1 bf pw hs lo lg rt nb (nI fi) (nI fo) (nI en) off cu ma ++ wO oj cJ og)) := hD.sub [0, 1, 2, 3, 4, 5, 6, 8, 9, 10, 11, 12, 13, 14, 7] (by decide) rfl
    refine lv_istore (lv' := [(6, .int 0), (5, .int 1), (0, .ref b), (1, .ref h0), (2, .ref g0), (3, .ref oj), (4, .int (nI (4 * j9)))]) hx hb dL_law_1055 hl (by decide) rfl (fun ls hl => ?_)
    refine lv_aload_n hx hb dL_law_1057 rfl (lv_at hl 4 rfl) ?_
    refine k_I (wr := wC h0 a0 a1 a2 a3 a4 a5 cI cZ bf pw hs lo lg rt nb (nI fi) (nI fo) (nI en) on cu ma ++ wO oj cJ og) hP hD hS hA (va_runV (As := []) (rest := []) ⟨hx, hb, hml, hown, hts⟩ (tX1_thrown 1 bf pw hs lo lg rt nb fi fo en off cu ma _) (cwV 0 hts gL_law_X1_thrown rfl rfl rfl (by decide +kernel) ⟨Nat.le_of_ble_eq_true rfl, Nat.le_of_ble_eq_true rfl⟩) (pV_B hP hD hK (ci := 1) (q0 := 7) rfl rfl rfl [0, 1] rfl [7, 8, 9, 10, 11, 12, 13] rfl rfl) rfl rfl hl.1 rfl (lv_room (Nat.le_of_ble_eq_true rfl)) dL_law_1058 hc9) [7, 8, 9, 10, 11, 12, 13] [0, 1, 2, 3, 4, 5, 6, 14] rfl rfl rfl (by decide) (fun H locs hP hD hS => ?_)
    have hP : va_P D vwCl (wC h0 a0 a1 a2 a3 a4 a5 cI cZ bf pw hs lo lg rt nb (nI fi) (nI fo) (nI en) on cu ma ++ (wM g0 b0 b1 b2 b3 b4 b5 cI cZ 1 bf pw hs lo lg rt nb (nI fi) (nI fo) (nI en) off cu ma ++ wO oj cJ og)) H := hP.sub [0, 1, 2, 3, 4, 5, 6, 8, 9, 10, 11, 12, 13, 14, 7] rfl
    have hD : va_D A (wC h0 a0 a1 a2 a3 a4 a5 cI cZ bf pw hs lo lg rt nb (nI fi) (nI fo) (nI en) on cu ma ++ (wM g0 b0 b1 b2 b3 b4 b5 cI cZ 1 bf pw hs lo lg rt nb (nI fi) (nI fo) (nI en) off cu ma ++ wO oj cJ og)) := hD.sub [0, 1, 2, 3, 4, 5, 6, 8, 9, 10, 11, 12, 13, 14, 7] (by decide) rfl
    refine lv_iload hx hb dL_law_1061 (lv_at hl 1 rfl) ?_
    refine lv_icmp_eq (tgt := 1068) hx hb dL_law_1063 (by decide) (fun c_1063 => ?_) (fun c_1063 => absurd (by decide) c_1063)
    refine lv_iload hx hb dL_law_1068 (lv_at hl 1 rfl) ?_
    refine lv_if_ne (tgt := 1085) hx hb dL_law_1070 (by decide) (fun c_1070 => ?_) (fun c_1070 => absurd c_1070 (by decide))
    refine lv_goto (tgt := 1176) hx hb dL_law_1085 (by decide) ?_
    refine W.widen (k := 15 + (j9 + 1)) (n := 199844 + 6 * (j9 + 1)) (by omega) (by omega) ?_
    refine lv_iinc (v := nI (4 * (j9 + 1))) (lv' := [(4, .int (nI (4 * (j9 + 1)))), (6, .int 0), (5, .int 1), (0, .ref b), (1, .ref h0), (2, .ref g0), (3, .ref oj)]) hx hb dL_law_1176 hl (k := 6) rfl (nI_add (4 * j9) 4) (by decide) rfl (fun ls hl => ?_)
    refine lv_goto (tgt := 23) hx hb dL_law_1179 (by decide) ?_
    exact IH bf pw hs lo lg rt nb fi fo en on off cu ma 1 og _ _ _ hpo (by omega) (by omega) (by omega) hcu hP hD hS (lv_sub hl [3, 4, 5, 6, 0] rfl)
  · have hP : va_P D vwCl (wC h0 a0 a1 a2 a3 a4 a5 cI cZ bf pw hs lo lg rt nb (nI fi) (nI fo) (nI en) on cu ma ++ (wM g0 b0 b1 b2 b3 b4 b5 cI cZ th bf pw hs lo lg rt nb (nI fi) (nI fo) (nI en) off cu ma ++ wO oj cJ og)) H := hP
    have hD : va_D A (wC h0 a0 a1 a2 a3 a4 a5 cI cZ bf pw hs lo lg rt nb (nI fi) (nI fo) (nI en) on cu ma ++ (wM g0 b0 b1 b2 b3 b4 b5 cI cZ th bf pw hs lo lg rt nb (nI fi) (nI fo) (nI en) off cu ma ++ wO oj cJ og)) := hD
    refine lv_aload_n hx hb dL_law_1020 rfl (lv_at hl 1 rfl) ?_
    refine lv_aload_n hx hb dL_law_1021 rfl (lv_at hl 0 rfl) ?_
    refine lv_iload hx hb dL_law_1022 (lv_at hl 4 rfl) ?_
    refine lv_iconst (v := (nI 1)) hx hb dL_law_1024 (by decide) ?_
    refine n_iadd hx hb dL_law_1025 ?_
    refine n_sld hx hb hX hbl hbA hS (4 * j9 + 1) (by omega) (by omega) ((nI ar)) ex dL_law_1026 ?_
    refine lv_aload_n hx hb dL_law_1027 rfl (lv_at hl 0 rfl) ?_
    refine lv_iload hx hb dL_law_1028 (lv_at hl 4 rfl) ?_
    refine lv_iconst (v := (nI 2)) hx hb dL_law_1030 (by decide) ?_
    refine n_iadd hx hb dL_law_1031 ?_
    refine n_sld hx hb hX hbl hbA hS (4 * j9 + 2) (by omega) (by omega) ((nI st)) ey dL_law_1032 ?_
    refine lv_aload_n hx hb dL_law_1033 rfl (lv_at hl 3 rfl) ?_
    refine k_I (wr := wM g0 b0 b1 b2 b3 b4 b5 cI cZ th bf pw hs lo lg rt nb (nI fi) (nI fo) (nI en) off cu ma) hP hD hS hA (vx_runSW (As := [.ref h0, .int (nI ar), .int (nI st), .ref oj]) (rest := []) ⟨hx, hb, hml, hown, hts⟩ (tL_count_ok hl0 bf pw hs lo lg rt nb fi fo en on cu ma ar st h1 h2 oj og _) (vx_cwSW 4 hts gL_law_L_count rfl rfl rfl (by decide +kernel) ⟨Nat.le_of_ble_eq_true rfl, Nat.le_of_ble_eq_true rfl⟩) (pS_X hP hD hK hS hA hT [0, 1, 2] rfl [0, 1, 2, 3, 4, 5, 6, 14] rfl rfl) rfl rfl hl.1 rfl (lv_room (Nat.le_of_ble_eq_true rfl)) dL_law_1034 hc1) [0, 1, 2, 3, 4, 5, 6, 14] [7, 8, 9, 10, 11, 12, 13] rfl rfl rfl (by decide) (fun H locs hP hD hS => ?_)
    have hP : va_P D vwCl (wC h0 a0 a1 a2 a3 a4 a5 cI cZ bf pw hs lo lg rt nb (nI fi) (nI fo) (nI en) on cu ma ++ (wM g0 b0 b1 b2 b3 b4 b5 cI cZ th bf pw hs lo lg rt nb (nI fi) (nI fo) (nI en) off cu ma ++ wO oj cJ (vp_updL og 0 (Int32.toInt64 (sp_ct lo hs ar (nI st) 256))))) H := hP.sub [7, 8, 9, 10, 11, 12, 13, 0, 1, 2, 3, 4, 5, 6, 14] rfl
    have hD : va_D A (wC h0 a0 a1 a2 a3 a4 a5 cI cZ bf pw hs lo lg rt nb (nI fi) (nI fo) (nI en) on cu ma ++ (wM g0 b0 b1 b2 b3 b4 b5 cI cZ th bf pw hs lo lg rt nb (nI fi) (nI fo) (nI en) off cu ma ++ wO oj cJ (vp_updL og 0 (Int32.toInt64 (sp_ct lo hs ar (nI st) 256))))) := hD.sub [7, 8, 9, 10, 11, 12, 13, 0, 1, 2, 3, 4, 5, 6, 14] (by decide) rfl
    refine lv_istore (lv' := [(5, .int 0), (0, .ref b), (1, .ref h0), (2, .ref g0), (3, .ref oj), (4, .int (nI (4 * j9)))]) hx hb dL_law_1037 hl (by decide) rfl (fun ls hl => ?_)
    refine lv_aload_n hx hb dL_law_1039 rfl (lv_at hl 3 rfl) ?_
    refine lv_aload_n hx hb dL_law_1040 rfl (lv_at hl 1 rfl) ?_
    refine lv_iload hx hb dL_law_1041 (lv_at hl 5 rfl) ?_
    refine lv_iconst (v := (nI 1)) hx hb dL_law_1043 (by decide) ?_
    refine n_iadd hx hb dL_law_1044 ?_
    refine n_sld hx hb hX hbl hbA hS (4 * j9 + 1) (by omega) (by omega) ((nI ar)) ex dL_law_1045 ?_
    refine lv_aload_n hx hb dL_law_1046 rfl (lv_at hl 1 rfl) ?_
    refine lv_iload hx hb dL_law_1047 (lv_at hl 5 rfl) ?_
    refine lv_iconst (v := (nI 2)) hx hb dL_law_1049 (by decide) ?_
    refine n_iadd hx hb dL_law_1050 ?_
    refine n_sld hx hb hX hbl hbA hS (4 * j9 + 2) (by omega) (by omega) ((nI st)) ey dL_law_1051 ?_
    refine k_I (wr := wC h0 a0 a1 a2 a3 a4 a5 cI cZ bf pw hs lo lg rt nb (nI fi) (nI fo) (nI en) on cu ma ++ wO oj cJ (vp_updL og 0 (Int32.toInt64 (sp_ct lo hs ar (nI st) 256)))) hP hD hS hA (va_runV (As := [.int (nI ar), .int (nI st)]) (rest := []) ⟨hx, hb, hml, hown, hts⟩ (tX1_count_ok th bf pw hs lo lg rt nb fi fo en off cu ma ar st h1 h2 _) (cwV 2 hts gL_law_X1_count rfl rfl rfl (by decide +kernel) ⟨Nat.le_of_ble_eq_true rfl, Nat.le_of_ble_eq_true rfl⟩) (pV_B hP hD hK (ci := 1) (q0 := 7) rfl rfl rfl [0, 1] rfl [7, 8, 9, 10, 11, 12, 13] rfl rfl) rfl rfl hl.1 rfl (lv_room (Nat.le_of_ble_eq_true rfl)) dL_law_1052 hc9) [7, 8, 9, 10, 11, 12, 13] [0, 1, 2, 3, 4, 5, 6, 14] rfl rfl rfl (by decide) (fun H locs hP hD hS => ?_)
    have hP : va_P D vwCl (wC h0 a0 a1 a2 a3 a4 a5 cI cZ bf pw hs lo lg rt nb (nI fi) (nI fo) (nI en) on cu ma ++ (wM g0 b0 b1 b2 b3 b4 b5 cI cZ 0 bf pw hs lo lg rt nb (nI fi) (nI fo) (nI en) off cu ma ++ wO oj cJ (vp_updL og 0 (Int32.toInt64 (sp_ct lo hs ar (nI st) 256))))) H := hP.sub [0, 1, 2, 3, 4, 5, 6, 8, 9, 10, 11, 12, 13, 14, 7] rfl
    have hD : va_D A (wC h0 a0 a1 a2 a3 a4 a5 cI cZ bf pw hs lo lg rt nb (nI fi) (nI fo) (nI en) on cu ma ++ (wM g0 b0 b1 b2 b3 b4 b5 cI cZ 0 bf pw hs lo lg rt nb (nI fi) (nI fo) (nI en) off cu ma ++ wO oj cJ (vp_updL og 0 (Int32.toInt64 (sp_ct lo hs ar (nI st) 256))))) := hD.sub [0, 1, 2, 3, 4, 5, 6, 8, 9, 10, 11, 12, 13, 14, 7] (by decide) rfl
    refine lv_istore (lv' := [(6, .int (sp_ct lo hs ar (nI st) 256)), (5, .int 0), (0, .ref b), (1, .ref h0), (2, .ref g0), (3, .ref oj), (4, .int (nI (4 * j9)))]) hx hb dL_law_1055 hl (by decide) rfl (fun ls hl => ?_)
    refine lv_aload_n hx hb dL_law_1057 rfl (lv_at hl 4 rfl) ?_
    refine k_I (wr := wC h0 a0 a1 a2 a3 a4 a5 cI cZ bf pw hs lo lg rt nb (nI fi) (nI fo) (nI en) on cu ma ++ wO oj cJ (vp_updL og 0 (Int32.toInt64 (sp_ct lo hs ar (nI st) 256)))) hP hD hS hA (va_runV (As := []) (rest := []) ⟨hx, hb, hml, hown, hts⟩ (tX1_thrown 0 bf pw hs lo lg rt nb fi fo en off cu ma _) (cwV 0 hts gL_law_X1_thrown rfl rfl rfl (by decide +kernel) ⟨Nat.le_of_ble_eq_true rfl, Nat.le_of_ble_eq_true rfl⟩) (pV_B hP hD hK (ci := 1) (q0 := 7) rfl rfl rfl [0, 1] rfl [7, 8, 9, 10, 11, 12, 13] rfl rfl) rfl rfl hl.1 rfl (lv_room (Nat.le_of_ble_eq_true rfl)) dL_law_1058 hc9) [7, 8, 9, 10, 11, 12, 13] [0, 1, 2, 3, 4, 5, 6, 14] rfl rfl rfl (by decide) (fun H locs hP hD hS => ?_)
    have hP : va_P D vwCl (wC h0 a0 a1 a2 a3 a4 a5 cI cZ bf pw hs lo lg rt nb (nI fi) (nI fo) (nI en) on cu ma ++ (wM g0 b0 b1 b2 b3 b4 b5 cI cZ 0 bf pw hs lo lg rt nb (nI fi) (nI fo) (nI en) off cu ma ++ wO oj cJ (vp_updL og 0 (Int32.toInt64 (sp_ct lo hs ar (nI st) 256))))) H := hP.sub [0, 1, 2, 3, 4, 5, 6, 8, 9, 10, 11, 12, 13, 14, 7] rfl
    have hD : va_D A (wC h0 a0 a1 a2 a3 a4 a5 cI cZ bf pw hs lo lg rt nb (nI fi) (nI fo) (nI en) on cu ma ++ (wM g0 b0 b1 b2 b3 b4 b5 cI cZ 0 bf pw hs lo lg rt nb (nI fi) (nI fo) (nI en) off cu ma ++ wO oj cJ (vp_updL og 0 (Int32.toInt64 (sp_ct lo hs ar (nI st) 256))))) := hD.sub [0, 1, 2, 3, 4, 5, 6, 8, 9, 10, 11, 12, 13, 14, 7] (by decide) rfl
    refine lv_iload hx hb dL_law_1061 (lv_at hl 1 rfl) ?_
    refine lv_icmp_eq (tgt := 1068) hx hb dL_law_1063 (by decide) (fun c_1063 => ?_) (fun c_1063 => absurd (by decide) c_1063)
    refine lv_iload hx hb dL_law_1068 (lv_at hl 1 rfl) ?_
    refine lv_if_ne (tgt := 1085) hx hb dL_law_1070 (by decide) (fun c_1070 => absurd (by decide) c_1070) (fun c_1070 => ?_)
    refine lv_aload_n hx hb dL_law_1073 rfl (lv_at hl 5 rfl) ?_
    refine lv_iconst (v := (nI 0)) hx hb dL_law_1074 (by decide) ?_
    refine n_lald hx hb hK hP 14 2 rfl rfl 0 (by omega) (by omega) dL_law_1075 ?_
    refine lv_iload hx hb dL_law_1076 (lv_at hl 0 rfl) ?_
    refine lv_i2l (v := Int32.toInt64 (sp_ct lo hs ar (nI st) 256)) hx hb dL_law_1078 rfl ?_
    refine W.lcmp hx hb dL_law_1079 ?_
    refine lv_if_eq (tgt := 1085) hx hb dL_law_1080 (by decide) (fun c_1080 => ?_) (fun c_1080 => absurd (by rw [pk_uLs]; exact lg_self _) c_1080)
    refine lv_goto (tgt := 1176) hx hb dL_law_1085 (by decide) ?_
    refine W.widen (k := 15 + (j9 + 1)) (n := 199844 + 6 * (j9 + 1)) (by omega) (by omega) ?_
    refine lv_iinc (v := nI (4 * (j9 + 1))) (lv' := [(4, .int (nI (4 * (j9 + 1)))), (6, .int (sp_ct lo hs ar (nI st) 256)), (5, .int 0), (0, .ref b), (1, .ref h0), (2, .ref g0), (3, .ref oj)]) hx hb dL_law_1176 hl (k := 6) rfl (nI_add (4 * j9) 4) (by decide) rfl (fun ls hl => ?_)
    refine lv_goto (tgt := 23) hx hb dL_law_1179 (by decide) ?_
    exact IH bf pw hs lo lg rt nb fi fo en on off cu ma 0 (vp_updL og 0 (Int32.toInt64 (sp_ct lo hs ar (nI st) 256))) _ _ _ hpo (by omega) (by omega) (by omega) hcu hP hD hS (lv_sub hl [3, 4, 5, 6, 0] rfl)
set_option maxHeartbeats 4000000 in
set_option maxRecDepth 100000 in
theorem lo_writes {p : Program} {l : Launch} {e : Env} {s : State} {m : MethodId} {below : List Frame} {meth : Method} {c : Code} {Q : State → Prop} {D : va_G} {A : Nat → Prop} {cI cZ cJ : ClassId} {b L : Nat} {xs : Nat → Int32} {h0 a0 a1 a2 a3 a4 a5 g0 b0 b1 b2 b3 b4 b5 oj : Nat} (hl0 : l.stackTraces = false) (hx : p.tables.exec = Jvm.exec) (hb : c.code = code) (hml : c.maxLocals = 7) (hown : s.vm.findClass RL = some m.cls) (hts : ∀ w ∈ wsL_law, w.before #[Value.ref b] s = true) (hX : va_X b L xs s s.heap) (hbl : b < s.heap.size) (hbA : ¬ A b) (hA : ∀ q : Nat, s.heap.size ≤ q → A q) (hK : va_K D vwCl (tyL cI cZ cJ) s) (hT : xT A s s.heap) (hL : L ≤ 2048) (j9 : Nat) (hj : 4 * j9 + 4 ≤ L)
    (IH : lgW p l e s m below meth c Q D A cI cZ cJ b h0 a0 a1 a2 a3 a4 a5 g0 b0 b1 b2 b3 b4 b5 oj (j9 + 1))
    (bf pw hs lo lg rt : Nat → Int32) (nb : Int32) (fi fo en : Nat) (on off cu ma th : Int32) (og : Nat → Int64) (H : Heap) (locs : List Loc) (ls : Array Slot) (hpo : (on = 0 ∧ off = 1) ∨ (on = 1 ∧ off = 0)) (hi1 : fi ≤ fo) (hi2 : fo ≤ en) (hi3 : en ≤ 64 * j9) (hcu : -1 ≤ cu)
    (hP : va_P D vwCl (wA h0 a0 a1 a2 a3 a4 a5 g0 b0 b1 b2 b3 b4 b5 oj cI cZ cJ bf pw hs lo lg rt nb fi fo en on off cu ma th og) H) (hD : va_D A (wA h0 a0 a1 a2 a3 a4 a5 g0 b0 b1 b2 b3 b4 b5 oj cI cZ cJ bf pw hs lo lg rt nb fi fo en on off cu ma th og)) (hS : va_S A s.heap H locs) (hl : lv_has ls 7 [(0, .ref b), (1, .ref h0), (2, .ref g0), (3, .ref oj), (4, .int (nI (4 * j9)))]) :
    W p l e room_1 s m #[Value.ref b] below meth c H locs (15 + j9) (199844 + 6 * j9) Q (F0 m 1088 ls []) := by
  have he : en ≤ 60000 := by omega
  have hc0 : 15 + j9 + 0 ≤ room_1.cells ∧ 199844 + 6 * j9 + 0 ≤ room_1.slots := ⟨show 15 + j9 + 0 ≤ 601024 by omega, show 199844 + 6 * j9 + 0 ≤ 7293034 by omega⟩
  have hc1 : 15 + j9 + 1 ≤ room_1.cells ∧ 199844 + 6 * j9 + 6 ≤ room_1.slots := ⟨show 15 + j9 + 1 ≤ 601024 by omega, show 199844 + 6 * j9 + 6 ≤ 7293034 by omega⟩
  have hc9 : 15 + j9 + 1 + 0 ≤ room_1.cells ∧ 199844 + 6 * j9 + 6 + 0 ≤ room_1.slots := hc1
  have hP : va_P D vwCl (wC h0 a0 a1 a2 a3 a4 a5 cI cZ bf pw hs lo lg rt nb (nI fi) (nI fo) (nI en) on cu ma ++ (wM g0 b0 b1 b2 b3 b4 b5 cI cZ th bf pw hs lo lg rt nb (nI fi) (nI fo) (nI en) off cu ma ++ wO oj cJ og)) H := hP
  have hD : va_D A (wC h0 a0 a1 a2 a3 a4 a5 cI cZ bf pw hs lo lg rt nb (nI fi) (nI fo) (nI en) on cu ma ++ (wM g0 b0 b1 b2 b3 b4 b5 cI cZ th bf pw hs lo lg rt nb (nI fi) (nI fo) (nI en) off cu ma ++ wO oj cJ og)) := hD
  refine lv_aload_n hx hb dL_law_1088 rfl (lv_at hl 1 rfl) ?_
  refine k_I (wr := wM g0 b0 b1 b2 b3 b4 b5 cI cZ th bf pw hs lo lg rt nb (nI fi) (nI fo) (nI en) off cu ma ++ wO oj cJ og) hP hD hS hA (va_runV (As := []) (rest := []) ⟨hx, hb, hml, hown, hts⟩ (tX0_writes_ok bf pw hs lo lg rt nb fi fo en on cu ma _) (cwV 0 hts gL_law_X0_writes rfl rfl rfl (by decide +kernel) ⟨Nat.le_of_ble_eq_true rfl, Nat.le_of_ble_eq_true rfl⟩) (pV_B hP hD hK (ci := 0) (q0 := 0) rfl rfl rfl [0, 1] rfl [0, 1, 2, 3, 4, 5, 6] rfl rfl) rfl rfl hl.1 rfl (lv_room (Nat.le_of_ble_eq_true rfl)) dL_law_1089 hc0) [0, 1, 2, 3, 4, 5, 6] [7, 8, 9, 10, 11, 12, 13, 14] rfl rfl rfl (by decide) (fun H locs hP hD hS => ?_)
  have hP : va_P D vwCl (wC h0 a0 a1 a2 a3 a4 a5 cI cZ bf pw hs lo lg rt nb (nI fi) (nI fo) (nI en) on cu ma ++ (wM g0 b0 b1 b2 b3 b4 b5 cI cZ th bf pw hs lo lg rt nb (nI fi) (nI fo) (nI en) off cu ma ++ wO oj cJ og)) H := hP.sub [8, 9, 10, 11, 12, 13, 14, 0, 1, 2, 3, 4, 5, 6, 7] rfl
  have hD : va_D A (wC h0 a0 a1 a2 a3 a4 a5 cI cZ bf pw hs lo lg rt nb (nI fi) (nI fo) (nI en) on cu ma ++ (wM g0 b0 b1 b2 b3 b4 b5 cI cZ th bf pw hs lo lg rt nb (nI fi) (nI fo) (nI en) off cu ma ++ wO oj cJ og)) := hD.sub [8, 9, 10, 11, 12, 13, 14, 0, 1, 2, 3, 4, 5, 6, 7] (by decide) rfl
  refine lv_aload_n hx hb dL_law_1092 rfl (lv_at hl 2 rfl) ?_
  refine k_I (wr := wC h0 a0 a1 a2 a3 a4 a5 cI cZ bf pw hs lo lg rt nb (nI fi) (nI fo) (nI en) on cu ma ++ wO oj cJ og) hP hD hS hA (va_runV (As := []) (rest := [.int ma]) ⟨hx, hb, hml, hown, hts⟩ (tX1_writes_ok th bf pw hs lo lg rt nb fi fo en off cu ma _) (cwV 0 hts gL_law_X1_writes rfl rfl rfl (by decide +kernel) ⟨Nat.le_of_ble_eq_true rfl, Nat.le_of_ble_eq_true rfl⟩) (pV_B hP hD hK (ci := 1) (q0 := 7) rfl rfl rfl [0, 1] rfl [7, 8, 9, 10, 11, 12, 13] rfl rfl) rfl rfl hl.1 rfl (lv_room (Nat.le_of_ble_eq_true rfl)) dL_law_1093 hc0) [7, 8, 9, 10, 11, 12, 13] [0, 1, 2, 3, 4, 5, 6, 14] rfl rfl rfl (by decide) (fun H locs hP hD hS => ?_)
  have hP : va_P D vwCl (wC h0 a0 a1 a2 a3 a4 a5 cI cZ bf pw hs lo lg rt nb (nI fi) (nI fo) (nI en) on cu ma ++ (wM g0 b0 b1 b2 b3 b4 b5 cI cZ 0 bf pw hs lo lg rt nb (nI fi) (nI fo) (nI en) off cu ma ++ wO oj cJ og)) H := hP.sub [0, 1, 2, 3, 4, 5, 6, 8, 9, 10, 11, 12, 13, 14, 7] rfl
  have hD : va_D A (wC h0 a0 a1 a2 a3 a4 a5 cI cZ bf pw hs lo lg rt nb (nI fi) (nI fo) (nI en) on cu ma ++ (wM g0 b0 b1 b2 b3 b4 b5 cI cZ 0 bf pw hs lo lg rt nb (nI fi) (nI fo) (nI en) off cu ma ++ wO oj cJ og)) := hD.sub [0, 1, 2, 3, 4, 5, 6, 8, 9, 10, 11, 12, 13, 14, 7] (by decide) rfl
  refine lv_icmp_eq (tgt := 1176) hx hb dL_law_1096 (by decide) (fun c_1096 => ?_) (fun c_1096 => absurd (rfl) c_1096)
  refine W.widen (k := 15 + (j9 + 1)) (n := 199844 + 6 * (j9 + 1)) (by omega) (by omega) ?_
  refine lv_iinc (v := nI (4 * (j9 + 1))) (lv' := [(4, .int (nI (4 * (j9 + 1)))), (0, .ref b), (1, .ref h0), (2, .ref g0), (3, .ref oj)]) hx hb dL_law_1176 hl (k := 4) rfl (nI_add (4 * j9) 4) (by decide) rfl (fun ls hl => ?_)
  refine lv_goto (tgt := 23) hx hb dL_law_1179 (by decide) ?_
  exact IH bf pw hs lo lg rt nb fi fo en on off cu ma 0 og _ _ _ hpo (by omega) (by omega) (by omega) hcu hP hD hS (lv_sub hl [1, 2, 3, 4, 0] rfl)
set_option maxHeartbeats 4000000 in
set_option maxRecDepth 100000 in
theorem lo_cutAfter {p : Program} {l : Launch} {e : Env} {s : State} {m : MethodId} {below : List Frame} {meth : Method} {c : Code} {Q : State → Prop} {D : va_G} {A : Nat → Prop} {cI cZ cJ : ClassId} {b L : Nat} {xs : Nat → Int32} {h0 a0 a1 a2 a3 a4 a5 g0 b0 b1 b2 b3 b4 b5 oj : Nat} (hl0 : l.stackTraces = false) (hx : p.tables.exec = Jvm.exec) (hb : c.code = code) (hml : c.maxLocals = 7) (hown : s.vm.findClass RL = some m.cls) (hts : ∀ w ∈ wsL_law, w.before #[Value.ref b] s = true) (hX : va_X b L xs s s.heap) (hbl : b < s.heap.size) (hbA : ¬ A b) (hA : ∀ q : Nat, s.heap.size ≤ q → A q) (hK : va_K D vwCl (tyL cI cZ cJ) s) (hT : xT A s s.heap) (hL : L ≤ 2048) (j9 : Nat) (hj : 4 * j9 + 4 ≤ L)
    (IH : lgW p l e s m below meth c Q D A cI cZ cJ b h0 a0 a1 a2 a3 a4 a5 g0 b0 b1 b2 b3 b4 b5 oj (j9 + 1))
    (bf pw hs lo lg rt : Nat → Int32) (nb : Int32) (fi fo en : Nat) (on off cu ma th : Int32) (og : Nat → Int64) (H : Heap) (locs : List Loc) (ls : Array Slot) (hpo : (on = 0 ∧ off = 1) ∨ (on = 1 ∧ off = 0)) (hi1 : fi ≤ fo) (hi2 : fo ≤ en) (hi3 : en ≤ 64 * j9) (hcu : -1 ≤ cu)
    (hP : va_P D vwCl (wA h0 a0 a1 a2 a3 a4 a5 g0 b0 b1 b2 b3 b4 b5 oj cI cZ cJ bf pw hs lo lg rt nb fi fo en on off cu ma th og) H) (hD : va_D A (wA h0 a0 a1 a2 a3 a4 a5 g0 b0 b1 b2 b3 b4 b5 oj cI cZ cJ bf pw hs lo lg rt nb fi fo en on off cu ma th og)) (hS : va_S A s.heap H locs) (hl : lv_has ls 7 [(0, .ref b), (1, .ref h0), (2, .ref g0), (3, .ref oj), (4, .int (nI (4 * j9)))]) :
    W p l e room_1 s m #[Value.ref b] below meth c H locs (15 + j9) (199844 + 6 * j9) Q (F0 m 1101 ls []) := by
  have he : en ≤ 60000 := by omega
  have hc0 : 15 + j9 + 0 ≤ room_1.cells ∧ 199844 + 6 * j9 + 0 ≤ room_1.slots := ⟨show 15 + j9 + 0 ≤ 601024 by omega, show 199844 + 6 * j9 + 0 ≤ 7293034 by omega⟩
  have hc1 : 15 + j9 + 1 ≤ room_1.cells ∧ 199844 + 6 * j9 + 6 ≤ room_1.slots := ⟨show 15 + j9 + 1 ≤ 601024 by omega, show 199844 + 6 * j9 + 6 ≤ 7293034 by omega⟩
  have hc9 : 15 + j9 + 1 + 0 ≤ room_1.cells ∧ 199844 + 6 * j9 + 6 + 0 ≤ room_1.slots := hc1
  obtain ⟨x, ex⟩ : ∃ z9, xs (4 * j9 + 1) = z9 := ⟨_, rfl⟩
  by_cases h : x < -1
  · have hP : va_P D vwCl (wC h0 a0 a1 a2 a3 a4 a5 cI cZ bf pw hs lo lg rt nb (nI fi) (nI fo) (nI en) on cu ma ++ (wM g0 b0 b1 b2 b3 b4 b5 cI cZ th bf pw hs lo lg rt nb (nI fi) (nI fo) (nI en) off cu ma ++ wO oj cJ og)) H := hP
    have hD : va_D A (wC h0 a0 a1 a2 a3 a4 a5 cI cZ bf pw hs lo lg rt nb (nI fi) (nI fo) (nI en) on cu ma ++ (wM g0 b0 b1 b2 b3 b4 b5 cI cZ th bf pw hs lo lg rt nb (nI fi) (nI fo) (nI en) off cu ma ++ wO oj cJ og)) := hD
    refine lv_aload_n hx hb dL_law_1101 rfl (lv_at hl 1 rfl) ?_
    refine lv_aload_n hx hb dL_law_1102 rfl (lv_at hl 0 rfl) ?_
    refine lv_iload hx hb dL_law_1103 (lv_at hl 4 rfl) ?_
    refine lv_iconst (v := (nI 1)) hx hb dL_law_1105 (by decide) ?_
    refine n_iadd hx hb dL_law_1106 ?_
    refine n_sld hx hb hX hbl hbA hS (4 * j9 + 1) (by omega) (by omega) (x) ex dL_law_1107 ?_
    refine k_I (wr := wM g0 b0 b1 b2 b3 b4 b5 cI cZ th bf pw hs lo lg rt nb (nI fi) (nI fo) (nI en) off cu ma ++ wO oj cJ og) hP hD hS hA (vx_runSW (As := [.ref h0, .int x]) (rest := []) ⟨hx, hb, hml, hown, hts⟩ (tL_cutAfter_xb hl0 bf pw hs lo lg rt nb fi fo en on cu ma x h oj og _) (vx_cwSW 2 hts gL_law_L_cutAfter rfl rfl rfl (by decide +kernel) ⟨Nat.le_of_ble_eq_true rfl, Nat.le_of_ble_eq_true rfl⟩) (pS_X hP hD hK hS hA hT [0, 1, 2] rfl [0, 1, 2, 3, 4, 5, 6] rfl rfl) rfl rfl hl.1 rfl (lv_room (Nat.le_of_ble_eq_true rfl)) dL_law_1108 hc1) [0, 1, 2, 3, 4, 5, 6] [7, 8, 9, 10, 11, 12, 13, 14] rfl rfl rfl (by decide) (fun H locs hP hD hS => ?_)
    have hP : va_P D vwCl (wC h0 a0 a1 a2 a3 a4 a5 cI cZ bf pw hs lo lg rt nb (nI fi) (nI fo) (nI en) on cu ma ++ (wM g0 b0 b1 b2 b3 b4 b5 cI cZ th bf pw hs lo lg rt nb (nI fi) (nI fo) (nI en) off cu ma ++ wO oj cJ og)) H := hP.sub [8, 9, 10, 11, 12, 13, 14, 0, 1, 2, 3, 4, 5, 6, 7] rfl
    have hD : va_D A (wC h0 a0 a1 a2 a3 a4 a5 cI cZ bf pw hs lo lg rt nb (nI fi) (nI fo) (nI en) on cu ma ++ (wM g0 b0 b1 b2 b3 b4 b5 cI cZ th bf pw hs lo lg rt nb (nI fi) (nI fo) (nI en) off cu ma ++ wO oj cJ og)) := hD.sub [8, 9, 10, 11, 12, 13, 14, 0, 1, 2, 3, 4, 5, 6, 7] (by decide) rfl
    refine lv_istore (lv' := [(5, .int 1), (0, .ref b), (1, .ref h0), (2, .ref g0), (3, .ref oj), (4, .int (nI (4 * j9)))]) hx hb dL_law_1111 hl (by decide) rfl (fun ls hl => ?_)
    refine lv_aload_n hx hb dL_law_1113 rfl (lv_at hl 3 rfl) ?_
    refine lv_aload_n hx hb dL_law_1114 rfl (lv_at hl 1 rfl) ?_
    refine lv_iload hx hb dL_law_1115 (lv_at hl 5 rfl) ?_
    refine lv_iconst (v := (nI 1)) hx hb dL_law_1117 (by decide) ?_
    refine n_iadd hx hb dL_law_1118 ?_
    refine n_sld hx hb hX hbl hbA hS (4 * j9 + 1) (by omega) (by omega) (x) ex dL_law_1119 ?_
    refine k_V (wr := wC h0 a0 a1 a2 a3 a4 a5 cI cZ bf pw hs lo lg rt nb (nI fi) (nI fo) (nI en) on cu ma ++ wO oj cJ og) hP hD hS hA (va_runV (As := [.int x]) (rest := []) ⟨hx, hb, hml, hown, hts⟩ (tX1_cutAfter_xb th bf pw hs lo lg rt nb fi fo en off cu ma x h _) (cwV 1 hts gL_law_X1_cutAfter rfl rfl rfl (by decide +kernel) ⟨Nat.le_of_ble_eq_true rfl, Nat.le_of_ble_eq_true rfl⟩) (pV_B hP hD hK (ci := 1) (q0 := 7) rfl rfl rfl [0, 1] rfl [7, 8, 9, 10, 11, 12, 13] rfl rfl) rfl rfl hl.1 rfl (lv_room (Nat.le_of_ble_eq_true rfl)) dL_law_1120 hc9) [7, 8, 9, 10, 11, 12, 13] [0, 1, 2, 3, 4, 5, 6, 14] rfl rfl rfl (by decide) (fun H locs hP hD hS => ?_)
    have hP : va_P D vwCl (wC h0 a0 a1 a2 a3 a4 a5 cI cZ bf pw hs lo lg rt nb (nI fi) (nI fo) (nI en) on cu ma ++ (wM g0 b0 b1 b2 b3 b4 b5 cI cZ 1 bf pw hs lo lg rt nb (nI fi) (nI fo) (nI en) off cu ma ++ wO oj cJ og)) H := hP.sub [0, 1, 2, 3, 4, 5, 6, 8, 9, 10, 11, 12, 13, 14, 7] rfl
    have hD : va_D A (wC h0 a0 a1 a2 a3 a4 a5 cI cZ bf pw hs lo lg rt nb (nI fi) (nI fo) (nI en) on cu ma ++ (wM g0 b0 b1 b2 b3 b4 b5 cI cZ 1 bf pw hs lo lg rt nb (nI fi) (nI fo) (nI en) off cu ma ++ wO oj cJ og)) := hD.sub [0, 1, 2, 3, 4, 5, 6, 8, 9, 10, 11, 12, 13, 14, 7] (by decide) rfl
    refine lv_aload_n hx hb dL_law_1123 rfl (lv_at hl 3 rfl) ?_
    refine k_I (wr := wC h0 a0 a1 a2 a3 a4 a5 cI cZ bf pw hs lo lg rt nb (nI fi) (nI fo) (nI en) on cu ma ++ wO oj cJ og) hP hD hS hA (va_runV (As := []) (rest := []) ⟨hx, hb, hml, hown, hts⟩ (tX1_thrown 1 bf pw hs lo lg rt nb fi fo en off cu ma _) (cwV 0 hts gL_law_X1_thrown rfl rfl rfl (by decide +kernel) ⟨Nat.le_of_ble_eq_true rfl, Nat.le_of_ble_eq_true rfl⟩) (pV_B hP hD hK (ci := 1) (q0 := 7) rfl rfl rfl [0, 1] rfl [7, 8, 9, 10, 11, 12, 13] rfl rfl) rfl rfl hl.1 rfl (lv_room (Nat.le_of_ble_eq_true rfl)) dL_law_1124 hc9) [7, 8, 9, 10, 11, 12, 13] [0, 1, 2, 3, 4, 5, 6, 14] rfl rfl rfl (by decide) (fun H locs hP hD hS => ?_)
    have hP : va_P D vwCl (wC h0 a0 a1 a2 a3 a4 a5 cI cZ bf pw hs lo lg rt nb (nI fi) (nI fo) (nI en) on cu ma ++ (wM g0 b0 b1 b2 b3 b4 b5 cI cZ 1 bf pw hs lo lg rt nb (nI fi) (nI fo) (nI en) off cu ma ++ wO oj cJ og)) H := hP.sub [0, 1, 2, 3, 4, 5, 6, 8, 9, 10, 11, 12, 13, 14, 7] rfl
    have hD : va_D A (wC h0 a0 a1 a2 a3 a4 a5 cI cZ bf pw hs lo lg rt nb (nI fi) (nI fo) (nI en) on cu ma ++ (wM g0 b0 b1 b2 b3 b4 b5 cI cZ 1 bf pw hs lo lg rt nb (nI fi) (nI fo) (nI en) off cu ma ++ wO oj cJ og)) := hD.sub [0, 1, 2, 3, 4, 5, 6, 8, 9, 10, 11, 12, 13, 14, 7] (by decide) rfl
    refine lv_iload hx hb dL_law_1127 (lv_at hl 0 rfl) ?_
    refine lv_icmp_eq (tgt := 1134) hx hb dL_law_1129 (by decide) (fun c_1129 => ?_) (fun c_1129 => absurd (by decide) c_1129)
    refine lv_goto (tgt := 1176) hx hb dL_law_1134 (by decide) ?_
    refine W.widen (k := 15 + (j9 + 1)) (n := 199844 + 6 * (j9 + 1)) (by omega) (by omega) ?_
    refine lv_iinc (v := nI (4 * (j9 + 1))) (lv' := [(4, .int (nI (4 * (j9 + 1)))), (5, .int 1), (0, .ref b), (1, .ref h0), (2, .ref g0), (3, .ref oj)]) hx hb dL_law_1176 hl (k := 5) rfl (nI_add (4 * j9) 4) (by decide) rfl (fun ls hl => ?_)
    refine lv_goto (tgt := 23) hx hb dL_law_1179 (by decide) ?_
    exact IH bf pw hs lo lg rt nb fi fo en on off cu ma 1 og _ _ _ hpo (by omega) (by omega) (by omega) hcu hP hD hS (lv_sub hl [2, 3, 4, 5, 0] rfl)
  · have h : -1 ≤ x := Int32.not_lt.mp h
    have hP : va_P D vwCl (wC h0 a0 a1 a2 a3 a4 a5 cI cZ bf pw hs lo lg rt nb (nI fi) (nI fo) (nI en) on cu ma ++ (wM g0 b0 b1 b2 b3 b4 b5 cI cZ th bf pw hs lo lg rt nb (nI fi) (nI fo) (nI en) off cu ma ++ wO oj cJ og)) H := hP
    have hD : va_D A (wC h0 a0 a1 a2 a3 a4 a5 cI cZ bf pw hs lo lg rt nb (nI fi) (nI fo) (nI en) on cu ma ++ (wM g0 b0 b1 b2 b3 b4 b5 cI cZ th bf pw hs lo lg rt nb (nI fi) (nI fo) (nI en) off cu ma ++ wO oj cJ og)) := hD
    refine lv_aload_n hx hb dL_law_1101 rfl (lv_at hl 1 rfl) ?_
    refine lv_aload_n hx hb dL_law_1102 rfl (lv_at hl 0 rfl) ?_
    refine lv_iload hx hb dL_law_1103 (lv_at hl 4 rfl) ?_
    refine lv_iconst (v := (nI 1)) hx hb dL_law_1105 (by decide) ?_
    refine n_iadd hx hb dL_law_1106 ?_
    refine n_sld hx hb hX hbl hbA hS (4 * j9 + 1) (by omega) (by omega) (x) ex dL_law_1107 ?_
    refine k_I (wr := wM g0 b0 b1 b2 b3 b4 b5 cI cZ th bf pw hs lo lg rt nb (nI fi) (nI fo) (nI en) off cu ma ++ wO oj cJ og) hP hD hS hA (vx_runSW (As := [.ref h0, .int x]) (rest := []) ⟨hx, hb, hml, hown, hts⟩ (tL_cutAfter_ok hl0 bf pw hs lo lg rt nb fi fo en on cu ma x h oj og _) (vx_cwSW 2 hts gL_law_L_cutAfter rfl rfl rfl (by decide +kernel) ⟨Nat.le_of_ble_eq_true rfl, Nat.le_of_ble_eq_true rfl⟩) (pS_X hP hD hK hS hA hT [0, 1, 2] rfl [0, 1, 2, 3, 4, 5, 6] rfl rfl) rfl rfl hl.1 rfl (lv_room (Nat.le_of_ble_eq_true rfl)) dL_law_1108 hc1) [0, 1, 2, 3, 4, 5, 6] [7, 8, 9, 10, 11, 12, 13, 14] rfl rfl rfl (by decide) (fun H locs hP hD hS => ?_)
    have hP : va_P D vwCl (wC h0 a0 a1 a2 a3 a4 a5 cI cZ bf pw hs lo lg rt nb (nI fi) (nI fo) (nI en) on x ma ++ (wM g0 b0 b1 b2 b3 b4 b5 cI cZ th bf pw hs lo lg rt nb (nI fi) (nI fo) (nI en) off cu ma ++ wO oj cJ og)) H := hP.sub [8, 9, 10, 11, 12, 13, 14, 0, 1, 2, 3, 4, 5, 6, 7] rfl
    have hD : va_D A (wC h0 a0 a1 a2 a3 a4 a5 cI cZ bf pw hs lo lg rt nb (nI fi) (nI fo) (nI en) on x ma ++ (wM g0 b0 b1 b2 b3 b4 b5 cI cZ th bf pw hs lo lg rt nb (nI fi) (nI fo) (nI en) off cu ma ++ wO oj cJ og)) := hD.sub [8, 9, 10, 11, 12, 13, 14, 0, 1, 2, 3, 4, 5, 6, 7] (by decide) rfl
    refine lv_istore (lv' := [(5, .int 0), (0, .ref b), (1, .ref h0), (2, .ref g0), (3, .ref oj), (4, .int (nI (4 * j9)))]) hx hb dL_law_1111 hl (by decide) rfl (fun ls hl => ?_)
    refine lv_aload_n hx hb dL_law_1113 rfl (lv_at hl 3 rfl) ?_
    refine lv_aload_n hx hb dL_law_1114 rfl (lv_at hl 1 rfl) ?_
    refine lv_iload hx hb dL_law_1115 (lv_at hl 5 rfl) ?_
    refine lv_iconst (v := (nI 1)) hx hb dL_law_1117 (by decide) ?_
    refine n_iadd hx hb dL_law_1118 ?_
    refine n_sld hx hb hX hbl hbA hS (4 * j9 + 1) (by omega) (by omega) (x) ex dL_law_1119 ?_
    refine k_V (wr := wC h0 a0 a1 a2 a3 a4 a5 cI cZ bf pw hs lo lg rt nb (nI fi) (nI fo) (nI en) on x ma ++ wO oj cJ og) hP hD hS hA (va_runV (As := [.int x]) (rest := []) ⟨hx, hb, hml, hown, hts⟩ (tX1_cutAfter_ok th bf pw hs lo lg rt nb fi fo en off cu ma x h _) (cwV 1 hts gL_law_X1_cutAfter rfl rfl rfl (by decide +kernel) ⟨Nat.le_of_ble_eq_true rfl, Nat.le_of_ble_eq_true rfl⟩) (pV_B hP hD hK (ci := 1) (q0 := 7) rfl rfl rfl [0, 1] rfl [7, 8, 9, 10, 11, 12, 13] rfl rfl) rfl rfl hl.1 rfl (lv_room (Nat.le_of_ble_eq_true rfl)) dL_law_1120 hc9) [7, 8, 9, 10, 11, 12, 13] [0, 1, 2, 3, 4, 5, 6, 14] rfl rfl rfl (by decide) (fun H locs hP hD hS => ?_)
    have hP : va_P D vwCl (wC h0 a0 a1 a2 a3 a4 a5 cI cZ bf pw hs lo lg rt nb (nI fi) (nI fo) (nI en) on x ma ++ (wM g0 b0 b1 b2 b3 b4 b5 cI cZ 0 bf pw hs lo lg rt nb (nI fi) (nI fo) (nI en) off x ma ++ wO oj cJ og)) H := hP.sub [0, 1, 2, 3, 4, 5, 6, 8, 9, 10, 11, 12, 13, 14, 7] rfl
    have hD : va_D A (wC h0 a0 a1 a2 a3 a4 a5 cI cZ bf pw hs lo lg rt nb (nI fi) (nI fo) (nI en) on x ma ++ (wM g0 b0 b1 b2 b3 b4 b5 cI cZ 0 bf pw hs lo lg rt nb (nI fi) (nI fo) (nI en) off x ma ++ wO oj cJ og)) := hD.sub [0, 1, 2, 3, 4, 5, 6, 8, 9, 10, 11, 12, 13, 14, 7] (by decide) rfl
    refine lv_aload_n hx hb dL_law_1123 rfl (lv_at hl 3 rfl) ?_
    refine k_I (wr := wC h0 a0 a1 a2 a3 a4 a5 cI cZ bf pw hs lo lg rt nb (nI fi) (nI fo) (nI en) on x ma ++ wO oj cJ og) hP hD hS hA (va_runV (As := []) (rest := []) ⟨hx, hb, hml, hown, hts⟩ (tX1_thrown 0 bf pw hs lo lg rt nb fi fo en off x ma _) (cwV 0 hts gL_law_X1_thrown rfl rfl rfl (by decide +kernel) ⟨Nat.le_of_ble_eq_true rfl, Nat.le_of_ble_eq_true rfl⟩) (pV_B hP hD hK (ci := 1) (q0 := 7) rfl rfl rfl [0, 1] rfl [7, 8, 9, 10, 11, 12, 13] rfl rfl) rfl rfl hl.1 rfl (lv_room (Nat.le_of_ble_eq_true rfl)) dL_law_1124 hc9) [7, 8, 9, 10, 11, 12, 13] [0, 1, 2, 3, 4, 5, 6, 14] rfl rfl rfl (by decide) (fun H locs hP hD hS => ?_)
    have hP : va_P D vwCl (wC h0 a0 a1 a2 a3 a4 a5 cI cZ bf pw hs lo lg rt nb (nI fi) (nI fo) (nI en) on x ma ++ (wM g0 b0 b1 b2 b3 b4 b5 cI cZ 0 bf pw hs lo lg rt nb (nI fi) (nI fo) (nI en) off x ma ++ wO oj cJ og)) H := hP.sub [0, 1, 2, 3, 4, 5, 6, 8, 9, 10, 11, 12, 13, 14, 7] rfl
    have hD : va_D A (wC h0 a0 a1 a2 a3 a4 a5 cI cZ bf pw hs lo lg rt nb (nI fi) (nI fo) (nI en) on x ma ++ (wM g0 b0 b1 b2 b3 b4 b5 cI cZ 0 bf pw hs lo lg rt nb (nI fi) (nI fo) (nI en) off x ma ++ wO oj cJ og)) := hD.sub [0, 1, 2, 3, 4, 5, 6, 8, 9, 10, 11, 12, 13, 14, 7] (by decide) rfl
    refine lv_iload hx hb dL_law_1127 (lv_at hl 0 rfl) ?_
    refine lv_icmp_eq (tgt := 1134) hx hb dL_law_1129 (by decide) (fun c_1129 => ?_) (fun c_1129 => absurd (by decide) c_1129)
    refine lv_goto (tgt := 1176) hx hb dL_law_1134 (by decide) ?_
    refine W.widen (k := 15 + (j9 + 1)) (n := 199844 + 6 * (j9 + 1)) (by omega) (by omega) ?_
    refine lv_iinc (v := nI (4 * (j9 + 1))) (lv' := [(4, .int (nI (4 * (j9 + 1)))), (5, .int 0), (0, .ref b), (1, .ref h0), (2, .ref g0), (3, .ref oj)]) hx hb dL_law_1176 hl (k := 5) rfl (nI_add (4 * j9) 4) (by decide) rfl (fun ls hl => ?_)
    refine lv_goto (tgt := 23) hx hb dL_law_1179 (by decide) ?_
    exact IH bf pw hs lo lg rt nb fi fo en on off x ma 0 og _ _ _ hpo (by omega) (by omega) (by omega) h hP hD hS (lv_sub hl [2, 3, 4, 5, 0] rfl)
set_option maxHeartbeats 4000000 in
set_option maxRecDepth 100000 in
theorem lo_cut {p : Program} {l : Launch} {e : Env} {s : State} {m : MethodId} {below : List Frame} {meth : Method} {c : Code} {Q : State → Prop} {D : va_G} {A : Nat → Prop} {cI cZ cJ : ClassId} {b L : Nat} {xs : Nat → Int32} {h0 a0 a1 a2 a3 a4 a5 g0 b0 b1 b2 b3 b4 b5 oj : Nat} (hl0 : l.stackTraces = false) (hx : p.tables.exec = Jvm.exec) (hb : c.code = code) (hml : c.maxLocals = 7) (hown : s.vm.findClass RL = some m.cls) (hts : ∀ w ∈ wsL_law, w.before #[Value.ref b] s = true) (hX : va_X b L xs s s.heap) (hbl : b < s.heap.size) (hbA : ¬ A b) (hA : ∀ q : Nat, s.heap.size ≤ q → A q) (hK : va_K D vwCl (tyL cI cZ cJ) s) (hT : xT A s s.heap) (hL : L ≤ 2048) (j9 : Nat) (hj : 4 * j9 + 4 ≤ L)
    (IH : lgW p l e s m below meth c Q D A cI cZ cJ b h0 a0 a1 a2 a3 a4 a5 g0 b0 b1 b2 b3 b4 b5 oj (j9 + 1))
    (bf pw hs lo lg rt : Nat → Int32) (nb : Int32) (fi fo en : Nat) (on off cu ma th : Int32) (og : Nat → Int64) (H : Heap) (locs : List Loc) (ls : Array Slot) (hpo : (on = 0 ∧ off = 1) ∨ (on = 1 ∧ off = 0)) (hi1 : fi ≤ fo) (hi2 : fo ≤ en) (hi3 : en ≤ 64 * j9) (hcu : -1 ≤ cu)
    (hP : va_P D vwCl (wA h0 a0 a1 a2 a3 a4 a5 g0 b0 b1 b2 b3 b4 b5 oj cI cZ cJ bf pw hs lo lg rt nb fi fo en on off cu ma th og) H) (hD : va_D A (wA h0 a0 a1 a2 a3 a4 a5 g0 b0 b1 b2 b3 b4 b5 oj cI cZ cJ bf pw hs lo lg rt nb fi fo en on off cu ma th og)) (hS : va_S A s.heap H locs) (hl : lv_has ls 7 [(0, .ref b), (1, .ref h0), (2, .ref g0), (3, .ref oj), (4, .int (nI (4 * j9)))]) :
    W p l e room_1 s m #[Value.ref b] below meth c H locs (15 + j9) (199844 + 6 * j9) Q (F0 m 1137 ls []) := by
  have he : en ≤ 60000 := by omega
  have hc0 : 15 + j9 + 0 ≤ room_1.cells ∧ 199844 + 6 * j9 + 0 ≤ room_1.slots := ⟨show 15 + j9 + 0 ≤ 601024 by omega, show 199844 + 6 * j9 + 0 ≤ 7293034 by omega⟩
  have hc1 : 15 + j9 + 1 ≤ room_1.cells ∧ 199844 + 6 * j9 + 6 ≤ room_1.slots := ⟨show 15 + j9 + 1 ≤ 601024 by omega, show 199844 + 6 * j9 + 6 ≤ 7293034 by omega⟩
  have hc9 : 15 + j9 + 1 + 0 ≤ room_1.cells ∧ 199844 + 6 * j9 + 6 + 0 ≤ room_1.slots := hc1
  rcases hpo with ⟨rfl, rfl⟩ | ⟨rfl, rfl⟩
  · have hP : va_P D vwCl (wC h0 a0 a1 a2 a3 a4 a5 cI cZ bf pw hs lo lg rt nb (nI fi) (nI fo) (nI en) 0 cu ma ++ (wM g0 b0 b1 b2 b3 b4 b5 cI cZ th bf pw hs lo lg rt nb (nI fi) (nI fo) (nI en) 1 cu ma ++ wO oj cJ og)) H := hP
    have hD : va_D A (wC h0 a0 a1 a2 a3 a4 a5 cI cZ bf pw hs lo lg rt nb (nI fi) (nI fo) (nI en) 0 cu ma ++ (wM g0 b0 b1 b2 b3 b4 b5 cI cZ th bf pw hs lo lg rt nb (nI fi) (nI fo) (nI en) 1 cu ma ++ wO oj cJ og)) := hD
    refine lv_aload_n hx hb dL_law_1137 rfl (lv_at hl 1 rfl) ?_
    refine k_I (wr := wM g0 b0 b1 b2 b3 b4 b5 cI cZ th bf pw hs lo lg rt nb (nI fi) (nI fo) (nI en) 1 cu ma ++ wO oj cJ og) hP hD hS hA (va_runV (As := []) (rest := []) ⟨hx, hb, hml, hown, hts⟩ (tX0_cut_off bf pw hs lo lg rt nb fi fo en cu ma _) (cwV 0 hts gL_law_X0_cut rfl rfl rfl (by decide +kernel) ⟨Nat.le_of_ble_eq_true rfl, Nat.le_of_ble_eq_true rfl⟩) (pV_B hP hD hK (ci := 0) (q0 := 0) rfl rfl rfl [0, 1] rfl [0, 1, 2, 3, 4, 5, 6] rfl rfl) rfl rfl hl.1 rfl (lv_room (Nat.le_of_ble_eq_true rfl)) dL_law_1138 hc0) [0, 1, 2, 3, 4, 5, 6] [7, 8, 9, 10, 11, 12, 13, 14] rfl rfl rfl (by decide) (fun H locs hP hD hS => ?_)
    have hP : va_P D vwCl (wC h0 a0 a1 a2 a3 a4 a5 cI cZ bf pw hs lo lg rt nb (nI fi) (nI fo) (nI en) 0 cu ma ++ (wM g0 b0 b1 b2 b3 b4 b5 cI cZ th bf pw hs lo lg rt nb (nI fi) (nI fo) (nI en) 1 cu ma ++ wO oj cJ og)) H := hP.sub [8, 9, 10, 11, 12, 13, 14, 0, 1, 2, 3, 4, 5, 6, 7] rfl
    have hD : va_D A (wC h0 a0 a1 a2 a3 a4 a5 cI cZ bf pw hs lo lg rt nb (nI fi) (nI fo) (nI en) 0 cu ma ++ (wM g0 b0 b1 b2 b3 b4 b5 cI cZ th bf pw hs lo lg rt nb (nI fi) (nI fo) (nI en) 1 cu ma ++ wO oj cJ og)) := hD.sub [8, 9, 10, 11, 12, 13, 14, 0, 1, 2, 3, 4, 5, 6, 7] (by decide) rfl
    refine lv_aload_n hx hb dL_law_1141 rfl (lv_at hl 2 rfl) ?_
    refine k_I (wr := wC h0 a0 a1 a2 a3 a4 a5 cI cZ bf pw hs lo lg rt nb (nI fi) (nI fo) (nI en) 0 cu ma ++ wO oj cJ og) hP hD hS hA (va_runV (As := []) (rest := [.int 0]) ⟨hx, hb, hml, hown, hts⟩ (tX1_cut_off th bf pw hs lo lg rt nb fi fo en cu ma _) (cwV 0 hts gL_law_X1_cut rfl rfl rfl (by decide +kernel) ⟨Nat.le_of_ble_eq_true rfl, Nat.le_of_ble_eq_true rfl⟩) (pV_B hP hD hK (ci := 1) (q0 := 7) rfl rfl rfl [0, 1] rfl [7, 8, 9, 10, 11, 12, 13] rfl rfl) rfl rfl hl.1 rfl (lv_room (Nat.le_of_ble_eq_true rfl)) dL_law_1142 hc0) [7, 8, 9, 10, 11, 12, 13] [0, 1, 2, 3, 4, 5, 6, 14] rfl rfl rfl (by decide) (fun H locs hP hD hS => ?_)
    have hP : va_P D vwCl (wC h0 a0 a1 a2 a3 a4 a5 cI cZ bf pw hs lo lg rt nb (nI fi) (nI fo) (nI en) 0 cu ma ++ (wM g0 b0 b1 b2 b3 b4 b5 cI cZ 0 bf pw hs lo lg rt nb (nI fi) (nI fo) (nI en) 1 cu ma ++ wO oj cJ og)) H := hP.sub [0, 1, 2, 3, 4, 5, 6, 8, 9, 10, 11, 12, 13, 14, 7] rfl
    have hD : va_D A (wC h0 a0 a1 a2 a3 a4 a5 cI cZ bf pw hs lo lg rt nb (nI fi) (nI fo) (nI en) 0 cu ma ++ (wM g0 b0 b1 b2 b3 b4 b5 cI cZ 0 bf pw hs lo lg rt nb (nI fi) (nI fo) (nI en) 1 cu ma ++ wO oj cJ og)) := hD.sub [0, 1, 2, 3, 4, 5, 6, 8, 9, 10, 11, 12, 13, 14, 7] (by decide) rfl
    refine lv_icmp_eq (tgt := 1176) hx hb dL_law_1145 (by decide) (fun c_1145 => ?_) (fun c_1145 => absurd (by decide) c_1145)
    refine W.widen (k := 15 + (j9 + 1)) (n := 199844 + 6 * (j9 + 1)) (by omega) (by omega) ?_
    refine lv_iinc (v := nI (4 * (j9 + 1))) (lv' := [(4, .int (nI (4 * (j9 + 1)))), (0, .ref b), (1, .ref h0), (2, .ref g0), (3, .ref oj)]) hx hb dL_law_1176 hl (k := 4) rfl (nI_add (4 * j9) 4) (by decide) rfl (fun ls hl => ?_)
    refine lv_goto (tgt := 23) hx hb dL_law_1179 (by decide) ?_
    exact IH bf pw hs lo lg rt nb fi fo en 0 1 cu ma 0 og _ _ _ (Or.inl ⟨rfl, rfl⟩) (by omega) (by omega) (by omega) hcu hP hD hS (lv_sub hl [1, 2, 3, 4, 0] rfl)
  · have hP : va_P D vwCl (wC h0 a0 a1 a2 a3 a4 a5 cI cZ bf pw hs lo lg rt nb (nI fi) (nI fo) (nI en) 1 cu ma ++ (wM g0 b0 b1 b2 b3 b4 b5 cI cZ th bf pw hs lo lg rt nb (nI fi) (nI fo) (nI en) 0 cu ma ++ wO oj cJ og)) H := hP
    have hD : va_D A (wC h0 a0 a1 a2 a3 a4 a5 cI cZ bf pw hs lo lg rt nb (nI fi) (nI fo) (nI en) 1 cu ma ++ (wM g0 b0 b1 b2 b3 b4 b5 cI cZ th bf pw hs lo lg rt nb (nI fi) (nI fo) (nI en) 0 cu ma ++ wO oj cJ og)) := hD
    refine lv_aload_n hx hb dL_law_1137 rfl (lv_at hl 1 rfl) ?_
    refine k_I (wr := wM g0 b0 b1 b2 b3 b4 b5 cI cZ th bf pw hs lo lg rt nb (nI fi) (nI fo) (nI en) 0 cu ma ++ wO oj cJ og) hP hD hS hA (va_runV (As := []) (rest := []) ⟨hx, hb, hml, hown, hts⟩ (tX0_cut_ok bf pw hs lo lg rt nb fi fo en cu ma _) (cwV 0 hts gL_law_X0_cut rfl rfl rfl (by decide +kernel) ⟨Nat.le_of_ble_eq_true rfl, Nat.le_of_ble_eq_true rfl⟩) (pV_B hP hD hK (ci := 0) (q0 := 0) rfl rfl rfl [0, 1] rfl [0, 1, 2, 3, 4, 5, 6] rfl rfl) rfl rfl hl.1 rfl (lv_room (Nat.le_of_ble_eq_true rfl)) dL_law_1138 hc0) [0, 1, 2, 3, 4, 5, 6] [7, 8, 9, 10, 11, 12, 13, 14] rfl rfl rfl (by decide) (fun H locs hP hD hS => ?_)
    have hP : va_P D vwCl (wC h0 a0 a1 a2 a3 a4 a5 cI cZ (zf bf) pw hs lo lg rt nb (nI fi) (nI fo) (nI fo) 0 cu ma ++ (wM g0 b0 b1 b2 b3 b4 b5 cI cZ th bf pw hs lo lg rt nb (nI fi) (nI fo) (nI en) 0 cu ma ++ wO oj cJ og)) H := hP.sub [8, 9, 10, 11, 12, 13, 14, 0, 1, 2, 3, 4, 5, 6, 7] rfl
    have hD : va_D A (wC h0 a0 a1 a2 a3 a4 a5 cI cZ (zf bf) pw hs lo lg rt nb (nI fi) (nI fo) (nI fo) 0 cu ma ++ (wM g0 b0 b1 b2 b3 b4 b5 cI cZ th bf pw hs lo lg rt nb (nI fi) (nI fo) (nI en) 0 cu ma ++ wO oj cJ og)) := hD.sub [8, 9, 10, 11, 12, 13, 14, 0, 1, 2, 3, 4, 5, 6, 7] (by decide) rfl
    refine lv_aload_n hx hb dL_law_1141 rfl (lv_at hl 2 rfl) ?_
    refine k_I (wr := wC h0 a0 a1 a2 a3 a4 a5 cI cZ (zf bf) pw hs lo lg rt nb (nI fi) (nI fo) (nI fo) 0 cu ma ++ wO oj cJ og) hP hD hS hA (va_runV (As := []) (rest := [.int 1]) ⟨hx, hb, hml, hown, hts⟩ (tX1_cut_ok th bf pw hs lo lg rt nb fi fo en cu ma _) (cwV 0 hts gL_law_X1_cut rfl rfl rfl (by decide +kernel) ⟨Nat.le_of_ble_eq_true rfl, Nat.le_of_ble_eq_true rfl⟩) (pV_B hP hD hK (ci := 1) (q0 := 7) rfl rfl rfl [0, 1] rfl [7, 8, 9, 10, 11, 12, 13] rfl rfl) rfl rfl hl.1 rfl (lv_room (Nat.le_of_ble_eq_true rfl)) dL_law_1142 hc0) [7, 8, 9, 10, 11, 12, 13] [0, 1, 2, 3, 4, 5, 6, 14] rfl rfl rfl (by decide) (fun H locs hP hD hS => ?_)
    have hP : va_P D vwCl (wC h0 a0 a1 a2 a3 a4 a5 cI cZ (zf bf) pw hs lo lg rt nb (nI fi) (nI fo) (nI fo) 0 cu ma ++ (wM g0 b0 b1 b2 b3 b4 b5 cI cZ 0 (zf bf) pw hs lo lg rt nb (nI fi) (nI fo) (nI fo) 1 cu ma ++ wO oj cJ og)) H := hP.sub [0, 1, 2, 3, 4, 5, 6, 8, 9, 10, 11, 12, 13, 14, 7] rfl
    have hD : va_D A (wC h0 a0 a1 a2 a3 a4 a5 cI cZ (zf bf) pw hs lo lg rt nb (nI fi) (nI fo) (nI fo) 0 cu ma ++ (wM g0 b0 b1 b2 b3 b4 b5 cI cZ 0 (zf bf) pw hs lo lg rt nb (nI fi) (nI fo) (nI fo) 1 cu ma ++ wO oj cJ og)) := hD.sub [0, 1, 2, 3, 4, 5, 6, 8, 9, 10, 11, 12, 13, 14, 7] (by decide) rfl
    refine lv_icmp_eq (tgt := 1176) hx hb dL_law_1145 (by decide) (fun c_1145 => ?_) (fun c_1145 => absurd (by decide) c_1145)
    refine W.widen (k := 15 + (j9 + 1)) (n := 199844 + 6 * (j9 + 1)) (by omega) (by omega) ?_
    refine lv_iinc (v := nI (4 * (j9 + 1))) (lv' := [(4, .int (nI (4 * (j9 + 1)))), (0, .ref b), (1, .ref h0), (2, .ref g0), (3, .ref oj)]) hx hb dL_law_1176 hl (k := 4) rfl (nI_add (4 * j9) 4) (by decide) rfl (fun ls hl => ?_)
    refine lv_goto (tgt := 23) hx hb dL_law_1179 (by decide) ?_
    exact IH (zf bf) pw hs lo lg rt nb fi fo fo 0 1 cu ma 0 og _ _ _ (Or.inl ⟨rfl, rfl⟩) (by omega) (by omega) (by omega) hcu hP hD hS (lv_sub hl [1, 2, 3, 4, 0] rfl)
set_option maxHeartbeats 4000000 in
set_option maxRecDepth 100000 in
theorem lo_start {p : Program} {l : Launch} {e : Env} {s : State} {m : MethodId} {below : List Frame} {meth : Method} {c : Code} {Q : State → Prop} {D : va_G} {A : Nat → Prop} {cI cZ cJ : ClassId} {b L : Nat} {xs : Nat → Int32} {h0 a0 a1 a2 a3 a4 a5 g0 b0 b1 b2 b3 b4 b5 oj : Nat} (hl0 : l.stackTraces = false) (hx : p.tables.exec = Jvm.exec) (hb : c.code = code) (hml : c.maxLocals = 7) (hown : s.vm.findClass RL = some m.cls) (hts : ∀ w ∈ wsL_law, w.before #[Value.ref b] s = true) (hX : va_X b L xs s s.heap) (hbl : b < s.heap.size) (hbA : ¬ A b) (hA : ∀ q : Nat, s.heap.size ≤ q → A q) (hK : va_K D vwCl (tyL cI cZ cJ) s) (hT : xT A s s.heap) (hL : L ≤ 2048) (j9 : Nat) (hj : 4 * j9 + 4 ≤ L)
    (IH : lgW p l e s m below meth c Q D A cI cZ cJ b h0 a0 a1 a2 a3 a4 a5 g0 b0 b1 b2 b3 b4 b5 oj (j9 + 1))
    (bf pw hs lo lg rt : Nat → Int32) (nb : Int32) (fi fo en : Nat) (on off cu ma th : Int32) (og : Nat → Int64) (H : Heap) (locs : List Loc) (ls : Array Slot) (hpo : (on = 0 ∧ off = 1) ∨ (on = 1 ∧ off = 0)) (hi1 : fi ≤ fo) (hi2 : fo ≤ en) (hi3 : en ≤ 64 * j9) (hcu : -1 ≤ cu)
    (hP : va_P D vwCl (wA h0 a0 a1 a2 a3 a4 a5 g0 b0 b1 b2 b3 b4 b5 oj cI cZ cJ bf pw hs lo lg rt nb fi fo en on off cu ma th og) H) (hD : va_D A (wA h0 a0 a1 a2 a3 a4 a5 g0 b0 b1 b2 b3 b4 b5 oj cI cZ cJ bf pw hs lo lg rt nb fi fo en on off cu ma th og)) (hS : va_S A s.heap H locs) (hl : lv_has ls 7 [(0, .ref b), (1, .ref h0), (2, .ref g0), (3, .ref oj), (4, .int (nI (4 * j9)))]) :
    W p l e room_1 s m #[Value.ref b] below meth c H locs (15 + j9) (199844 + 6 * j9) Q (F0 m 1150 ls []) := by
  have he : en ≤ 60000 := by omega
  have hc0 : 15 + j9 + 0 ≤ room_1.cells ∧ 199844 + 6 * j9 + 0 ≤ room_1.slots := ⟨show 15 + j9 + 0 ≤ 601024 by omega, show 199844 + 6 * j9 + 0 ≤ 7293034 by omega⟩
  have hc1 : 15 + j9 + 1 ≤ room_1.cells ∧ 199844 + 6 * j9 + 6 ≤ room_1.slots := ⟨show 15 + j9 + 1 ≤ 601024 by omega, show 199844 + 6 * j9 + 6 ≤ 7293034 by omega⟩
  have hc9 : 15 + j9 + 1 + 0 ≤ room_1.cells ∧ 199844 + 6 * j9 + 6 + 0 ≤ room_1.slots := hc1
  rcases hpo with ⟨rfl, rfl⟩ | ⟨rfl, rfl⟩
  · have hP : va_P D vwCl (wC h0 a0 a1 a2 a3 a4 a5 cI cZ bf pw hs lo lg rt nb (nI fi) (nI fo) (nI en) 0 cu ma ++ (wM g0 b0 b1 b2 b3 b4 b5 cI cZ th bf pw hs lo lg rt nb (nI fi) (nI fo) (nI en) 1 cu ma ++ wO oj cJ og)) H := hP
    have hD : va_D A (wC h0 a0 a1 a2 a3 a4 a5 cI cZ bf pw hs lo lg rt nb (nI fi) (nI fo) (nI en) 0 cu ma ++ (wM g0 b0 b1 b2 b3 b4 b5 cI cZ th bf pw hs lo lg rt nb (nI fi) (nI fo) (nI en) 1 cu ma ++ wO oj cJ og)) := hD
    refine lv_aload_n hx hb dL_law_1150 rfl (lv_at hl 1 rfl) ?_
    refine k_I (wr := wM g0 b0 b1 b2 b3 b4 b5 cI cZ th bf pw hs lo lg rt nb (nI fi) (nI fo) (nI en) 1 cu ma ++ wO oj cJ og) hP hD hS hA (va_runV (As := []) (rest := []) ⟨hx, hb, hml, hown, hts⟩ (tX0_start_ok bf pw hs lo lg rt nb fi fo en cu ma _) (cwV 0 hts gL_law_X0_start rfl rfl rfl (by decide +kernel) ⟨Nat.le_of_ble_eq_true rfl, Nat.le_of_ble_eq_true rfl⟩) (pV_B hP hD hK (ci := 0) (q0 := 0) rfl rfl rfl [0, 1] rfl [0, 1, 2, 3, 4, 5, 6] rfl rfl) rfl rfl hl.1 rfl (lv_room (Nat.le_of_ble_eq_true rfl)) dL_law_1151 hc0) [0, 1, 2, 3, 4, 5, 6] [7, 8, 9, 10, 11, 12, 13, 14] rfl rfl rfl (by decide) (fun H locs hP hD hS => ?_)
    have hP : va_P D vwCl (wC h0 a0 a1 a2 a3 a4 a5 cI cZ bf pw hs lo lg rt nb (nI fi) (nI fo) (nI en) 1 (-1) ma ++ (wM g0 b0 b1 b2 b3 b4 b5 cI cZ th bf pw hs lo lg rt nb (nI fi) (nI fo) (nI en) 1 cu ma ++ wO oj cJ og)) H := hP.sub [8, 9, 10, 11, 12, 13, 14, 0, 1, 2, 3, 4, 5, 6, 7] rfl
    have hD : va_D A (wC h0 a0 a1 a2 a3 a4 a5 cI cZ bf pw hs lo lg rt nb (nI fi) (nI fo) (nI en) 1 (-1) ma ++ (wM g0 b0 b1 b2 b3 b4 b5 cI cZ th bf pw hs lo lg rt nb (nI fi) (nI fo) (nI en) 1 cu ma ++ wO oj cJ og)) := hD.sub [8, 9, 10, 11, 12, 13, 14, 0, 1, 2, 3, 4, 5, 6, 7] (by decide) rfl
    refine lv_aload_n hx hb dL_law_1154 rfl (lv_at hl 2 rfl) ?_
    refine k_I (wr := wC h0 a0 a1 a2 a3 a4 a5 cI cZ bf pw hs lo lg rt nb (nI fi) (nI fo) (nI en) 1 (-1) ma ++ wO oj cJ og) hP hD hS hA (va_runV (As := []) (rest := [.int 1]) ⟨hx, hb, hml, hown, hts⟩ (tX1_start_ok th bf pw hs lo lg rt nb fi fo en cu ma _) (cwV 0 hts gL_law_X1_start rfl rfl rfl (by decide +kernel) ⟨Nat.le_of_ble_eq_true rfl, Nat.le_of_ble_eq_true rfl⟩) (pV_B hP hD hK (ci := 1) (q0 := 7) rfl rfl rfl [0, 1] rfl [7, 8, 9, 10, 11, 12, 13] rfl rfl) rfl rfl hl.1 rfl (lv_room (Nat.le_of_ble_eq_true rfl)) dL_law_1155 hc0) [7, 8, 9, 10, 11, 12, 13] [0, 1, 2, 3, 4, 5, 6, 14] rfl rfl rfl (by decide) (fun H locs hP hD hS => ?_)
    have hP : va_P D vwCl (wC h0 a0 a1 a2 a3 a4 a5 cI cZ bf pw hs lo lg rt nb (nI fi) (nI fo) (nI en) 1 (-1) ma ++ (wM g0 b0 b1 b2 b3 b4 b5 cI cZ 0 bf pw hs lo lg rt nb (nI fi) (nI fo) (nI en) 0 (-1) ma ++ wO oj cJ og)) H := hP.sub [0, 1, 2, 3, 4, 5, 6, 8, 9, 10, 11, 12, 13, 14, 7] rfl
    have hD : va_D A (wC h0 a0 a1 a2 a3 a4 a5 cI cZ bf pw hs lo lg rt nb (nI fi) (nI fo) (nI en) 1 (-1) ma ++ (wM g0 b0 b1 b2 b3 b4 b5 cI cZ 0 bf pw hs lo lg rt nb (nI fi) (nI fo) (nI en) 0 (-1) ma ++ wO oj cJ og)) := hD.sub [0, 1, 2, 3, 4, 5, 6, 8, 9, 10, 11, 12, 13, 14, 7] (by decide) rfl
    refine lv_icmp_eq (tgt := 1176) hx hb dL_law_1158 (by decide) (fun c_1158 => ?_) (fun c_1158 => absurd (by decide) c_1158)
    refine W.widen (k := 15 + (j9 + 1)) (n := 199844 + 6 * (j9 + 1)) (by omega) (by omega) ?_
    refine lv_iinc (v := nI (4 * (j9 + 1))) (lv' := [(4, .int (nI (4 * (j9 + 1)))), (0, .ref b), (1, .ref h0), (2, .ref g0), (3, .ref oj)]) hx hb dL_law_1176 hl (k := 4) rfl (nI_add (4 * j9) 4) (by decide) rfl (fun ls hl => ?_)
    refine lv_goto (tgt := 23) hx hb dL_law_1179 (by decide) ?_
    exact IH bf pw hs lo lg rt nb fi fo en 1 0 (-1) ma 0 og _ _ _ (Or.inr ⟨rfl, rfl⟩) (by omega) (by omega) (by omega) (by decide) hP hD hS (lv_sub hl [1, 2, 3, 4, 0] rfl)
  · have hP : va_P D vwCl (wC h0 a0 a1 a2 a3 a4 a5 cI cZ bf pw hs lo lg rt nb (nI fi) (nI fo) (nI en) 1 cu ma ++ (wM g0 b0 b1 b2 b3 b4 b5 cI cZ th bf pw hs lo lg rt nb (nI fi) (nI fo) (nI en) 0 cu ma ++ wO oj cJ og)) H := hP
    have hD : va_D A (wC h0 a0 a1 a2 a3 a4 a5 cI cZ bf pw hs lo lg rt nb (nI fi) (nI fo) (nI en) 1 cu ma ++ (wM g0 b0 b1 b2 b3 b4 b5 cI cZ th bf pw hs lo lg rt nb (nI fi) (nI fo) (nI en) 0 cu ma ++ wO oj cJ og)) := hD
    refine lv_aload_n hx hb dL_law_1150 rfl (lv_at hl 1 rfl) ?_
    refine k_I (wr := wM g0 b0 b1 b2 b3 b4 b5 cI cZ th bf pw hs lo lg rt nb (nI fi) (nI fo) (nI en) 0 cu ma ++ wO oj cJ og) hP hD hS hA (va_runV (As := []) (rest := []) ⟨hx, hb, hml, hown, hts⟩ (tX0_start_no bf pw hs lo lg rt nb fi fo en cu ma _) (cwV 0 hts gL_law_X0_start rfl rfl rfl (by decide +kernel) ⟨Nat.le_of_ble_eq_true rfl, Nat.le_of_ble_eq_true rfl⟩) (pV_B hP hD hK (ci := 0) (q0 := 0) rfl rfl rfl [0, 1] rfl [0, 1, 2, 3, 4, 5, 6] rfl rfl) rfl rfl hl.1 rfl (lv_room (Nat.le_of_ble_eq_true rfl)) dL_law_1151 hc0) [0, 1, 2, 3, 4, 5, 6] [7, 8, 9, 10, 11, 12, 13, 14] rfl rfl rfl (by decide) (fun H locs hP hD hS => ?_)
    have hP : va_P D vwCl (wC h0 a0 a1 a2 a3 a4 a5 cI cZ bf pw hs lo lg rt nb (nI fi) (nI fo) (nI en) 1 cu ma ++ (wM g0 b0 b1 b2 b3 b4 b5 cI cZ th bf pw hs lo lg rt nb (nI fi) (nI fo) (nI en) 0 cu ma ++ wO oj cJ og)) H := hP.sub [8, 9, 10, 11, 12, 13, 14, 0, 1, 2, 3, 4, 5, 6, 7] rfl
    have hD : va_D A (wC h0 a0 a1 a2 a3 a4 a5 cI cZ bf pw hs lo lg rt nb (nI fi) (nI fo) (nI en) 1 cu ma ++ (wM g0 b0 b1 b2 b3 b4 b5 cI cZ th bf pw hs lo lg rt nb (nI fi) (nI fo) (nI en) 0 cu ma ++ wO oj cJ og)) := hD.sub [8, 9, 10, 11, 12, 13, 14, 0, 1, 2, 3, 4, 5, 6, 7] (by decide) rfl
    refine lv_aload_n hx hb dL_law_1154 rfl (lv_at hl 2 rfl) ?_
    refine k_I (wr := wC h0 a0 a1 a2 a3 a4 a5 cI cZ bf pw hs lo lg rt nb (nI fi) (nI fo) (nI en) 1 cu ma ++ wO oj cJ og) hP hD hS hA (va_runV (As := []) (rest := [.int 0]) ⟨hx, hb, hml, hown, hts⟩ (tX1_start_no th bf pw hs lo lg rt nb fi fo en cu ma _) (cwV 0 hts gL_law_X1_start rfl rfl rfl (by decide +kernel) ⟨Nat.le_of_ble_eq_true rfl, Nat.le_of_ble_eq_true rfl⟩) (pV_B hP hD hK (ci := 1) (q0 := 7) rfl rfl rfl [0, 1] rfl [7, 8, 9, 10, 11, 12, 13] rfl rfl) rfl rfl hl.1 rfl (lv_room (Nat.le_of_ble_eq_true rfl)) dL_law_1155 hc0) [7, 8, 9, 10, 11, 12, 13] [0, 1, 2, 3, 4, 5, 6, 14] rfl rfl rfl (by decide) (fun H locs hP hD hS => ?_)
    have hP : va_P D vwCl (wC h0 a0 a1 a2 a3 a4 a5 cI cZ bf pw hs lo lg rt nb (nI fi) (nI fo) (nI en) 1 cu ma ++ (wM g0 b0 b1 b2 b3 b4 b5 cI cZ 0 bf pw hs lo lg rt nb (nI fi) (nI fo) (nI en) 0 cu ma ++ wO oj cJ og)) H := hP.sub [0, 1, 2, 3, 4, 5, 6, 8, 9, 10, 11, 12, 13, 14, 7] rfl
    have hD : va_D A (wC h0 a0 a1 a2 a3 a4 a5 cI cZ bf pw hs lo lg rt nb (nI fi) (nI fo) (nI en) 1 cu ma ++ (wM g0 b0 b1 b2 b3 b4 b5 cI cZ 0 bf pw hs lo lg rt nb (nI fi) (nI fo) (nI en) 0 cu ma ++ wO oj cJ og)) := hD.sub [0, 1, 2, 3, 4, 5, 6, 8, 9, 10, 11, 12, 13, 14, 7] (by decide) rfl
    refine lv_icmp_eq (tgt := 1176) hx hb dL_law_1158 (by decide) (fun c_1158 => ?_) (fun c_1158 => absurd (by decide) c_1158)
    refine W.widen (k := 15 + (j9 + 1)) (n := 199844 + 6 * (j9 + 1)) (by omega) (by omega) ?_
    refine lv_iinc (v := nI (4 * (j9 + 1))) (lv' := [(4, .int (nI (4 * (j9 + 1)))), (0, .ref b), (1, .ref h0), (2, .ref g0), (3, .ref oj)]) hx hb dL_law_1176 hl (k := 4) rfl (nI_add (4 * j9) 4) (by decide) rfl (fun ls hl => ?_)
    refine lv_goto (tgt := 23) hx hb dL_law_1179 (by decide) ?_
    exact IH bf pw hs lo lg rt nb fi fo en 1 0 cu ma 0 og _ _ _ (Or.inr ⟨rfl, rfl⟩) (by omega) (by omega) (by omega) hcu hP hD hS (lv_sub hl [1, 2, 3, 4, 0] rfl)
set_option maxHeartbeats 4000000 in
set_option maxRecDepth 100000 in
theorem lo_isOn {p : Program} {l : Launch} {e : Env} {s : State} {m : MethodId} {below : List Frame} {meth : Method} {c : Code} {Q : State → Prop} {D : va_G} {A : Nat → Prop} {cI cZ cJ : ClassId} {b L : Nat} {xs : Nat → Int32} {h0 a0 a1 a2 a3 a4 a5 g0 b0 b1 b2 b3 b4 b5 oj : Nat} (hl0 : l.stackTraces = false) (hx : p.tables.exec = Jvm.exec) (hb : c.code = code) (hml : c.maxLocals = 7) (hown : s.vm.findClass RL = some m.cls) (hts : ∀ w ∈ wsL_law, w.before #[Value.ref b] s = true) (hX : va_X b L xs s s.heap) (hbl : b < s.heap.size) (hbA : ¬ A b) (hA : ∀ q : Nat, s.heap.size ≤ q → A q) (hK : va_K D vwCl (tyL cI cZ cJ) s) (hT : xT A s s.heap) (hL : L ≤ 2048) (j9 : Nat) (hj : 4 * j9 + 4 ≤ L)
    (IH : lgW p l e s m below meth c Q D A cI cZ cJ b h0 a0 a1 a2 a3 a4 a5 g0 b0 b1 b2 b3 b4 b5 oj (j9 + 1))
    (bf pw hs lo lg rt : Nat → Int32) (nb : Int32) (fi fo en : Nat) (on off cu ma th : Int32) (og : Nat → Int64) (H : Heap) (locs : List Loc) (ls : Array Slot) (hpo : (on = 0 ∧ off = 1) ∨ (on = 1 ∧ off = 0)) (hi1 : fi ≤ fo) (hi2 : fo ≤ en) (hi3 : en ≤ 64 * j9) (hcu : -1 ≤ cu)
    (hP : va_P D vwCl (wA h0 a0 a1 a2 a3 a4 a5 g0 b0 b1 b2 b3 b4 b5 oj cI cZ cJ bf pw hs lo lg rt nb fi fo en on off cu ma th og) H) (hD : va_D A (wA h0 a0 a1 a2 a3 a4 a5 g0 b0 b1 b2 b3 b4 b5 oj cI cZ cJ bf pw hs lo lg rt nb fi fo en on off cu ma th og)) (hS : va_S A s.heap H locs) (hl : lv_has ls 7 [(0, .ref b), (1, .ref h0), (2, .ref g0), (3, .ref oj), (4, .int (nI (4 * j9)))]) :
    W p l e room_1 s m #[Value.ref b] below meth c H locs (15 + j9) (199844 + 6 * j9) Q (F0 m 1163 ls []) := by
  have he : en ≤ 60000 := by omega
  have hc0 : 15 + j9 + 0 ≤ room_1.cells ∧ 199844 + 6 * j9 + 0 ≤ room_1.slots := ⟨show 15 + j9 + 0 ≤ 601024 by omega, show 199844 + 6 * j9 + 0 ≤ 7293034 by omega⟩
  have hc1 : 15 + j9 + 1 ≤ room_1.cells ∧ 199844 + 6 * j9 + 6 ≤ room_1.slots := ⟨show 15 + j9 + 1 ≤ 601024 by omega, show 199844 + 6 * j9 + 6 ≤ 7293034 by omega⟩
  have hc9 : 15 + j9 + 1 + 0 ≤ room_1.cells ∧ 199844 + 6 * j9 + 6 + 0 ≤ room_1.slots := hc1
  rcases hpo with ⟨rfl, rfl⟩ | ⟨rfl, rfl⟩
  · have hP : va_P D vwCl (wC h0 a0 a1 a2 a3 a4 a5 cI cZ bf pw hs lo lg rt nb (nI fi) (nI fo) (nI en) 0 cu ma ++ (wM g0 b0 b1 b2 b3 b4 b5 cI cZ th bf pw hs lo lg rt nb (nI fi) (nI fo) (nI en) 1 cu ma ++ wO oj cJ og)) H := hP
    have hD : va_D A (wC h0 a0 a1 a2 a3 a4 a5 cI cZ bf pw hs lo lg rt nb (nI fi) (nI fo) (nI en) 0 cu ma ++ (wM g0 b0 b1 b2 b3 b4 b5 cI cZ th bf pw hs lo lg rt nb (nI fi) (nI fo) (nI en) 1 cu ma ++ wO oj cJ og)) := hD
    refine lv_aload_n hx hb dL_law_1163 rfl (lv_at hl 1 rfl) ?_
    refine k_I (wr := wM g0 b0 b1 b2 b3 b4 b5 cI cZ th bf pw hs lo lg rt nb (nI fi) (nI fo) (nI en) 1 cu ma ++ wO oj cJ og) hP hD hS hA (va_runV (As := []) (rest := []) ⟨hx, hb, hml, hown, hts⟩ (tX0_isOn_ok bf pw hs lo lg rt nb fi fo en 0 cu ma (Or.inl rfl) _) (cwV 0 hts gL_law_X0_isOn rfl rfl rfl (by decide +kernel) ⟨Nat.le_of_ble_eq_true rfl, Nat.le_of_ble_eq_true rfl⟩) (pV_B hP hD hK (ci := 0) (q0 := 0) rfl rfl rfl [0, 1] rfl [0, 1, 2, 3, 4, 5, 6] rfl rfl) rfl rfl hl.1 rfl (lv_room (Nat.le_of_ble_eq_true rfl)) dL_law_1164 hc0) [0, 1, 2, 3, 4, 5, 6] [7, 8, 9, 10, 11, 12, 13, 14] rfl rfl rfl (by decide) (fun H locs hP hD hS => ?_)
    have hP : va_P D vwCl (wC h0 a0 a1 a2 a3 a4 a5 cI cZ bf pw hs lo lg rt nb (nI fi) (nI fo) (nI en) 0 cu ma ++ (wM g0 b0 b1 b2 b3 b4 b5 cI cZ th bf pw hs lo lg rt nb (nI fi) (nI fo) (nI en) 1 cu ma ++ wO oj cJ og)) H := hP.sub [8, 9, 10, 11, 12, 13, 14, 0, 1, 2, 3, 4, 5, 6, 7] rfl
    have hD : va_D A (wC h0 a0 a1 a2 a3 a4 a5 cI cZ bf pw hs lo lg rt nb (nI fi) (nI fo) (nI en) 0 cu ma ++ (wM g0 b0 b1 b2 b3 b4 b5 cI cZ th bf pw hs lo lg rt nb (nI fi) (nI fo) (nI en) 1 cu ma ++ wO oj cJ og)) := hD.sub [8, 9, 10, 11, 12, 13, 14, 0, 1, 2, 3, 4, 5, 6, 7] (by decide) rfl
    refine lv_aload_n hx hb dL_law_1167 rfl (lv_at hl 2 rfl) ?_
    refine k_I (wr := wC h0 a0 a1 a2 a3 a4 a5 cI cZ bf pw hs lo lg rt nb (nI fi) (nI fo) (nI en) 0 cu ma ++ wO oj cJ og) hP hD hS hA (va_runV (As := []) (rest := [.int 0]) ⟨hx, hb, hml, hown, hts⟩ (tX1_isOn_off th bf pw hs lo lg rt nb fi fo en cu ma _) (cwV 0 hts gL_law_X1_isOn rfl rfl rfl (by decide +kernel) ⟨Nat.le_of_ble_eq_true rfl, Nat.le_of_ble_eq_true rfl⟩) (pV_B hP hD hK (ci := 1) (q0 := 7) rfl rfl rfl [0, 1] rfl [7, 8, 9, 10, 11, 12, 13] rfl rfl) rfl rfl hl.1 rfl (lv_room (Nat.le_of_ble_eq_true rfl)) dL_law_1168 hc0) [7, 8, 9, 10, 11, 12, 13] [0, 1, 2, 3, 4, 5, 6, 14] rfl rfl rfl (by decide) (fun H locs hP hD hS => ?_)
    have hP : va_P D vwCl (wC h0 a0 a1 a2 a3 a4 a5 cI cZ bf pw hs lo lg rt nb (nI fi) (nI fo) (nI en) 0 cu ma ++ (wM g0 b0 b1 b2 b3 b4 b5 cI cZ 0 bf pw hs lo lg rt nb (nI fi) (nI fo) (nI en) 1 cu ma ++ wO oj cJ og)) H := hP.sub [0, 1, 2, 3, 4, 5, 6, 8, 9, 10, 11, 12, 13, 14, 7] rfl
    have hD : va_D A (wC h0 a0 a1 a2 a3 a4 a5 cI cZ bf pw hs lo lg rt nb (nI fi) (nI fo) (nI en) 0 cu ma ++ (wM g0 b0 b1 b2 b3 b4 b5 cI cZ 0 bf pw hs lo lg rt nb (nI fi) (nI fo) (nI en) 1 cu ma ++ wO oj cJ og)) := hD.sub [0, 1, 2, 3, 4, 5, 6, 8, 9, 10, 11, 12, 13, 14, 7] (by decide) rfl
    refine lv_icmp_eq (tgt := 1176) hx hb dL_law_1171 (by decide) (fun c_1171 => ?_) (fun c_1171 => absurd (by decide) c_1171)
    refine W.widen (k := 15 + (j9 + 1)) (n := 199844 + 6 * (j9 + 1)) (by omega) (by omega) ?_
    refine lv_iinc (v := nI (4 * (j9 + 1))) (lv' := [(4, .int (nI (4 * (j9 + 1)))), (0, .ref b), (1, .ref h0), (2, .ref g0), (3, .ref oj)]) hx hb dL_law_1176 hl (k := 4) rfl (nI_add (4 * j9) 4) (by decide) rfl (fun ls hl => ?_)
    refine lv_goto (tgt := 23) hx hb dL_law_1179 (by decide) ?_
    exact IH bf pw hs lo lg rt nb fi fo en 0 1 cu ma 0 og _ _ _ (Or.inl ⟨rfl, rfl⟩) (by omega) (by omega) (by omega) hcu hP hD hS (lv_sub hl [1, 2, 3, 4, 0] rfl)
  · have hP : va_P D vwCl (wC h0 a0 a1 a2 a3 a4 a5 cI cZ bf pw hs lo lg rt nb (nI fi) (nI fo) (nI en) 1 cu ma ++ (wM g0 b0 b1 b2 b3 b4 b5 cI cZ th bf pw hs lo lg rt nb (nI fi) (nI fo) (nI en) 0 cu ma ++ wO oj cJ og)) H := hP
    have hD : va_D A (wC h0 a0 a1 a2 a3 a4 a5 cI cZ bf pw hs lo lg rt nb (nI fi) (nI fo) (nI en) 1 cu ma ++ (wM g0 b0 b1 b2 b3 b4 b5 cI cZ th bf pw hs lo lg rt nb (nI fi) (nI fo) (nI en) 0 cu ma ++ wO oj cJ og)) := hD
    refine lv_aload_n hx hb dL_law_1163 rfl (lv_at hl 1 rfl) ?_
    refine k_I (wr := wM g0 b0 b1 b2 b3 b4 b5 cI cZ th bf pw hs lo lg rt nb (nI fi) (nI fo) (nI en) 0 cu ma ++ wO oj cJ og) hP hD hS hA (va_runV (As := []) (rest := []) ⟨hx, hb, hml, hown, hts⟩ (tX0_isOn_ok bf pw hs lo lg rt nb fi fo en 1 cu ma (Or.inr rfl) _) (cwV 0 hts gL_law_X0_isOn rfl rfl rfl (by decide +kernel) ⟨Nat.le_of_ble_eq_true rfl, Nat.le_of_ble_eq_true rfl⟩) (pV_B hP hD hK (ci := 0) (q0 := 0) rfl rfl rfl [0, 1] rfl [0, 1, 2, 3, 4, 5, 6] rfl rfl) rfl rfl hl.1 rfl (lv_room (Nat.le_of_ble_eq_true rfl)) dL_law_1164 hc0) [0, 1, 2, 3, 4, 5, 6] [7, 8, 9, 10, 11, 12, 13, 14] rfl rfl rfl (by decide) (fun H locs hP hD hS => ?_)
    have hP : va_P D vwCl (wC h0 a0 a1 a2 a3 a4 a5 cI cZ bf pw hs lo lg rt nb (nI fi) (nI fo) (nI en) 1 cu ma ++ (wM g0 b0 b1 b2 b3 b4 b5 cI cZ th bf pw hs lo lg rt nb (nI fi) (nI fo) (nI en) 0 cu ma ++ wO oj cJ og)) H := hP.sub [8, 9, 10, 11, 12, 13, 14, 0, 1, 2, 3, 4, 5, 6, 7] rfl
    have hD : va_D A (wC h0 a0 a1 a2 a3 a4 a5 cI cZ bf pw hs lo lg rt nb (nI fi) (nI fo) (nI en) 1 cu ma ++ (wM g0 b0 b1 b2 b3 b4 b5 cI cZ th bf pw hs lo lg rt nb (nI fi) (nI fo) (nI en) 0 cu ma ++ wO oj cJ og)) := hD.sub [8, 9, 10, 11, 12, 13, 14, 0, 1, 2, 3, 4, 5, 6, 7] (by decide) rfl
    refine lv_aload_n hx hb dL_law_1167 rfl (lv_at hl 2 rfl) ?_
    refine k_I (wr := wC h0 a0 a1 a2 a3 a4 a5 cI cZ bf pw hs lo lg rt nb (nI fi) (nI fo) (nI en) 1 cu ma ++ wO oj cJ og) hP hD hS hA (va_runV (As := []) (rest := [.int 1]) ⟨hx, hb, hml, hown, hts⟩ (tX1_isOn_on th bf pw hs lo lg rt nb fi fo en cu ma _) (cwV 0 hts gL_law_X1_isOn rfl rfl rfl (by decide +kernel) ⟨Nat.le_of_ble_eq_true rfl, Nat.le_of_ble_eq_true rfl⟩) (pV_B hP hD hK (ci := 1) (q0 := 7) rfl rfl rfl [0, 1] rfl [7, 8, 9, 10, 11, 12, 13] rfl rfl) rfl rfl hl.1 rfl (lv_room (Nat.le_of_ble_eq_true rfl)) dL_law_1168 hc0) [7, 8, 9, 10, 11, 12, 13] [0, 1, 2, 3, 4, 5, 6, 14] rfl rfl rfl (by decide) (fun H locs hP hD hS => ?_)
    have hP : va_P D vwCl (wC h0 a0 a1 a2 a3 a4 a5 cI cZ bf pw hs lo lg rt nb (nI fi) (nI fo) (nI en) 1 cu ma ++ (wM g0 b0 b1 b2 b3 b4 b5 cI cZ 0 bf pw hs lo lg rt nb (nI fi) (nI fo) (nI en) 0 cu ma ++ wO oj cJ og)) H := hP.sub [0, 1, 2, 3, 4, 5, 6, 8, 9, 10, 11, 12, 13, 14, 7] rfl
    have hD : va_D A (wC h0 a0 a1 a2 a3 a4 a5 cI cZ bf pw hs lo lg rt nb (nI fi) (nI fo) (nI en) 1 cu ma ++ (wM g0 b0 b1 b2 b3 b4 b5 cI cZ 0 bf pw hs lo lg rt nb (nI fi) (nI fo) (nI en) 0 cu ma ++ wO oj cJ og)) := hD.sub [0, 1, 2, 3, 4, 5, 6, 8, 9, 10, 11, 12, 13, 14, 7] (by decide) rfl
    refine lv_icmp_eq (tgt := 1176) hx hb dL_law_1171 (by decide) (fun c_1171 => ?_) (fun c_1171 => absurd (by decide) c_1171)
    refine W.widen (k := 15 + (j9 + 1)) (n := 199844 + 6 * (j9 + 1)) (by omega) (by omega) ?_
    refine lv_iinc (v := nI (4 * (j9 + 1))) (lv' := [(4, .int (nI (4 * (j9 + 1)))), (0, .ref b), (1, .ref h0), (2, .ref g0), (3, .ref oj)]) hx hb dL_law_1176 hl (k := 4) rfl (nI_add (4 * j9) 4) (by decide) rfl (fun ls hl => ?_)
    refine lv_goto (tgt := 23) hx hb dL_law_1179 (by decide) ?_
    exact IH bf pw hs lo lg rt nb fi fo en 1 0 cu ma 0 og _ _ _ (Or.inr ⟨rfl, rfl⟩) (by omega) (by omega) (by omega) hcu hP hD hS (lv_sub hl [1, 2, 3, 4, 0] rfl)
