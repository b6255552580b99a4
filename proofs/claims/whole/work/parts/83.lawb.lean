/-! OWN ROWS, by program: the law, call by call -/
set_option maxHeartbeats 4000000 in
set_option maxRecDepth 100000 in
theorem lo_copy {p : Program} {l : Launch} {e : Env} {s : State} {m : MethodId} {below : List Frame} {meth : Method} {c : Code} {Q : State → Prop} {D : va_G} {A : Nat → Prop} {cI cZ cJ : ClassId} {b L : Nat} {xs : Nat → Int32} {h0 a0 a1 a2 a3 a4 a5 g0 b0 b1 b2 b3 b4 b5 oj : Nat} (hl0 : l.stackTraces = false) (hx : p.tables.exec = Jvm.exec) (hb : c.code = code) (hml : c.maxLocals = 7) (hown : s.vm.findClass RL = some m.cls) (hts : ∀ w ∈ wsL_law, w.before #[Value.ref b] s = true) (hX : va_X b L xs s s.heap) (hbl : b < s.heap.size) (hbA : ¬ A b) (hA : ∀ q : Nat, s.heap.size ≤ q → A q) (hK : va_K D vwCl (tyL cI cZ cJ) s) (hT : xT A s s.heap) (hL : L ≤ 2048) (j9 : Nat) (hj : 4 * j9 + 4 ≤ L)
    (IH : lgW p l e s m below meth c Q D A cI cZ cJ b h0 a0 a1 a2 a3 a4 a5 g0 b0 b1 b2 b3 b4 b5 oj (j9 + 1))
    (bf pw hs lo lg rt : Nat → Int32) (nb : Int32) (fi fo en : Nat) (on off cu ma th : Int32) (og : Nat → Int64) (H : Heap) (locs : List Loc) (ls : Array Slot) (hpo : (on = 0 ∧ off = 1) ∨ (on = 1 ∧ off = 0)) (hi1 : fi ≤ fo) (hi2 : fo ≤ en) (hi3 : en ≤ 64 * j9) (hcu : -1 ≤ cu)
    (hP : va_P D vwCl (wA h0 a0 a1 a2 a3 a4 a5 g0 b0 b1 b2 b3 b4 b5 oj cI cZ cJ bf pw hs lo lg rt nb fi fo en on off cu ma th og) H) (hD : va_D A (wA h0 a0 a1 a2 a3 a4 a5 g0 b0 b1 b2 b3 b4 b5 oj cI cZ cJ bf pw hs lo lg rt nb fi fo en on off cu ma th og)) (hS : va_S A s.heap H locs) (hl : lv_has ls 7 [(0, .ref b), (1, .ref h0), (2, .ref g0), (3, .ref oj), (4, .int (nI (4 * j9)))]) :
    W p l e room_1 s m #[Value.ref b] below meth c H locs (15 + j9) (199844 + 6 * j9) Q (F0 m 441 ls []) := by
  have he : en ≤ 60000 := by omega
  have hc0 : 15 + j9 + 0 ≤ room_1.cells ∧ 199844 + 6 * j9 + 0 ≤ room_1.slots := ⟨show 15 + j9 + 0 ≤ 601024 by omega, show 199844 + 6 * j9 + 0 ≤ 7293034 by omega⟩
  have hc1 : 15 + j9 + 1 ≤ room_1.cells ∧ 199844 + 6 * j9 + 6 ≤ room_1.slots := ⟨show 15 + j9 + 1 ≤ 601024 by omega, show 199844 + 6 * j9 + 6 ≤ 7293034 by omega⟩
  have hc9 : 15 + j9 + 1 + 0 ≤ room_1.cells ∧ 199844 + 6 * j9 + 6 + 0 ≤ room_1.slots := hc1
  obtain ⟨x, ex⟩ : ∃ z9, xs (4 * j9 + 1) = z9 := ⟨_, rfl⟩
  obtain ⟨y, ey⟩ : ∃ z9, xs (4 * j9 + 2) = z9 := ⟨_, rfl⟩
  rcases hpo with ⟨rfl, rfl⟩ | ⟨rfl, rfl⟩
  · have hP : va_P D vwCl (wC h0 a0 a1 a2 a3 a4 a5 cI cZ bf pw hs lo lg rt nb (nI fi) (nI fo) (nI en) 0 cu ma ++ (wM g0 b0 b1 b2 b3 b4 b5 cI cZ th bf pw hs lo lg rt nb (nI fi) (nI fo) (nI en) 1 cu ma ++ wO oj cJ og)) H := hP
    have hD : va_D A (wC h0 a0 a1 a2 a3 a4 a5 cI cZ bf pw hs lo lg rt nb (nI fi) (nI fo) (nI en) 0 cu ma ++ (wM g0 b0 b1 b2 b3 b4 b5 cI cZ th bf pw hs lo lg rt nb (nI fi) (nI fo) (nI en) 1 cu ma ++ wO oj cJ og)) := hD
    refine lv_aload_n hx hb dL_law_441 rfl (lv_at hl 1 rfl) ?_
    refine lv_aload_n hx hb dL_law_442 rfl (lv_at hl 0 rfl) ?_
    refine lv_iload hx hb dL_law_443 (lv_at hl 4 rfl) ?_
    refine lv_iconst (v := (nI 1)) hx hb dL_law_445 (by decide) ?_
    refine n_iadd hx hb dL_law_446 ?_
    refine n_sld hx hb hX hbl hbA hS (4 * j9 + 1) (by omega) (by omega) (x) ex dL_law_447 ?_
    refine lv_aload_n hx hb dL_law_448 rfl (lv_at hl 0 rfl) ?_
    refine lv_iload hx hb dL_law_449 (lv_at hl 4 rfl) ?_
    refine lv_iconst (v := (nI 2)) hx hb dL_law_451 (by decide) ?_
    refine n_iadd hx hb dL_law_452 ?_
    refine n_sld hx hb hX hbl hbA hS (4 * j9 + 2) (by omega) (by omega) (y) ey dL_law_453 ?_
    refine lv_aload_n hx hb dL_law_454 rfl (lv_at hl 3 rfl) ?_
    refine k_I (wr := wM g0 b0 b1 b2 b3 b4 b5 cI cZ th bf pw hs lo lg rt nb (nI fi) (nI fo) (nI en) 1 cu ma) hP hD hS hA (vx_runSW (As := [.ref h0, .int x, .int y, .ref oj]) (rest := []) ⟨hx, hb, hml, hown, hts⟩ (tL_copy_x0 hl0 bf pw hs lo lg rt nb fi fo en cu ma x y oj og _) (vx_cwSW 4 hts gL_law_L_copy rfl rfl rfl (by decide +kernel) ⟨Nat.le_of_ble_eq_true rfl, Nat.le_of_ble_eq_true rfl⟩) (pS_X hP hD hK hS hA hT [0, 1, 2] rfl [0, 1, 2, 3, 4, 5, 6, 14] rfl rfl) rfl rfl hl.1 rfl (lv_room (Nat.le_of_ble_eq_true rfl)) dL_law_455 hc1) [0, 1, 2, 3, 4, 5, 6, 14] [7, 8, 9, 10, 11, 12, 13] rfl rfl rfl (by decide) (fun H locs hP hD hS => ?_)
    have hP : va_P D vwCl (wC h0 a0 a1 a2 a3 a4 a5 cI cZ bf pw hs lo lg rt nb (nI fi) (nI fo) (nI en) 0 cu ma ++ (wM g0 b0 b1 b2 b3 b4 b5 cI cZ th bf pw hs lo lg rt nb (nI fi) (nI fo) (nI en) 1 cu ma ++ wO oj cJ og)) H := hP.sub [7, 8, 9, 10, 11, 12, 13, 0, 1, 2, 3, 4, 5, 6, 14] rfl
    have hD : va_D A (wC h0 a0 a1 a2 a3 a4 a5 cI cZ bf pw hs lo lg rt nb (nI fi) (nI fo) (nI en) 0 cu ma ++ (wM g0 b0 b1 b2 b3 b4 b5 cI cZ th bf pw hs lo lg rt nb (nI fi) (nI fo) (nI en) 1 cu ma ++ wO oj cJ og)) := hD.sub [7, 8, 9, 10, 11, 12, 13, 0, 1, 2, 3, 4, 5, 6, 14] (by decide) rfl
    refine lv_istore (lv' := [(5, .int 1), (0, .ref b), (1, .ref h0), (2, .ref g0), (3, .ref oj), (4, .int (nI (4 * j9)))]) hx hb dL_law_458 hl (by decide) rfl (fun ls hl => ?_)
    refine lv_aload_n hx hb dL_law_460 rfl (lv_at hl 3 rfl) ?_
    refine lv_aload_n hx hb dL_law_461 rfl (lv_at hl 1 rfl) ?_
    refine lv_iload hx hb dL_law_462 (lv_at hl 5 rfl) ?_
    refine lv_iconst (v := (nI 1)) hx hb dL_law_464 (by decide) ?_
    refine n_iadd hx hb dL_law_465 ?_
    refine n_sld hx hb hX hbl hbA hS (4 * j9 + 1) (by omega) (by omega) (x) ex dL_law_466 ?_
    refine lv_aload_n hx hb dL_law_467 rfl (lv_at hl 1 rfl) ?_
    refine lv_iload hx hb dL_law_468 (lv_at hl 5 rfl) ?_
    refine lv_iconst (v := (nI 2)) hx hb dL_law_470 (by decide) ?_
    refine n_iadd hx hb dL_law_471 ?_
    refine n_sld hx hb hX hbl hbA hS (4 * j9 + 2) (by omega) (by omega) (y) ey dL_law_472 ?_
    refine k_I (wr := wC h0 a0 a1 a2 a3 a4 a5 cI cZ bf pw hs lo lg rt nb (nI fi) (nI fo) (nI en) 0 cu ma ++ wO oj cJ og) hP hD hS hA (va_runV (As := [.int x, .int y]) (rest := []) ⟨hx, hb, hml, hown, hts⟩ (tX1_copy_x0 th bf pw hs lo lg rt nb fi fo en cu ma x y _) (cwV 2 hts gL_law_X1_copy rfl rfl rfl (by decide +kernel) ⟨Nat.le_of_ble_eq_true rfl, Nat.le_of_ble_eq_true rfl⟩) (pV_B hP hD hK (ci := 1) (q0 := 7) rfl rfl rfl [0, 1] rfl [7, 8, 9, 10, 11, 12, 13] rfl rfl) rfl rfl hl.1 rfl (lv_room (Nat.le_of_ble_eq_true rfl)) dL_law_473 hc9) [7, 8, 9, 10, 11, 12, 13] [0, 1, 2, 3, 4, 5, 6, 14] rfl rfl rfl (by decide) (fun H locs hP hD hS => ?_)
    have hP : va_P D vwCl (wC h0 a0 a1 a2 a3 a4 a5 cI cZ bf pw hs lo lg rt nb (nI fi) (nI fo) (nI en) 0 cu ma ++ (wM g0 b0 b1 b2 b3 b4 b5 cI cZ 1 bf pw hs lo lg rt nb (nI fi) (nI fo) (nI en) 1 cu ma ++ wO oj cJ og)) H := hP.sub [0, 1, 2, 3, 4, 5, 6, 8, 9, 10, 11, 12, 13, 14, 7] rfl
    have hD : va_D A (wC h0 a0 a1 a2 a3 a4 a5 cI cZ bf pw hs lo lg rt nb (nI fi) (nI fo) (nI en) 0 cu ma ++ (wM g0 b0 b1 b2 b3 b4 b5 cI cZ 1 bf pw hs lo lg rt nb (nI fi) (nI fo) (nI en) 1 cu ma ++ wO oj cJ og)) := hD.sub [0, 1, 2, 3, 4, 5, 6, 8, 9, 10, 11, 12, 13, 14, 7] (by decide) rfl
    refine lv_istore (lv' := [(6, .int 0), (5, .int 1), (0, .ref b), (1, .ref h0), (2, .ref g0), (3, .ref oj), (4, .int (nI (4 * j9)))]) hx hb dL_law_476 hl (by decide) rfl (fun ls hl => ?_)
    refine lv_aload_n hx hb dL_law_478 rfl (lv_at hl 4 rfl) ?_
    refine k_I (wr := wC h0 a0 a1 a2 a3 a4 a5 cI cZ bf pw hs lo lg rt nb (nI fi) (nI fo) (nI en) 0 cu ma ++ wO oj cJ og) hP hD hS hA (va_runV (As := []) (rest := []) ⟨hx, hb, hml, hown, hts⟩ (tX1_thrown 1 bf pw hs lo lg rt nb fi fo en 1 cu ma _) (cwV 0 hts gL_law_X1_thrown rfl rfl rfl (by decide +kernel) ⟨Nat.le_of_ble_eq_true rfl, Nat.le_of_ble_eq_true rfl⟩) (pV_B hP hD hK (ci := 1) (q0 := 7) rfl rfl rfl [0, 1] rfl [7, 8, 9, 10, 11, 12, 13] rfl rfl) rfl rfl hl.1 rfl (lv_room (Nat.le_of_ble_eq_true rfl)) dL_law_479 hc9) [7, 8, 9, 10, 11, 12, 13] [0, 1, 2, 3, 4, 5, 6, 14] rfl rfl rfl (by decide) (fun H locs hP hD hS => ?_)
    have hP : va_P D vwCl (wC h0 a0 a1 a2 a3 a4 a5 cI cZ bf pw hs lo lg rt nb (nI fi) (nI fo) (nI en) 0 cu ma ++ (wM g0 b0 b1 b2 b3 b4 b5 cI cZ 1 bf pw hs lo lg rt nb (nI fi) (nI fo) (nI en) 1 cu ma ++ wO oj cJ og)) H := hP.sub [0, 1, 2, 3, 4, 5, 6, 8, 9, 10, 11, 12, 13, 14, 7] rfl
    have hD : va_D A (wC h0 a0 a1 a2 a3 a4 a5 cI cZ bf pw hs lo lg rt nb (nI fi) (nI fo) (nI en) 0 cu ma ++ (wM g0 b0 b1 b2 b3 b4 b5 cI cZ 1 bf pw hs lo lg rt nb (nI fi) (nI fo) (nI en) 1 cu ma ++ wO oj cJ og)) := hD.sub [0, 1, 2, 3, 4, 5, 6, 8, 9, 10, 11, 12, 13, 14, 7] (by decide) rfl
    refine lv_iload hx hb dL_law_482 (lv_at hl 1 rfl) ?_
    refine lv_icmp_eq (tgt := 489) hx hb dL_law_484 (by decide) (fun c_484 => ?_) (fun c_484 => absurd (by decide) c_484)
    refine lv_iload hx hb dL_law_489 (lv_at hl 1 rfl) ?_
    refine lv_if_ne (tgt := 506) hx hb dL_law_491 (by decide) (fun c_491 => ?_) (fun c_491 => absurd c_491 (by decide))
    refine lv_goto (tgt := 1176) hx hb dL_law_506 (by decide) ?_
    refine W.widen (k := 15 + (j9 + 1)) (n := 199844 + 6 * (j9 + 1)) (by omega) (by omega) ?_
    refine lv_iinc (v := nI (4 * (j9 + 1))) (lv' := [(4, .int (nI (4 * (j9 + 1)))), (6, .int 0), (5, .int 1), (0, .ref b), (1, .ref h0), (2, .ref g0), (3, .ref oj)]) hx hb dL_law_1176 hl (k := 6) rfl (nI_add (4 * j9) 4) (by decide) rfl (fun ls hl => ?_)
    refine lv_goto (tgt := 23) hx hb dL_law_1179 (by decide) ?_
    exact IH bf pw hs lo lg rt nb fi fo en 0 1 cu ma 1 og _ _ _ (Or.inl ⟨rfl, rfl⟩) (by omega) (by omega) (by omega) hcu hP hD hS (lv_sub hl [3, 4, 5, 6, 0] rfl)
  · rcases pg_cases x y with h | ⟨ar, pg, h1, h2, rfl, rfl⟩
    · have hP : va_P D vwCl (wC h0 a0 a1 a2 a3 a4 a5 cI cZ bf pw hs lo lg rt nb (nI fi) (nI fo) (nI en) 1 cu ma ++ (wM g0 b0 b1 b2 b3 b4 b5 cI cZ th bf pw hs lo lg rt nb (nI fi) (nI fo) (nI en) 0 cu ma ++ wO oj cJ og)) H := hP
      have hD : va_D A (wC h0 a0 a1 a2 a3 a4 a5 cI cZ bf pw hs lo lg rt nb (nI fi) (nI fo) (nI en) 1 cu ma ++ (wM g0 b0 b1 b2 b3 b4 b5 cI cZ th bf pw hs lo lg rt nb (nI fi) (nI fo) (nI en) 0 cu ma ++ wO oj cJ og)) := hD
      refine lv_aload_n hx hb dL_law_441 rfl (lv_at hl 1 rfl) ?_
      refine lv_aload_n hx hb dL_law_442 rfl (lv_at hl 0 rfl) ?_
      refine lv_iload hx hb dL_law_443 (lv_at hl 4 rfl) ?_
      refine lv_iconst (v := (nI 1)) hx hb dL_law_445 (by decide) ?_
      refine n_iadd hx hb dL_law_446 ?_
      refine n_sld hx hb hX hbl hbA hS (4 * j9 + 1) (by omega) (by omega) (x) ex dL_law_447 ?_
      refine lv_aload_n hx hb dL_law_448 rfl (lv_at hl 0 rfl) ?_
      refine lv_iload hx hb dL_law_449 (lv_at hl 4 rfl) ?_
      refine lv_iconst (v := (nI 2)) hx hb dL_law_451 (by decide) ?_
      refine n_iadd hx hb dL_law_452 ?_
      refine n_sld hx hb hX hbl hbA hS (4 * j9 + 2) (by omega) (by omega) (y) ey dL_law_453 ?_
      refine lv_aload_n hx hb dL_law_454 rfl (lv_at hl 3 rfl) ?_
      refine k_I (wr := wM g0 b0 b1 b2 b3 b4 b5 cI cZ th bf pw hs lo lg rt nb (nI fi) (nI fo) (nI en) 0 cu ma) hP hD hS hA (vx_runSW (As := [.ref h0, .int x, .int y, .ref oj]) (rest := []) ⟨hx, hb, hml, hown, hts⟩ (tL_copy_xb hl0 bf pw hs lo lg rt nb fi fo en cu ma x y h oj og _) (vx_cwSW 4 hts gL_law_L_copy rfl rfl rfl (by decide +kernel) ⟨Nat.le_of_ble_eq_true rfl, Nat.le_of_ble_eq_true rfl⟩) (pS_X hP hD hK hS hA hT [0, 1, 2] rfl [0, 1, 2, 3, 4, 5, 6, 14] rfl rfl) rfl rfl hl.1 rfl (lv_room (Nat.le_of_ble_eq_true rfl)) dL_law_455 hc1) [0, 1, 2, 3, 4, 5, 6, 14] [7, 8, 9, 10, 11, 12, 13] rfl rfl rfl (by decide) (fun H locs hP hD hS => ?_)
      have hP : va_P D vwCl (wC h0 a0 a1 a2 a3 a4 a5 cI cZ bf pw hs lo lg rt nb (nI fi) (nI fo) (nI en) 1 cu ma ++ (wM g0 b0 b1 b2 b3 b4 b5 cI cZ th bf pw hs lo lg rt nb (nI fi) (nI fo) (nI en) 0 cu ma ++ wO oj cJ og)) H := hP.sub [7, 8, 9, 10, 11, 12, 13, 0, 1, 2, 3, 4, 5, 6, 14] rfl
      have hD : va_D A (wC h0 a0 a1 a2 a3 a4 a5 cI cZ bf pw hs lo lg rt nb (nI fi) (nI fo) (nI en) 1 cu ma ++ (wM g0 b0 b1 b2 b3 b4 b5 cI cZ th bf pw hs lo lg rt nb (nI fi) (nI fo) (nI en) 0 cu ma ++ wO oj cJ og)) := hD.sub [7, 8, 9, 10, 11, 12, 13, 0, 1, 2, 3, 4, 5, 6, 14] (by decide) rfl
      refine lv_istore (lv' := [(5, .int 2), (0, .ref b), (1, .ref h0), (2, .ref g0), (3, .ref oj), (4, .int (nI (4 * j9)))]) hx hb dL_law_458 hl (by decide) rfl (fun ls hl => ?_)
      refine lv_aload_n hx hb dL_law_460 rfl (lv_at hl 3 rfl) ?_
      refine lv_aload_n hx hb dL_law_461 rfl (lv_at hl 1 rfl) ?_
      refine lv_iload hx hb dL_law_462 (lv_at hl 5 rfl) ?_
      refine lv_iconst (v := (nI 1)) hx hb dL_law_464 (by decide) ?_
      refine n_iadd hx hb dL_law_465 ?_
      refine n_sld hx hb hX hbl hbA hS (4 * j9 + 1) (by omega) (by omega) (x) ex dL_law_466 ?_
      refine lv_aload_n hx hb dL_law_467 rfl (lv_at hl 1 rfl) ?_
      refine lv_iload hx hb dL_law_468 (lv_at hl 5 rfl) ?_
      refine lv_iconst (v := (nI 2)) hx hb dL_law_470 (by decide) ?_
      refine n_iadd hx hb dL_law_471 ?_
      refine n_sld hx hb hX hbl hbA hS (4 * j9 + 2) (by omega) (by omega) (y) ey dL_law_472 ?_
      refine k_I (wr := wC h0 a0 a1 a2 a3 a4 a5 cI cZ bf pw hs lo lg rt nb (nI fi) (nI fo) (nI en) 1 cu ma ++ wO oj cJ og) hP hD hS hA (va_runV (As := [.int x, .int y]) (rest := []) ⟨hx, hb, hml, hown, hts⟩ (tX1_copy_xb th bf pw hs lo lg rt nb fi fo en cu ma x y h _) (cwV 2 hts gL_law_X1_copy rfl rfl rfl (by decide +kernel) ⟨Nat.le_of_ble_eq_true rfl, Nat.le_of_ble_eq_true rfl⟩) (pV_B hP hD hK (ci := 1) (q0 := 7) rfl rfl rfl [0, 1] rfl [7, 8, 9, 10, 11, 12, 13] rfl rfl) rfl rfl hl.1 rfl (lv_room (Nat.le_of_ble_eq_true rfl)) dL_law_473 hc9) [7, 8, 9, 10, 11, 12, 13] [0, 1, 2, 3, 4, 5, 6, 14] rfl rfl rfl (by decide) (fun H locs hP hD hS => ?_)
      have hP : va_P D vwCl (wC h0 a0 a1 a2 a3 a4 a5 cI cZ bf pw hs lo lg rt nb (nI fi) (nI fo) (nI en) 1 cu ma ++ (wM g0 b0 b1 b2 b3 b4 b5 cI cZ 2 bf pw hs lo lg rt nb (nI fi) (nI fo) (nI en) 0 cu ma ++ wO oj cJ og)) H := hP.sub [0, 1, 2, 3, 4, 5, 6, 8, 9, 10, 11, 12, 13, 14, 7] rfl
      have hD : va_D A (wC h0 a0 a1 a2 a3 a4 a5 cI cZ bf pw hs lo lg rt nb (nI fi) (nI fo) (nI en) 1 cu ma ++ (wM g0 b0 b1 b2 b3 b4 b5 cI cZ 2 bf pw hs lo lg rt nb (nI fi) (nI fo) (nI en) 0 cu ma ++ wO oj cJ og)) := hD.sub [0, 1, 2, 3, 4, 5, 6, 8, 9, 10, 11, 12, 13, 14, 7] (by decide) rfl
      refine lv_istore (lv' := [(6, .int 0), (5, .int 2), (0, .ref b), (1, .ref h0), (2, .ref g0), (3, .ref oj), (4, .int (nI (4 * j9)))]) hx hb dL_law_476 hl (by decide) rfl (fun ls hl => ?_)
      refine lv_aload_n hx hb dL_law_478 rfl (lv_at hl 4 rfl) ?_
      refine k_I (wr := wC h0 a0 a1 a2 a3 a4 a5 cI cZ bf pw hs lo lg rt nb (nI fi) (nI fo) (nI en) 1 cu ma ++ wO oj cJ og) hP hD hS hA (va_runV (As := []) (rest := []) ⟨hx, hb, hml, hown, hts⟩ (tX1_thrown 2 bf pw hs lo lg rt nb fi fo en 0 cu ma _) (cwV 0 hts gL_law_X1_thrown rfl rfl rfl (by decide +kernel) ⟨Nat.le_of_ble_eq_true rfl, Nat.le_of_ble_eq_true rfl⟩) (pV_B hP hD hK (ci := 1) (q0 := 7) rfl rfl rfl [0, 1] rfl [7, 8, 9, 10, 11, 12, 13] rfl rfl) rfl rfl hl.1 rfl (lv_room (Nat.le_of_ble_eq_true rfl)) dL_law_479 hc9) [7, 8, 9, 10, 11, 12, 13] [0, 1, 2, 3, 4, 5, 6, 14] rfl rfl rfl (by decide) (fun H locs hP hD hS => ?_)
      have hP : va_P D vwCl (wC h0 a0 a1 a2 a3 a4 a5 cI cZ bf pw hs lo lg rt nb (nI fi) (nI fo) (nI en) 1 cu ma ++ (wM g0 b0 b1 b2 b3 b4 b5 cI cZ 2 bf pw hs lo lg rt nb (nI fi) (nI fo) (nI en) 0 cu ma ++ wO oj cJ og)) H := hP.sub [0, 1, 2, 3, 4, 5, 6, 8, 9, 10, 11, 12, 13, 14, 7] rfl
      have hD : va_D A (wC h0 a0 a1 a2 a3 a4 a5 cI cZ bf pw hs lo lg rt nb (nI fi) (nI fo) (nI en) 1 cu ma ++ (wM g0 b0 b1 b2 b3 b4 b5 cI cZ 2 bf pw hs lo lg rt nb (nI fi) (nI fo) (nI en) 0 cu ma ++ wO oj cJ og)) := hD.sub [0, 1, 2, 3, 4, 5, 6, 8, 9, 10, 11, 12, 13, 14, 7] (by decide) rfl
      refine lv_iload hx hb dL_law_482 (lv_at hl 1 rfl) ?_
      refine lv_icmp_eq (tgt := 489) hx hb dL_law_484 (by decide) (fun c_484 => ?_) (fun c_484 => absurd (by decide) c_484)
      refine lv_iload hx hb dL_law_489 (lv_at hl 1 rfl) ?_
      refine lv_if_ne (tgt := 506) hx hb dL_law_491 (by decide) (fun c_491 => ?_) (fun c_491 => absurd c_491 (by decide))
      refine lv_goto (tgt := 1176) hx hb dL_law_506 (by decide) ?_
      refine W.widen (k := 15 + (j9 + 1)) (n := 199844 + 6 * (j9 + 1)) (by omega) (by omega) ?_
      refine lv_iinc (v := nI (4 * (j9 + 1))) (lv' := [(4, .int (nI (4 * (j9 + 1)))), (6, .int 0), (5, .int 2), (0, .ref b), (1, .ref h0), (2, .ref g0), (3, .ref oj)]) hx hb dL_law_1176 hl (k := 6) rfl (nI_add (4 * j9) 4) (by decide) rfl (fun ls hl => ?_)
      refine lv_goto (tgt := 23) hx hb dL_law_1179 (by decide) ?_
      exact IH bf pw hs lo lg rt nb fi fo en 1 0 cu ma 2 og _ _ _ (Or.inr ⟨rfl, rfl⟩) (by omega) (by omega) (by omega) hcu hP hD hS (lv_sub hl [3, 4, 5, 6, 0] rfl)
    · by_cases hw : sp_ps lo hs (ar * 256 + pg) = 0
      · by_cases h : cu = 0
        · have hP : va_P D vwCl (wC h0 a0 a1 a2 a3 a4 a5 cI cZ bf pw hs lo lg rt nb (nI fi) (nI fo) (nI en) 1 cu ma ++ (wM g0 b0 b1 b2 b3 b4 b5 cI cZ th bf pw hs lo lg rt nb (nI fi) (nI fo) (nI en) 0 cu ma ++ wO oj cJ og)) H := hP
          have hD : va_D A (wC h0 a0 a1 a2 a3 a4 a5 cI cZ bf pw hs lo lg rt nb (nI fi) (nI fo) (nI en) 1 cu ma ++ (wM g0 b0 b1 b2 b3 b4 b5 cI cZ th bf pw hs lo lg rt nb (nI fi) (nI fo) (nI en) 0 cu ma ++ wO oj cJ og)) := hD
          refine lv_aload_n hx hb dL_law_441 rfl (lv_at hl 1 rfl) ?_
          refine lv_aload_n hx hb dL_law_442 rfl (lv_at hl 0 rfl) ?_
          refine lv_iload hx hb dL_law_443 (lv_at hl 4 rfl) ?_
          refine lv_iconst (v := (nI 1)) hx hb dL_law_445 (by decide) ?_
          refine n_iadd hx hb dL_law_446 ?_
          refine n_sld hx hb hX hbl hbA hS (4 * j9 + 1) (by omega) (by omega) ((nI ar)) ex dL_law_447 ?_
          refine lv_aload_n hx hb dL_law_448 rfl (lv_at hl 0 rfl) ?_
          refine lv_iload hx hb dL_law_449 (lv_at hl 4 rfl) ?_
          refine lv_iconst (v := (nI 2)) hx hb dL_law_451 (by decide) ?_
          refine n_iadd hx hb dL_law_452 ?_
          refine n_sld hx hb hX hbl hbA hS (4 * j9 + 2) (by omega) (by omega) ((nI pg)) ey dL_law_453 ?_
          refine lv_aload_n hx hb dL_law_454 rfl (lv_at hl 3 rfl) ?_
          refine k_I (wr := wM g0 b0 b1 b2 b3 b4 b5 cI cZ th bf pw hs lo lg rt nb (nI fi) (nI fo) (nI en) 0 cu ma) hP hD hS hA (vx_runSW (As := [.ref h0, .int (nI ar), .int (nI pg), .ref oj]) (rest := []) ⟨hx, hb, hml, hown, hts⟩ (tL_copy_ok0 hl0 bf pw hs lo lg rt nb fi fo en cu ma ar pg h1 h2 hw h oj og _) (vx_cwSW 4 hts gL_law_L_copy rfl rfl rfl (by decide +kernel) ⟨Nat.le_of_ble_eq_true rfl, Nat.le_of_ble_eq_true rfl⟩) (pS_X hP hD hK hS hA hT [0, 1, 2] rfl [0, 1, 2, 3, 4, 5, 6, 14] rfl rfl) rfl rfl hl.1 rfl (lv_room (Nat.le_of_ble_eq_true rfl)) dL_law_455 hc1) [0, 1, 2, 3, 4, 5, 6, 14] [7, 8, 9, 10, 11, 12, 13] rfl rfl rfl (by decide) (fun H locs hP hD hS => ?_)
          have hP : va_P D vwCl (wC h0 a0 a1 a2 a3 a4 a5 cI cZ (zf bf) pw hs lo lg rt (nb + 1) (nI fi) (nI fo) (nI fo) 0 cu ma ++ (wM g0 b0 b1 b2 b3 b4 b5 cI cZ th bf pw hs lo lg rt nb (nI fi) (nI fo) (nI en) 0 cu ma ++ wO oj cJ (vp_updL og 0 (Int32.toInt64 (-1))))) H := hP.sub [7, 8, 9, 10, 11, 12, 13, 0, 1, 2, 3, 4, 5, 6, 14] rfl
          have hD : va_D A (wC h0 a0 a1 a2 a3 a4 a5 cI cZ (zf bf) pw hs lo lg rt (nb + 1) (nI fi) (nI fo) (nI fo) 0 cu ma ++ (wM g0 b0 b1 b2 b3 b4 b5 cI cZ th bf pw hs lo lg rt nb (nI fi) (nI fo) (nI en) 0 cu ma ++ wO oj cJ (vp_updL og 0 (Int32.toInt64 (-1))))) := hD.sub [7, 8, 9, 10, 11, 12, 13, 0, 1, 2, 3, 4, 5, 6, 14] (by decide) rfl
          refine lv_istore (lv' := [(5, .int 0), (0, .ref b), (1, .ref h0), (2, .ref g0), (3, .ref oj), (4, .int (nI (4 * j9)))]) hx hb dL_law_458 hl (by decide) rfl (fun ls hl => ?_)
          refine lv_aload_n hx hb dL_law_460 rfl (lv_at hl 3 rfl) ?_
          refine lv_aload_n hx hb dL_law_461 rfl (lv_at hl 1 rfl) ?_
          refine lv_iload hx hb dL_law_462 (lv_at hl 5 rfl) ?_
          refine lv_iconst (v := (nI 1)) hx hb dL_law_464 (by decide) ?_
          refine n_iadd hx hb dL_law_465 ?_
          refine n_sld hx hb hX hbl hbA hS (4 * j9 + 1) (by omega) (by omega) ((nI ar)) ex dL_law_466 ?_
          refine lv_aload_n hx hb dL_law_467 rfl (lv_at hl 1 rfl) ?_
          refine lv_iload hx hb dL_law_468 (lv_at hl 5 rfl) ?_
          refine lv_iconst (v := (nI 2)) hx hb dL_law_470 (by decide) ?_
          refine n_iadd hx hb dL_law_471 ?_
          refine n_sld hx hb hX hbl hbA hS (4 * j9 + 2) (by omega) (by omega) ((nI pg)) ey dL_law_472 ?_
          refine k_I (wr := wC h0 a0 a1 a2 a3 a4 a5 cI cZ (zf bf) pw hs lo lg rt (nb + 1) (nI fi) (nI fo) (nI fo) 0 cu ma ++ wO oj cJ (vp_updL og 0 (Int32.toInt64 (-1)))) hP hD hS hA (va_runV (As := [.int (nI ar), .int (nI pg)]) (rest := []) ⟨hx, hb, hml, hown, hts⟩ (tX1_copy_ok0 th bf pw hs lo lg rt nb fi fo en cu ma ar pg h1 h2 hw h _) (cwV 2 hts gL_law_X1_copy rfl rfl rfl (by decide +kernel) ⟨Nat.le_of_ble_eq_true rfl, Nat.le_of_ble_eq_true rfl⟩) (pV_B hP hD hK (ci := 1) (q0 := 7) rfl rfl rfl [0, 1] rfl [7, 8, 9, 10, 11, 12, 13] rfl rfl) rfl rfl hl.1 rfl (lv_room (Nat.le_of_ble_eq_true rfl)) dL_law_473 hc9) [7, 8, 9, 10, 11, 12, 13] [0, 1, 2, 3, 4, 5, 6, 14] rfl rfl rfl (by decide) (fun H locs hP hD hS => ?_)
          have hP : va_P D vwCl (wC h0 a0 a1 a2 a3 a4 a5 cI cZ (zf bf) pw hs lo lg rt (nb + 1) (nI fi) (nI fo) (nI fo) 0 cu ma ++ (wM g0 b0 b1 b2 b3 b4 b5 cI cZ 0 (zf bf) pw hs lo lg rt (nb + 1) (nI fi) (nI fo) (nI fo) 1 cu ma ++ wO oj cJ (vp_updL og 0 (Int32.toInt64 (-1))))) H := hP.sub [0, 1, 2, 3, 4, 5, 6, 8, 9, 10, 11, 12, 13, 14, 7] rfl
          have hD : va_D A (wC h0 a0 a1 a2 a3 a4 a5 cI cZ (zf bf) pw hs lo lg rt (nb + 1) (nI fi) (nI fo) (nI fo) 0 cu ma ++ (wM g0 b0 b1 b2 b3 b4 b5 cI cZ 0 (zf bf) pw hs lo lg rt (nb + 1) (nI fi) (nI fo) (nI fo) 1 cu ma ++ wO oj cJ (vp_updL og 0 (Int32.toInt64 (-1))))) := hD.sub [0, 1, 2, 3, 4, 5, 6, 8, 9, 10, 11, 12, 13, 14, 7] (by decide) rfl
          refine lv_istore (lv' := [(6, .int (-1)), (5, .int 0), (0, .ref b), (1, .ref h0), (2, .ref g0), (3, .ref oj), (4, .int (nI (4 * j9)))]) hx hb dL_law_476 hl (by decide) rfl (fun ls hl => ?_)
          refine lv_aload_n hx hb dL_law_478 rfl (lv_at hl 4 rfl) ?_
          refine k_I (wr := wC h0 a0 a1 a2 a3 a4 a5 cI cZ (zf bf) pw hs lo lg rt (nb + 1) (nI fi) (nI fo) (nI fo) 0 cu ma ++ wO oj cJ (vp_updL og 0 (Int32.toInt64 (-1)))) hP hD hS hA (va_runV (As := []) (rest := []) ⟨hx, hb, hml, hown, hts⟩ (tX1_thrown 0 (zf bf) pw hs lo lg rt (nb + 1) fi fo fo 1 cu ma _) (cwV 0 hts gL_law_X1_thrown rfl rfl rfl (by decide +kernel) ⟨Nat.le_of_ble_eq_true rfl, Nat.le_of_ble_eq_true rfl⟩) (pV_B hP hD hK (ci := 1) (q0 := 7) rfl rfl rfl [0, 1] rfl [7, 8, 9, 10, 11, 12, 13] rfl rfl) rfl rfl hl.1 rfl (lv_room (Nat.le_of_ble_eq_true rfl)) dL_law_479 hc9) [7, 8, 9, 10, 11, 12, 13] [0, 1, 2, 3, 4, 5, 6, 14] rfl rfl rfl (by decide) (fun H locs hP hD hS => ?_)
          have hP : va_P D vwCl (wC h0 a0 a1 a2 a3 a4 a5 cI cZ (zf bf) pw hs lo lg rt (nb + 1) (nI fi) (nI fo) (nI fo) 0 cu ma ++ (wM g0 b0 b1 b2 b3 b4 b5 cI cZ 0 (zf bf) pw hs lo lg rt (nb + 1) (nI fi) (nI fo) (nI fo) 1 cu ma ++ wO oj cJ (vp_updL og 0 (Int32.toInt64 (-1))))) H := hP.sub [0, 1, 2, 3, 4, 5, 6, 8, 9, 10, 11, 12, 13, 14, 7] rfl
          have hD : va_D A (wC h0 a0 a1 a2 a3 a4 a5 cI cZ (zf bf) pw hs lo lg rt (nb + 1) (nI fi) (nI fo) (nI fo) 0 cu ma ++ (wM g0 b0 b1 b2 b3 b4 b5 cI cZ 0 (zf bf) pw hs lo lg rt (nb + 1) (nI fi) (nI fo) (nI fo) 1 cu ma ++ wO oj cJ (vp_updL og 0 (Int32.toInt64 (-1))))) := hD.sub [0, 1, 2, 3, 4, 5, 6, 8, 9, 10, 11, 12, 13, 14, 7] (by decide) rfl
          refine lv_iload hx hb dL_law_482 (lv_at hl 1 rfl) ?_
          refine lv_icmp_eq (tgt := 489) hx hb dL_law_484 (by decide) (fun c_484 => ?_) (fun c_484 => absurd (by decide) c_484)
          refine lv_iload hx hb dL_law_489 (lv_at hl 1 rfl) ?_
          refine lv_if_ne (tgt := 506) hx hb dL_law_491 (by decide) (fun c_491 => absurd (by decide) c_491) (fun c_491 => ?_)
          refine lv_aload_n hx hb dL_law_494 rfl (lv_at hl 5 rfl) ?_
          refine lv_iconst (v := (nI 0)) hx hb dL_law_495 (by decide) ?_
          refine n_lald hx hb hK hP 14 2 rfl rfl 0 (by omega) (by omega) dL_law_496 ?_
          refine lv_iload hx hb dL_law_497 (lv_at hl 0 rfl) ?_
          refine lv_i2l (v := Int32.toInt64 (-1)) hx hb dL_law_499 rfl ?_
          refine W.lcmp hx hb dL_law_500 ?_
          refine lv_if_eq (tgt := 506) hx hb dL_law_501 (by decide) (fun c_501 => ?_) (fun c_501 => absurd (by rw [pk_uLs]; exact lg_self _) c_501)
          refine lv_goto (tgt := 1176) hx hb dL_law_506 (by decide) ?_
          refine W.widen (k := 15 + (j9 + 1)) (n := 199844 + 6 * (j9 + 1)) (by omega) (by omega) ?_
          refine lv_iinc (v := nI (4 * (j9 + 1))) (lv' := [(4, .int (nI (4 * (j9 + 1)))), (6, .int (-1)), (5, .int 0), (0, .ref b), (1, .ref h0), (2, .ref g0), (3, .ref oj)]) hx hb dL_law_1176 hl (k := 6) rfl (nI_add (4 * j9) 4) (by decide) rfl (fun ls hl => ?_)
          refine lv_goto (tgt := 23) hx hb dL_law_1179 (by decide) ?_
          exact IH (zf bf) pw hs lo lg rt (nb + 1) fi fo fo 0 1 cu ma 0 (vp_updL og 0 (Int32.toInt64 (-1))) _ _ _ (Or.inl ⟨rfl, rfl⟩) (by omega) (by omega) (by omega) hcu hP hD hS (lv_sub hl [3, 4, 5, 6, 0] rfl)
        · by_cases hd : dcu cu = 0
          · have hP : va_P D vwCl (wC h0 a0 a1 a2 a3 a4 a5 cI cZ bf pw hs lo lg rt nb (nI fi) (nI fo) (nI en) 1 cu ma ++ (wM g0 b0 b1 b2 b3 b4 b5 cI cZ th bf pw hs lo lg rt nb (nI fi) (nI fo) (nI en) 0 cu ma ++ wO oj cJ og)) H := hP
            have hD : va_D A (wC h0 a0 a1 a2 a3 a4 a5 cI cZ bf pw hs lo lg rt nb (nI fi) (nI fo) (nI en) 1 cu ma ++ (wM g0 b0 b1 b2 b3 b4 b5 cI cZ th bf pw hs lo lg rt nb (nI fi) (nI fo) (nI en) 0 cu ma ++ wO oj cJ og)) := hD
            refine lv_aload_n hx hb dL_law_441 rfl (lv_at hl 1 rfl) ?_
            refine lv_aload_n hx hb dL_law_442 rfl (lv_at hl 0 rfl) ?_
            refine lv_iload hx hb dL_law_443 (lv_at hl 4 rfl) ?_
            refine lv_iconst (v := (nI 1)) hx hb dL_law_445 (by decide) ?_
            refine n_iadd hx hb dL_law_446 ?_
            refine n_sld hx hb hX hbl hbA hS (4 * j9 + 1) (by omega) (by omega) ((nI ar)) ex dL_law_447 ?_
            refine lv_aload_n hx hb dL_law_448 rfl (lv_at hl 0 rfl) ?_
            refine lv_iload hx hb dL_law_449 (lv_at hl 4 rfl) ?_
            refine lv_iconst (v := (nI 2)) hx hb dL_law_451 (by decide) ?_
            refine n_iadd hx hb dL_law_452 ?_
            refine n_sld hx hb hX hbl hbA hS (4 * j9 + 2) (by omega) (by omega) ((nI pg)) ey dL_law_453 ?_
            refine lv_aload_n hx hb dL_law_454 rfl (lv_at hl 3 rfl) ?_
            refine k_I (wr := wM g0 b0 b1 b2 b3 b4 b5 cI cZ th bf pw hs lo lg rt nb (nI fi) (nI fo) (nI en) 0 cu ma) hP hD hS hA (vx_runSW (As := [.ref h0, .int (nI ar), .int (nI pg), .ref oj]) (rest := []) ⟨hx, hb, hml, hown, hts⟩ (tL_copy_ok1 hl0 bf pw hs lo lg rt nb fi fo en cu ma ar pg h1 h2 hw h hd oj og _) (vx_cwSW 4 hts gL_law_L_copy rfl rfl rfl (by decide +kernel) ⟨Nat.le_of_ble_eq_true rfl, Nat.le_of_ble_eq_true rfl⟩) (pS_X hP hD hK hS hA hT [0, 1, 2] rfl [0, 1, 2, 3, 4, 5, 6, 14] rfl rfl) rfl rfl hl.1 rfl (lv_room (Nat.le_of_ble_eq_true rfl)) dL_law_455 hc1) [0, 1, 2, 3, 4, 5, 6, 14] [7, 8, 9, 10, 11, 12, 13] rfl rfl rfl (by decide) (fun H locs hP hD hS => ?_)
            have hP : va_P D vwCl (wC h0 a0 a1 a2 a3 a4 a5 cI cZ (zf bf) (va_cpy pw pw ((ar * 256 + pg) * 64) (((1 - ar) * 256 + pg) * 64) 32) (upd hs (((1 - ar) * 256 + pg) * 2) (nb + 1)) lo lg rt (nb + 1) (nI fi) (nI fo) (nI fo) 0 (dcu cu) (ma + 1) ++ (wM g0 b0 b1 b2 b3 b4 b5 cI cZ th bf pw hs lo lg rt nb (nI fi) (nI fo) (nI en) 0 cu ma ++ wO oj cJ (vp_updL og 0 (Int32.toInt64 (-1))))) H := hP.sub [7, 8, 9, 10, 11, 12, 13, 0, 1, 2, 3, 4, 5, 6, 14] rfl
            have hD : va_D A (wC h0 a0 a1 a2 a3 a4 a5 cI cZ (zf bf) (va_cpy pw pw ((ar * 256 + pg) * 64) (((1 - ar) * 256 + pg) * 64) 32) (upd hs (((1 - ar) * 256 + pg) * 2) (nb + 1)) lo lg rt (nb + 1) (nI fi) (nI fo) (nI fo) 0 (dcu cu) (ma + 1) ++ (wM g0 b0 b1 b2 b3 b4 b5 cI cZ th bf pw hs lo lg rt nb (nI fi) (nI fo) (nI en) 0 cu ma ++ wO oj cJ (vp_updL og 0 (Int32.toInt64 (-1))))) := hD.sub [7, 8, 9, 10, 11, 12, 13, 0, 1, 2, 3, 4, 5, 6, 14] (by decide) rfl
            refine lv_istore (lv' := [(5, .int 0), (0, .ref b), (1, .ref h0), (2, .ref g0), (3, .ref oj), (4, .int (nI (4 * j9)))]) hx hb dL_law_458 hl (by decide) rfl (fun ls hl => ?_)
            refine lv_aload_n hx hb dL_law_460 rfl (lv_at hl 3 rfl) ?_
            refine lv_aload_n hx hb dL_law_461 rfl (lv_at hl 1 rfl) ?_
            refine lv_iload hx hb dL_law_462 (lv_at hl 5 rfl) ?_
            refine lv_iconst (v := (nI 1)) hx hb dL_law_464 (by decide) ?_
            refine n_iadd hx hb dL_law_465 ?_
            refine n_sld hx hb hX hbl hbA hS (4 * j9 + 1) (by omega) (by omega) ((nI ar)) ex dL_law_466 ?_
            refine lv_aload_n hx hb dL_law_467 rfl (lv_at hl 1 rfl) ?_
            refine lv_iload hx hb dL_law_468 (lv_at hl 5 rfl) ?_
            refine lv_iconst (v := (nI 2)) hx hb dL_law_470 (by decide) ?_
            refine n_iadd hx hb dL_law_471 ?_
            refine n_sld hx hb hX hbl hbA hS (4 * j9 + 2) (by omega) (by omega) ((nI pg)) ey dL_law_472 ?_
            refine k_I (wr := wC h0 a0 a1 a2 a3 a4 a5 cI cZ (zf bf) (va_cpy pw pw ((ar * 256 + pg) * 64) (((1 - ar) * 256 + pg) * 64) 32) (upd hs (((1 - ar) * 256 + pg) * 2) (nb + 1)) lo lg rt (nb + 1) (nI fi) (nI fo) (nI fo) 0 (dcu cu) (ma + 1) ++ wO oj cJ (vp_updL og 0 (Int32.toInt64 (-1)))) hP hD hS hA (va_runV (As := [.int (nI ar), .int (nI pg)]) (rest := []) ⟨hx, hb, hml, hown, hts⟩ (tX1_copy_ok1 th bf pw hs lo lg rt nb fi fo en cu ma ar pg h1 h2 hw hcu h hd _) (cwV 2 hts gL_law_X1_copy rfl rfl rfl (by decide +kernel) ⟨Nat.le_of_ble_eq_true rfl, Nat.le_of_ble_eq_true rfl⟩) (pV_B hP hD hK (ci := 1) (q0 := 7) rfl rfl rfl [0, 1] rfl [7, 8, 9, 10, 11, 12, 13] rfl rfl) rfl rfl hl.1 rfl (lv_room (Nat.le_of_ble_eq_true rfl)) dL_law_473 hc9) [7, 8, 9, 10, 11, 12, 13] [0, 1, 2, 3, 4, 5, 6, 14] rfl rfl rfl (by decide) (fun H locs hP hD hS => ?_)
            have hP : va_P D vwCl (wC h0 a0 a1 a2 a3 a4 a5 cI cZ (zf bf) (va_cpy pw pw ((ar * 256 + pg) * 64) (((1 - ar) * 256 + pg) * 64) 32) (upd hs (((1 - ar) * 256 + pg) * 2) (nb + 1)) lo lg rt (nb + 1) (nI fi) (nI fo) (nI fo) 0 (dcu cu) (ma + 1) ++ (wM g0 b0 b1 b2 b3 b4 b5 cI cZ 0 (zf bf) (va_cpy pw pw ((ar * 256 + pg) * 64) (((1 - ar) * 256 + pg) * 64) 32) (upd hs (((1 - ar) * 256 + pg) * 2) (nb + 1)) lo lg rt (nb + 1) (nI fi) (nI fo) (nI fo) 1 (dcu cu) (ma + 1) ++ wO oj cJ (vp_updL og 0 (Int32.toInt64 (-1))))) H := hP.sub [0, 1, 2, 3, 4, 5, 6, 8, 9, 10, 11, 12, 13, 14, 7] rfl
            have hD : va_D A (wC h0 a0 a1 a2 a3 a4 a5 cI cZ (zf bf) (va_cpy pw pw ((ar * 256 + pg) * 64) (((1 - ar) * 256 + pg) * 64) 32) (upd hs (((1 - ar) * 256 + pg) * 2) (nb + 1)) lo lg rt (nb + 1) (nI fi) (nI fo) (nI fo) 0 (dcu cu) (ma + 1) ++ (wM g0 b0 b1 b2 b3 b4 b5 cI cZ 0 (zf bf) (va_cpy pw pw ((ar * 256 + pg) * 64) (((1 - ar) * 256 + pg) * 64) 32) (upd hs (((1 - ar) * 256 + pg) * 2) (nb + 1)) lo lg rt (nb + 1) (nI fi) (nI fo) (nI fo) 1 (dcu cu) (ma + 1) ++ wO oj cJ (vp_updL og 0 (Int32.toInt64 (-1))))) := hD.sub [0, 1, 2, 3, 4, 5, 6, 8, 9, 10, 11, 12, 13, 14, 7] (by decide) rfl
            refine lv_istore (lv' := [(6, .int (-1)), (5, .int 0), (0, .ref b), (1, .ref h0), (2, .ref g0), (3, .ref oj), (4, .int (nI (4 * j9)))]) hx hb dL_law_476 hl (by decide) rfl (fun ls hl => ?_)
            refine lv_aload_n hx hb dL_law_478 rfl (lv_at hl 4 rfl) ?_
            refine k_I (wr := wC h0 a0 a1 a2 a3 a4 a5 cI cZ (zf bf) (va_cpy pw pw ((ar * 256 + pg) * 64) (((1 - ar) * 256 + pg) * 64) 32) (upd hs (((1 - ar) * 256 + pg) * 2) (nb + 1)) lo lg rt (nb + 1) (nI fi) (nI fo) (nI fo) 0 (dcu cu) (ma + 1) ++ wO oj cJ (vp_updL og 0 (Int32.toInt64 (-1)))) hP hD hS hA (va_runV (As := []) (rest := []) ⟨hx, hb, hml, hown, hts⟩ (tX1_thrown 0 (zf bf) (va_cpy pw pw ((ar * 256 + pg) * 64) (((1 - ar) * 256 + pg) * 64) 32) (upd hs (((1 - ar) * 256 + pg) * 2) (nb + 1)) lo lg rt (nb + 1) fi fo fo 1 (dcu cu) (ma + 1) _) (cwV 0 hts gL_law_X1_thrown rfl rfl rfl (by decide +kernel) ⟨Nat.le_of_ble_eq_true rfl, Nat.le_of_ble_eq_true rfl⟩) (pV_B hP hD hK (ci := 1) (q0 := 7) rfl rfl rfl [0, 1] rfl [7, 8, 9, 10, 11, 12, 13] rfl rfl) rfl rfl hl.1 rfl (lv_room (Nat.le_of_ble_eq_true rfl)) dL_law_479 hc9) [7, 8, 9, 10, 11, 12, 13] [0, 1, 2, 3, 4, 5, 6, 14] rfl rfl rfl (by decide) (fun H locs hP hD hS => ?_)
            have hP : va_P D vwCl (wC h0 a0 a1 a2 a3 a4 a5 cI cZ (zf bf) (va_cpy pw pw ((ar * 256 + pg) * 64) (((1 - ar) * 256 + pg) * 64) 32) (upd hs (((1 - ar) * 256 + pg) * 2) (nb + 1)) lo lg rt (nb + 1) (nI fi) (nI fo) (nI fo) 0 (dcu cu) (ma + 1) ++ (wM g0 b0 b1 b2 b3 b4 b5 cI cZ 0 (zf bf) (va_cpy pw pw ((ar * 256 + pg) * 64) (((1 - ar) * 256 + pg) * 64) 32) (upd hs (((1 - ar) * 256 + pg) * 2) (nb + 1)) lo lg rt (nb + 1) (nI fi) (nI fo) (nI fo) 1 (dcu cu) (ma + 1) ++ wO oj cJ (vp_updL og 0 (Int32.toInt64 (-1))))) H := hP.sub [0, 1, 2, 3, 4, 5, 6, 8, 9, 10, 11, 12, 13, 14, 7] rfl
            have hD : va_D A (wC h0 a0 a1 a2 a3 a4 a5 cI cZ (zf bf) (va_cpy pw pw ((ar * 256 + pg) * 64) (((1 - ar) * 256 + pg) * 64) 32) (upd hs (((1 - ar) * 256 + pg) * 2) (nb + 1)) lo lg rt (nb + 1) (nI fi) (nI fo) (nI fo) 0 (dcu cu) (ma + 1) ++ (wM g0 b0 b1 b2 b3 b4 b5 cI cZ 0 (zf bf) (va_cpy pw pw ((ar * 256 + pg) * 64) (((1 - ar) * 256 + pg) * 64) 32) (upd hs (((1 - ar) * 256 + pg) * 2) (nb + 1)) lo lg rt (nb + 1) (nI fi) (nI fo) (nI fo) 1 (dcu cu) (ma + 1) ++ wO oj cJ (vp_updL og 0 (Int32.toInt64 (-1))))) := hD.sub [0, 1, 2, 3, 4, 5, 6, 8, 9, 10, 11, 12, 13, 14, 7] (by decide) rfl
            refine lv_iload hx hb dL_law_482 (lv_at hl 1 rfl) ?_
            refine lv_icmp_eq (tgt := 489) hx hb dL_law_484 (by decide) (fun c_484 => ?_) (fun c_484 => absurd (by decide) c_484)
            refine lv_iload hx hb dL_law_489 (lv_at hl 1 rfl) ?_
            refine lv_if_ne (tgt := 506) hx hb dL_law_491 (by decide) (fun c_491 => absurd (by decide) c_491) (fun c_491 => ?_)
            refine lv_aload_n hx hb dL_law_494 rfl (lv_at hl 5 rfl) ?_
            refine lv_iconst (v := (nI 0)) hx hb dL_law_495 (by decide) ?_
            refine n_lald hx hb hK hP 14 2 rfl rfl 0 (by omega) (by omega) dL_law_496 ?_
            refine lv_iload hx hb dL_law_497 (lv_at hl 0 rfl) ?_
            refine lv_i2l (v := Int32.toInt64 (-1)) hx hb dL_law_499 rfl ?_
            refine W.lcmp hx hb dL_law_500 ?_
            refine lv_if_eq (tgt := 506) hx hb dL_law_501 (by decide) (fun c_501 => ?_) (fun c_501 => absurd (by rw [pk_uLs]; exact lg_self _) c_501)
            refine lv_goto (tgt := 1176) hx hb dL_law_506 (by decide) ?_
            refine W.widen (k := 15 + (j9 + 1)) (n := 199844 + 6 * (j9 + 1)) (by omega) (by omega) ?_
            refine lv_iinc (v := nI (4 * (j9 + 1))) (lv' := [(4, .int (nI (4 * (j9 + 1)))), (6, .int (-1)), (5, .int 0), (0, .ref b), (1, .ref h0), (2, .ref g0), (3, .ref oj)]) hx hb dL_law_1176 hl (k := 6) rfl (nI_add (4 * j9) 4) (by decide) rfl (fun ls hl => ?_)
            refine lv_goto (tgt := 23) hx hb dL_law_1179 (by decide) ?_
            exact IH (zf bf) (va_cpy pw pw ((ar * 256 + pg) * 64) (((1 - ar) * 256 + pg) * 64) 32) (upd hs (((1 - ar) * 256 + pg) * 2) (nb + 1)) lo lg rt (nb + 1) fi fo fo 0 1 (dcu cu) (ma + 1) 0 (vp_updL og 0 (Int32.toInt64 (-1))) _ _ _ (Or.inl ⟨rfl, rfl⟩) (by omega) (by omega) (by omega) (dcu_ge h hcu) hP hD hS (lv_sub hl [3, 4, 5, 6, 0] rfl)
          · have hP : va_P D vwCl (wC h0 a0 a1 a2 a3 a4 a5 cI cZ bf pw hs lo lg rt nb (nI fi) (nI fo) (nI en) 1 cu ma ++ (wM g0 b0 b1 b2 b3 b4 b5 cI cZ th bf pw hs lo lg rt nb (nI fi) (nI fo) (nI en) 0 cu ma ++ wO oj cJ og)) H := hP
            have hD : va_D A (wC h0 a0 a1 a2 a3 a4 a5 cI cZ bf pw hs lo lg rt nb (nI fi) (nI fo) (nI en) 1 cu ma ++ (wM g0 b0 b1 b2 b3 b4 b5 cI cZ th bf pw hs lo lg rt nb (nI fi) (nI fo) (nI en) 0 cu ma ++ wO oj cJ og)) := hD
            refine lv_aload_n hx hb dL_law_441 rfl (lv_at hl 1 rfl) ?_
            refine lv_aload_n hx hb dL_law_442 rfl (lv_at hl 0 rfl) ?_
            refine lv_iload hx hb dL_law_443 (lv_at hl 4 rfl) ?_
            refine lv_iconst (v := (nI 1)) hx hb dL_law_445 (by decide) ?_
            refine n_iadd hx hb dL_law_446 ?_
            refine n_sld hx hb hX hbl hbA hS (4 * j9 + 1) (by omega) (by omega) ((nI ar)) ex dL_law_447 ?_
            refine lv_aload_n hx hb dL_law_448 rfl (lv_at hl 0 rfl) ?_
            refine lv_iload hx hb dL_law_449 (lv_at hl 4 rfl) ?_
            refine lv_iconst (v := (nI 2)) hx hb dL_law_451 (by decide) ?_
            refine n_iadd hx hb dL_law_452 ?_
            refine n_sld hx hb hX hbl hbA hS (4 * j9 + 2) (by omega) (by omega) ((nI pg)) ey dL_law_453 ?_
            refine lv_aload_n hx hb dL_law_454 rfl (lv_at hl 3 rfl) ?_
            refine k_I (wr := wM g0 b0 b1 b2 b3 b4 b5 cI cZ th bf pw hs lo lg rt nb (nI fi) (nI fo) (nI en) 0 cu ma) hP hD hS hA (vx_runSW (As := [.ref h0, .int (nI ar), .int (nI pg), .ref oj]) (rest := []) ⟨hx, hb, hml, hown, hts⟩ (tL_copy_ok2 hl0 bf pw hs lo lg rt nb fi fo en cu ma ar pg h1 h2 hw h hd oj og _) (vx_cwSW 4 hts gL_law_L_copy rfl rfl rfl (by decide +kernel) ⟨Nat.le_of_ble_eq_true rfl, Nat.le_of_ble_eq_true rfl⟩) (pS_X hP hD hK hS hA hT [0, 1, 2] rfl [0, 1, 2, 3, 4, 5, 6, 14] rfl rfl) rfl rfl hl.1 rfl (lv_room (Nat.le_of_ble_eq_true rfl)) dL_law_455 hc1) [0, 1, 2, 3, 4, 5, 6, 14] [7, 8, 9, 10, 11, 12, 13] rfl rfl rfl (by decide) (fun H locs hP hD hS => ?_)
            have hP : va_P D vwCl (wC h0 a0 a1 a2 a3 a4 a5 cI cZ bf (va_cpy (va_cpy pw pw ((ar * 256 + pg) * 64) (((1 - ar) * 256 + pg) * 64) 32) (va_cpy pw pw ((ar * 256 + pg) * 64) (((1 - ar) * 256 + pg) * 64) 32) (((ar * 256 + pg) * 64) + 32) (((1 - ar) * 256 + pg) * 64 + 32) 32) (upd (upd hs (((1 - ar) * 256 + pg) * 2) (nb + 1)) (((1 - ar) * 256 + pg) * 2 + 1) (nb + 1)) (upd lo ((1 - ar) * 256 + pg) 0) lg rt (nb + 1) (nI fi) (nI fo) (nI en) 1 (dcu (dcu cu)) (ma + 1 + 1) ++ (wM g0 b0 b1 b2 b3 b4 b5 cI cZ th bf pw hs lo lg rt nb (nI fi) (nI fo) (nI en) 0 cu ma ++ wO oj cJ (vp_updL og 0 (Int32.toInt64 (nb + 1))))) H := hP.sub [7, 8, 9, 10, 11, 12, 13, 0, 1, 2, 3, 4, 5, 6, 14] rfl
            have hD : va_D A (wC h0 a0 a1 a2 a3 a4 a5 cI cZ bf (va_cpy (va_cpy pw pw ((ar * 256 + pg) * 64) (((1 - ar) * 256 + pg) * 64) 32) (va_cpy pw pw ((ar * 256 + pg) * 64) (((1 - ar) * 256 + pg) * 64) 32) (((ar * 256 + pg) * 64) + 32) (((1 - ar) * 256 + pg) * 64 + 32) 32) (upd (upd hs (((1 - ar) * 256 + pg) * 2) (nb + 1)) (((1 - ar) * 256 + pg) * 2 + 1) (nb + 1)) (upd lo ((1 - ar) * 256 + pg) 0) lg rt (nb + 1) (nI fi) (nI fo) (nI en) 1 (dcu (dcu cu)) (ma + 1 + 1) ++ (wM g0 b0 b1 b2 b3 b4 b5 cI cZ th bf pw hs lo lg rt nb (nI fi) (nI fo) (nI en) 0 cu ma ++ wO oj cJ (vp_updL og 0 (Int32.toInt64 (nb + 1))))) := hD.sub [7, 8, 9, 10, 11, 12, 13, 0, 1, 2, 3, 4, 5, 6, 14] (by decide) rfl
            refine lv_istore (lv' := [(5, .int 0), (0, .ref b), (1, .ref h0), (2, .ref g0), (3, .ref oj), (4, .int (nI (4 * j9)))]) hx hb dL_law_458 hl (by decide) rfl (fun ls hl => ?_)
            refine lv_aload_n hx hb dL_law_460 rfl (lv_at hl 3 rfl) ?_
            refine lv_aload_n hx hb dL_law_461 rfl (lv_at hl 1 rfl) ?_
            refine lv_iload hx hb dL_law_462 (lv_at hl 5 rfl) ?_
            refine lv_iconst (v := (nI 1)) hx hb dL_law_464 (by decide) ?_
            refine n_iadd hx hb dL_law_465 ?_
            refine n_sld hx hb hX hbl hbA hS (4 * j9 + 1) (by omega) (by omega) ((nI ar)) ex dL_law_466 ?_
            refine lv_aload_n hx hb dL_law_467 rfl (lv_at hl 1 rfl) ?_
            refine lv_iload hx hb dL_law_468 (lv_at hl 5 rfl) ?_
            refine lv_iconst (v := (nI 2)) hx hb dL_law_470 (by decide) ?_
            refine n_iadd hx hb dL_law_471 ?_
            refine n_sld hx hb hX hbl hbA hS (4 * j9 + 2) (by omega) (by omega) ((nI pg)) ey dL_law_472 ?_
            refine k_I (wr := wC h0 a0 a1 a2 a3 a4 a5 cI cZ bf (va_cpy (va_cpy pw pw ((ar * 256 + pg) * 64) (((1 - ar) * 256 + pg) * 64) 32) (va_cpy pw pw ((ar * 256 + pg) * 64) (((1 - ar) * 256 + pg) * 64) 32) (((ar * 256 + pg) * 64) + 32) (((1 - ar) * 256 + pg) * 64 + 32) 32) (upd (upd hs (((1 - ar) * 256 + pg) * 2) (nb + 1)) (((1 - ar) * 256 + pg) * 2 + 1) (nb + 1)) (upd lo ((1 - ar) * 256 + pg) 0) lg rt (nb + 1) (nI fi) (nI fo) (nI en) 1 (dcu (dcu cu)) (ma + 1 + 1) ++ wO oj cJ (vp_updL og 0 (Int32.toInt64 (nb + 1)))) hP hD hS hA (va_runV (As := [.int (nI ar), .int (nI pg)]) (rest := []) ⟨hx, hb, hml, hown, hts⟩ (tX1_copy_ok2 th bf pw hs lo lg rt nb fi fo en cu ma ar pg h1 h2 hw hcu h hd _) (cwV 2 hts gL_law_X1_copy rfl rfl rfl (by decide +kernel) ⟨Nat.le_of_ble_eq_true rfl, Nat.le_of_ble_eq_true rfl⟩) (pV_B hP hD hK (ci := 1) (q0 := 7) rfl rfl rfl [0, 1] rfl [7, 8, 9, 10, 11, 12, 13] rfl rfl) rfl rfl hl.1 rfl (lv_room (Nat.le_of_ble_eq_true rfl)) dL_law_473 hc9) [7, 8, 9, 10, 11, 12, 13] [0, 1, 2, 3, 4, 5, 6, 14] rfl rfl rfl (by decide) (fun H locs hP hD hS => ?_)
            have hP : va_P D vwCl (wC h0 a0 a1 a2 a3 a4 a5 cI cZ bf (va_cpy (va_cpy pw pw ((ar * 256 + pg) * 64) (((1 - ar) * 256 + pg) * 64) 32) (va_cpy pw pw ((ar * 256 + pg) * 64) (((1 - ar) * 256 + pg) * 64) 32) (((ar * 256 + pg) * 64) + 32) (((1 - ar) * 256 + pg) * 64 + 32) 32) (upd (upd hs (((1 - ar) * 256 + pg) * 2) (nb + 1)) (((1 - ar) * 256 + pg) * 2 + 1) (nb + 1)) (upd lo ((1 - ar) * 256 + pg) 0) lg rt (nb + 1) (nI fi) (nI fo) (nI en) 1 (dcu (dcu cu)) (ma + 1 + 1) ++ (wM g0 b0 b1 b2 b3 b4 b5 cI cZ 0 bf (va_cpy (va_cpy pw pw ((ar * 256 + pg) * 64) (((1 - ar) * 256 + pg) * 64) 32) (va_cpy pw pw ((ar * 256 + pg) * 64) (((1 - ar) * 256 + pg) * 64) 32) (((ar * 256 + pg) * 64) + 32) (((1 - ar) * 256 + pg) * 64 + 32) 32) (upd (upd hs (((1 - ar) * 256 + pg) * 2) (nb + 1)) (((1 - ar) * 256 + pg) * 2 + 1) (nb + 1)) (upd lo ((1 - ar) * 256 + pg) 0) lg rt (nb + 1) (nI fi) (nI fo) (nI en) 0 (dcu (dcu cu)) (ma + 1 + 1) ++ wO oj cJ (vp_updL og 0 (Int32.toInt64 (nb + 1))))) H := hP.sub [0, 1, 2, 3, 4, 5, 6, 8, 9, 10, 11, 12, 13, 14, 7] rfl
            have hD : va_D A (wC h0 a0 a1 a2 a3 a4 a5 cI cZ bf (va_cpy (va_cpy pw pw ((ar * 256 + pg) * 64) (((1 - ar) * 256 + pg) * 64) 32) (va_cpy pw pw ((ar * 256 + pg) * 64) (((1 - ar) * 256 + pg) * 64) 32) (((ar * 256 + pg) * 64) + 32) (((1 - ar) * 256 + pg) * 64 + 32) 32) (upd (upd hs (((1 - ar) * 256 + pg) * 2) (nb + 1)) (((1 - ar) * 256 + pg) * 2 + 1) (nb + 1)) (upd lo ((1 - ar) * 256 + pg) 0) lg rt (nb + 1) (nI fi) (nI fo) (nI en) 1 (dcu (dcu cu)) (ma + 1 + 1) ++ (wM g0 b0 b1 b2 b3 b4 b5 cI cZ 0 bf (va_cpy (va_cpy pw pw ((ar * 256 + pg) * 64) (((1 - ar) * 256 + pg) * 64) 32) (va_cpy pw pw ((ar * 256 + pg) * 64) (((1 - ar) * 256 + pg) * 64) 32) (((ar * 256 + pg) * 64) + 32) (((1 - ar) * 256 + pg) * 64 + 32) 32) (upd (upd hs (((1 - ar) * 256 + pg) * 2) (nb + 1)) (((1 - ar) * 256 + pg) * 2 + 1) (nb + 1)) (upd lo ((1 - ar) * 256 + pg) 0) lg rt (nb + 1) (nI fi) (nI fo) (nI en) 0 (dcu (dcu cu)) (ma + 1 + 1) ++ wO oj cJ (vp_updL og 0 (Int32.toInt64 (nb + 1))))) := hD.sub [0, 1, 2, 3, 4, 5, 6, 8, 9, 10, 11, 12, 13, 14, 7] (by decide) rfl
            refine lv_istore (lv' := [(6, .int (nb + 1)), (5, .int 0), (0, .ref b), (1, .ref h0), (2, .ref g0), (3, .ref oj), (4, .int (nI (4 * j9)))]) hx hb dL_law_476 hl (by decide) rfl (fun ls hl => ?_)
            refine lv_aload_n hx hb dL_law_478 rfl (lv_at hl 4 rfl) ?_
            refine k_I (wr := wC h0 a0 a1 a2 a3 a4 a5 cI cZ bf (va_cpy (va_cpy pw pw ((ar * 256 + pg) * 64) (((1 - ar) * 256 + pg) * 64) 32) (va_cpy pw pw ((ar * 256 + pg) * 64) (((1 - ar) * 256 + pg) * 64) 32) (((ar * 256 + pg) * 64) + 32) (((1 - ar) * 256 + pg) * 64 + 32) 32) (upd (upd hs (((1 - ar) * 256 + pg) * 2) (nb + 1)) (((1 - ar) * 256 + pg) * 2 + 1) (nb + 1)) (upd lo ((1 - ar) * 256 + pg) 0) lg rt (nb + 1) (nI fi) (nI fo) (nI en) 1 (dcu (dcu cu)) (ma + 1 + 1) ++ wO oj cJ (vp_updL og 0 (Int32.toInt64 (nb + 1)))) hP hD hS hA (va_runV (As := []) (rest := []) ⟨hx, hb, hml, hown, hts⟩ (tX1_thrown 0 bf (va_cpy (va_cpy pw pw ((ar * 256 + pg) * 64) (((1 - ar) * 256 + pg) * 64) 32) (va_cpy pw pw ((ar * 256 + pg) * 64) (((1 - ar) * 256 + pg) * 64) 32) (((ar * 256 + pg) * 64) + 32) (((1 - ar) * 256 + pg) * 64 + 32) 32) (upd (upd hs (((1 - ar) * 256 + pg) * 2) (nb + 1)) (((1 - ar) * 256 + pg) * 2 + 1) (nb + 1)) (upd lo ((1 - ar) * 256 + pg) 0) lg rt (nb + 1) fi fo en 0 (dcu (dcu cu)) (ma + 1 + 1) _) (cwV 0 hts gL_law_X1_thrown rfl rfl rfl (by decide +kernel) ⟨Nat.le_of_ble_eq_true rfl, Nat.le_of_ble_eq_true rfl⟩) (pV_B hP hD hK (ci := 1) (q0 := 7) rfl rfl rfl [0, 1] rfl [7, 8, 9, 10, 11, 12, 13] rfl rfl) rfl rfl hl.1 rfl (lv_room (Nat.le_of_ble_eq_true rfl)) dL_law_479 hc9) [7, 8, 9, 10, 11, 12, 13] [0, 1, 2, 3, 4, 5, 6, 14] rfl rfl rfl (by decide) (fun H locs hP hD hS => ?_)
            have hP : va_P D vwCl (wC h0 a0 a1 a2 a3 a4 a5 cI cZ bf (va_cpy (va_cpy pw pw ((ar * 256 + pg) * 64) (((1 - ar) * 256 + pg) * 64) 32) (va_cpy pw pw ((ar * 256 + pg) * 64) (((1 - ar) * 256 + pg) * 64) 32) (((ar * 256 + pg) * 64) + 32) (((1 - ar) * 256 + pg) * 64 + 32) 32) (upd (upd hs (((1 - ar) * 256 + pg) * 2) (nb + 1)) (((1 - ar) * 256 + pg) * 2 + 1) (nb + 1)) (upd lo ((1 - ar) * 256 + pg) 0) lg rt (nb + 1) (nI fi) (nI fo) (nI en) 1 (dcu (dcu cu)) (ma + 1 + 1) ++ (wM g0 b0 b1 b2 b3 b4 b5 cI cZ 0 bf (va_cpy (va_cpy pw pw ((ar * 256 + pg) * 64) (((1 - ar) * 256 + pg) * 64) 32) (va_cpy pw pw ((ar * 256 + pg) * 64) (((1 - ar) * 256 + pg) * 64) 32) (((ar * 256 + pg) * 64) + 32) (((1 - ar) * 256 + pg) * 64 + 32) 32) (upd (upd hs (((1 - ar) * 256 + pg) * 2) (nb + 1)) (((1 - ar) * 256 + pg) * 2 + 1) (nb + 1)) (upd lo ((1 - ar) * 256 + pg) 0) lg rt (nb + 1) (nI fi) (nI fo) (nI en) 0 (dcu (dcu cu)) (ma + 1 + 1) ++ wO oj cJ (vp_updL og 0 (Int32.toInt64 (nb + 1))))) H := hP.sub [0, 1, 2, 3, 4, 5, 6, 8, 9, 10, 11, 12, 13, 14, 7] rfl
            have hD : va_D A (wC h0 a0 a1 a2 a3 a4 a5 cI cZ bf (va_cpy (va_cpy pw pw ((ar * 256 + pg) * 64) (((1 - ar) * 256 + pg) * 64) 32) (va_cpy pw pw ((ar * 256 + pg) * 64) (((1 - ar) * 256 + pg) * 64) 32) (((ar * 256 + pg) * 64) + 32) (((1 - ar) * 256 + pg) * 64 + 32) 32) (upd (upd hs (((1 - ar) * 256 + pg) * 2) (nb + 1)) (((1 - ar) * 256 + pg) * 2 + 1) (nb + 1)) (upd lo ((1 - ar) * 256 + pg) 0) lg rt (nb + 1) (nI fi) (nI fo) (nI en) 1 (dcu (dcu cu)) (ma + 1 + 1) ++ (wM g0 b0 b1 b2 b3 b4 b5 cI cZ 0 bf (va_cpy (va_cpy pw pw ((ar * 256 + pg) * 64) (((1 - ar) * 256 + pg) * 64) 32) (va_cpy pw pw ((ar * 256 + pg) * 64) (((1 - ar) * 256 + pg) * 64) 32) (((ar * 256 + pg) * 64) + 32) (((1 - ar) * 256 + pg) * 64 + 32) 32) (upd (upd hs (((1 - ar) * 256 + pg) * 2) (nb + 1)) (((1 - ar) * 256 + pg) * 2 + 1) (nb + 1)) (upd lo ((1 - ar) * 256 + pg) 0) lg rt (nb + 1) (nI fi) (nI fo) (nI en) 0 (dcu (dcu cu)) (ma + 1 + 1) ++ wO oj cJ (vp_updL og 0 (Int32.toInt64 (nb + 1))))) := hD.sub [0, 1, 2, 3, 4, 5, 6, 8, 9, 10, 11, 12, 13, 14, 7] (by decide) rfl
            refine lv_iload hx hb dL_law_482 (lv_at hl 1 rfl) ?_
            refine lv_icmp_eq (tgt := 489) hx hb dL_law_484 (by decide) (fun c_484 => ?_) (fun c_484 => absurd (by decide) c_484)
            refine lv_iload hx hb dL_law_489 (lv_at hl 1 rfl) ?_
            refine lv_if_ne (tgt := 506) hx hb dL_law_491 (by decide) (fun c_491 => absurd (by decide) c_491) (fun c_491 => ?_)
            refine lv_aload_n hx hb dL_law_494 rfl (lv_at hl 5 rfl) ?_
            refine lv_iconst (v := (nI 0)) hx hb dL_law_495 (by decide) ?_
            refine n_lald hx hb hK hP 14 2 rfl rfl 0 (by omega) (by omega) dL_law_496 ?_
            refine lv_iload hx hb dL_law_497 (lv_at hl 0 rfl) ?_
            refine lv_i2l (v := Int32.toInt64 (nb + 1)) hx hb dL_law_499 rfl ?_
            refine W.lcmp hx hb dL_law_500 ?_
            refine lv_if_eq (tgt := 506) hx hb dL_law_501 (by decide) (fun c_501 => ?_) (fun c_501 => absurd (by rw [pk_uLs]; exact lg_self _) c_501)
            refine lv_goto (tgt := 1176) hx hb dL_law_506 (by decide) ?_
            refine W.widen (k := 15 + (j9 + 1)) (n := 199844 + 6 * (j9 + 1)) (by omega) (by omega) ?_
            refine lv_iinc (v := nI (4 * (j9 + 1))) (lv' := [(4, .int (nI (4 * (j9 + 1)))), (6, .int (nb + 1)), (5, .int 0), (0, .ref b), (1, .ref h0), (2, .ref g0), (3, .ref oj)]) hx hb dL_law_1176 hl (k := 6) rfl (nI_add (4 * j9) 4) (by decide) rfl (fun ls hl => ?_)
            refine lv_goto (tgt := 23) hx hb dL_law_1179 (by decide) ?_
            exact IH bf (va_cpy (va_cpy pw pw ((ar * 256 + pg) * 64) (((1 - ar) * 256 + pg) * 64) 32) (va_cpy pw pw ((ar * 256 + pg) * 64) (((1 - ar) * 256 + pg) * 64) 32) (((ar * 256 + pg) * 64) + 32) (((1 - ar) * 256 + pg) * 64 + 32) 32) (upd (upd hs (((1 - ar) * 256 + pg) * 2) (nb + 1)) (((1 - ar) * 256 + pg) * 2 + 1) (nb + 1)) (upd lo ((1 - ar) * 256 + pg) 0) lg rt (nb + 1) fi fo en 1 0 (dcu (dcu cu)) (ma + 1 + 1) 0 (vp_updL og 0 (Int32.toInt64 (nb + 1))) _ _ _ (Or.inr ⟨rfl, rfl⟩) (by omega) (by omega) (by omega) (dcu_ge hd (dcu_ge h hcu)) hP hD hS (lv_sub hl [3, 4, 5, 6, 0] rfl)
      · have hP : va_P D vwCl (wC h0 a0 a1 a2 a3 a4 a5 cI cZ bf pw hs lo lg rt nb (nI fi) (nI fo) (nI en) 1 cu ma ++ (wM g0 b0 b1 b2 b3 b4 b5 cI cZ th bf pw hs lo lg rt nb (nI fi) (nI fo) (nI en) 0 cu ma ++ wO oj cJ og)) H := hP
        have hD : va_D A (wC h0 a0 a1 a2 a3 a4 a5 cI cZ bf pw hs lo lg rt nb (nI fi) (nI fo) (nI en) 1 cu ma ++ (wM g0 b0 b1 b2 b3 b4 b5 cI cZ th bf pw hs lo lg rt nb (nI fi) (nI fo) (nI en) 0 cu ma ++ wO oj cJ og)) := hD
        refine lv_aload_n hx hb dL_law_441 rfl (lv_at hl 1 rfl) ?_
        refine lv_aload_n hx hb dL_law_442 rfl (lv_at hl 0 rfl) ?_
        refine lv_iload hx hb dL_law_443 (lv_at hl 4 rfl) ?_
        refine lv_iconst (v := (nI 1)) hx hb dL_law_445 (by decide) ?_
        refine n_iadd hx hb dL_law_446 ?_
        refine n_sld hx hb hX hbl hbA hS (4 * j9 + 1) (by omega) (by omega) ((nI ar)) ex dL_law_447 ?_
        refine lv_aload_n hx hb dL_law_448 rfl (lv_at hl 0 rfl) ?_
        refine lv_iload hx hb dL_law_449 (lv_at hl 4 rfl) ?_
        refine lv_iconst (v := (nI 2)) hx hb dL_law_451 (by decide) ?_
        refine n_iadd hx hb dL_law_452 ?_
        refine n_sld hx hb hX hbl hbA hS (4 * j9 + 2) (by omega) (by omega) ((nI pg)) ey dL_law_453 ?_
        refine lv_aload_n hx hb dL_law_454 rfl (lv_at hl 3 rfl) ?_
        refine k_I (wr := wM g0 b0 b1 b2 b3 b4 b5 cI cZ th bf pw hs lo lg rt nb (nI fi) (nI fo) (nI en) 0 cu ma) hP hD hS hA (vx_runSW (As := [.ref h0, .int (nI ar), .int (nI pg), .ref oj]) (rest := []) ⟨hx, hb, hml, hown, hts⟩ (tL_copy_xt hl0 bf pw hs lo lg rt nb fi fo en cu ma ar pg h1 h2 hw oj og _) (vx_cwSW 4 hts gL_law_L_copy rfl rfl rfl (by decide +kernel) ⟨Nat.le_of_ble_eq_true rfl, Nat.le_of_ble_eq_true rfl⟩) (pS_X hP hD hK hS hA hT [0, 1, 2] rfl [0, 1, 2, 3, 4, 5, 6, 14] rfl rfl) rfl rfl hl.1 rfl (lv_room (Nat.le_of_ble_eq_true rfl)) dL_law_455 hc1) [0, 1, 2, 3, 4, 5, 6, 14] [7, 8, 9, 10, 11, 12, 13] rfl rfl rfl (by decide) (fun H locs hP hD hS => ?_)
        have hP : va_P D vwCl (wC h0 a0 a1 a2 a3 a4 a5 cI cZ bf pw hs lo lg rt nb (nI fi) (nI fo) (nI en) 1 cu ma ++ (wM g0 b0 b1 b2 b3 b4 b5 cI cZ th bf pw hs lo lg rt nb (nI fi) (nI fo) (nI en) 0 cu ma ++ wO oj cJ og)) H := hP.sub [7, 8, 9, 10, 11, 12, 13, 0, 1, 2, 3, 4, 5, 6, 14] rfl
        have hD : va_D A (wC h0 a0 a1 a2 a3 a4 a5 cI cZ bf pw hs lo lg rt nb (nI fi) (nI fo) (nI en) 1 cu ma ++ (wM g0 b0 b1 b2 b3 b4 b5 cI cZ th bf pw hs lo lg rt nb (nI fi) (nI fo) (nI en) 0 cu ma ++ wO oj cJ og)) := hD.sub [7, 8, 9, 10, 11, 12, 13, 0, 1, 2, 3, 4, 5, 6, 14] (by decide) rfl
        refine lv_istore (lv' := [(5, .int 1), (0, .ref b), (1, .ref h0), (2, .ref g0), (3, .ref oj), (4, .int (nI (4 * j9)))]) hx hb dL_law_458 hl (by decide) rfl (fun ls hl => ?_)
        refine lv_aload_n hx hb dL_law_460 rfl (lv_at hl 3 rfl) ?_
        refine lv_aload_n hx hb dL_law_461 rfl (lv_at hl 1 rfl) ?_
        refine lv_iload hx hb dL_law_462 (lv_at hl 5 rfl) ?_
        refine lv_iconst (v := (nI 1)) hx hb dL_law_464 (by decide) ?_
        refine n_iadd hx hb dL_law_465 ?_
        refine n_sld hx hb hX hbl hbA hS (4 * j9 + 1) (by omega) (by omega) ((nI ar)) ex dL_law_466 ?_
        refine lv_aload_n hx hb dL_law_467 rfl (lv_at hl 1 rfl) ?_
        refine lv_iload hx hb dL_law_468 (lv_at hl 5 rfl) ?_
        refine lv_iconst (v := (nI 2)) hx hb dL_law_470 (by decide) ?_
        refine n_iadd hx hb dL_law_471 ?_
        refine n_sld hx hb hX hbl hbA hS (4 * j9 + 2) (by omega) (by omega) ((nI pg)) ey dL_law_472 ?_
        refine k_I (wr := wC h0 a0 a1 a2 a3 a4 a5 cI cZ bf pw hs lo lg rt nb (nI fi) (nI fo) (nI en) 1 cu ma ++ wO oj cJ og) hP hD hS hA (va_runV (As := [.int (nI ar), .int (nI pg)]) (rest := []) ⟨hx, hb, hml, hown, hts⟩ (tX1_copy_xt th bf pw hs lo lg rt nb fi fo en cu ma ar pg h1 h2 hw _) (cwV 2 hts gL_law_X1_copy rfl rfl rfl (by decide +kernel) ⟨Nat.le_of_ble_eq_true rfl, Nat.le_of_ble_eq_true rfl⟩) (pV_B hP hD hK (ci := 1) (q0 := 7) rfl rfl rfl [0, 1] rfl [7, 8, 9, 10, 11, 12, 13] rfl rfl) rfl rfl hl.1 rfl (lv_room (Nat.le_of_ble_eq_true rfl)) dL_law_473 hc9) [7, 8, 9, 10, 11, 12, 13] [0, 1, 2, 3, 4, 5, 6, 14] rfl rfl rfl (by decide) (fun H locs hP hD hS => ?_)
        have hP : va_P D vwCl (wC h0 a0 a1 a2 a3 a4 a5 cI cZ bf pw hs lo lg rt nb (nI fi) (nI fo) (nI en) 1 cu ma ++ (wM g0 b0 b1 b2 b3 b4 b5 cI cZ 1 bf pw hs lo lg rt nb (nI fi) (nI fo) (nI en) 0 cu ma ++ wO oj cJ og)) H := hP.sub [0, 1, 2, 3, 4, 5, 6, 8, 9, 10, 11, 12, 13, 14, 7] rfl
        have hD : va_D A (wC h0 a0 a1 a2 a3 a4 a5 cI cZ bf pw hs lo lg rt nb (nI fi) (nI fo) (nI en) 1 cu ma ++ (wM g0 b0 b1 b2 b3 b4 b5 cI cZ 1 bf pw hs lo lg rt nb (nI fi) (nI fo) (nI en) 0 cu ma ++ wO oj cJ og)) := hD.sub [0, 1, 2, 3, 4, 5, 6, 8, 9, 10, 11, 12, 13, 14, 7] (by decide) rfl
        refine lv_istore (lv' := [(6, .int 0), (5, .int 1), (0, .ref b), (1, .ref h0), (2, .ref g0), (3, .ref oj), (4, .int (nI (4 * j9)))]) hx hb dL_law_476 hl (by decide) rfl (fun ls hl => ?_)
        refine lv_aload_n hx hb dL_law_478 rfl (lv_at hl 4 rfl) ?_
        refine k_I (wr := wC h0 a0 a1 a2 a3 a4 a5 cI cZ bf pw hs lo lg rt nb (nI fi) (nI fo) (nI en) 1 cu ma ++ wO oj cJ og) hP hD hS hA (va_runV (As := []) (rest := []) ⟨hx, hb, hml, hown, hts⟩ (tX1_thrown 1 bf pw hs lo lg rt nb fi fo en 0 cu ma _) (cwV 0 hts gL_law_X1_thrown rfl rfl rfl (by decide +kernel) ⟨Nat.le_of_ble_eq_true rfl, Nat.le_of_ble_eq_true rfl⟩) (pV_B hP hD hK (ci := 1) (q0 := 7) rfl rfl rfl [0, 1] rfl [7, 8, 9, 10, 11, 12, 13] rfl rfl) rfl rfl hl.1 rfl (lv_room (Nat.le_of_ble_eq_true rfl)) dL_law_479 hc9) [7, 8, 9, 10, 11, 12, 13] [0, 1, 2, 3, 4, 5, 6, 14] rfl rfl rfl (by decide) (fun H locs hP hD hS => ?_)
        have hP : va_P D vwCl (wC h0 a0 a1 a2 a3 a4 a5 cI cZ bf pw hs lo lg rt nb (nI fi) (nI fo) (nI en) 1 cu ma ++ (wM g0 b0 b1 b2 b3 b4 b5 cI cZ 1 bf pw hs lo lg rt nb (nI fi) (nI fo) (nI en) 0 cu ma ++ wO oj cJ og)) H := hP.sub [0, 1, 2, 3, 4, 5, 6, 8, 9, 10, 11, 12, 13, 14, 7] rfl
        have hD : va_D A (wC h0 a0 a1 a2 a3 a4 a5 cI cZ bf pw hs lo lg rt nb (nI fi) (nI fo) (nI en) 1 cu ma ++ (wM g0 b0 b1 b2 b3 b4 b5 cI cZ 1 bf pw hs lo lg rt nb (nI fi) (nI fo) (nI en) 0 cu ma ++ wO oj cJ og)) := hD.sub [0, 1, 2, 3, 4, 5, 6, 8, 9, 10, 11, 12, 13, 14, 7] (by decide) rfl
        refine lv_iload hx hb dL_law_482 (lv_at hl 1 rfl) ?_
        refine lv_icmp_eq (tgt := 489) hx hb dL_law_484 (by decide) (fun c_484 => ?_) (fun c_484 => absurd (by decide) c_484)
        refine lv_iload hx hb dL_law_489 (lv_at hl 1 rfl) ?_
        refine lv_if_ne (tgt := 506) hx hb dL_law_491 (by decide) (fun c_491 => ?_) (fun c_491 => absurd c_491 (by decide))
        refine lv_goto (tgt := 1176) hx hb dL_law_506 (by decide) ?_
        refine W.widen (k := 15 + (j9 + 1)) (n := 199844 + 6 * (j9 + 1)) (by omega) (by omega) ?_
        refine lv_iinc (v := nI (4 * (j9 + 1))) (lv' := [(4, .int (nI (4 * (j9 + 1)))), (6, .int 0), (5, .int 1), (0, .ref b), (1, .ref h0), (2, .ref g0), (3, .ref oj)]) hx hb dL_law_1176 hl (k := 6) rfl (nI_add (4 * j9) 4) (by decide) rfl (fun ls hl => ?_)
        refine lv_goto (tgt := 23) hx hb dL_law_1179 (by decide) ?_
        exact IH bf pw hs lo lg rt nb fi fo en 1 0 cu ma 1 og _ _ _ (Or.inr ⟨rfl, rfl⟩) (by omega) (by omega) (by omega) hcu hP hD hS (lv_sub hl [3, 4, 5, 6, 0] rfl)
set_option maxHeartbeats 4000000 in
set_option maxRecDepth 100000 in
theorem lo_append {p : Program} {l : Launch} {e : Env} {s : State} {m : MethodId} {below : List Frame} {meth : Method} {c : Code} {Q : State → Prop} {D : va_G} {A : Nat → Prop} {cI cZ cJ : ClassId} {b L : Nat} {xs : Nat → Int32} {h0 a0 a1 a2 a3 a4 a5 g0 b0 b1 b2 b3 b4 b5 oj : Nat} (hl0 : l.stackTraces = false) (hx : p.tables.exec = Jvm.exec) (hb : c.code = code) (hml : c.maxLocals = 7) (hown : s.vm.findClass RL = some m.cls) (hts : ∀ w ∈ wsL_law, w.before #[Value.ref b] s = true) (hX : va_X b L xs s s.heap) (hbl : b < s.heap.size) (hbA : ¬ A b) (hA : ∀ q : Nat, s.heap.size ≤ q → A q) (hK : va_K D vwCl (tyL cI cZ cJ) s) (hT : xT A s s.heap) (hL : L ≤ 2048) (j9 : Nat) (hj : 4 * j9 + 4 ≤ L)
    (IH : lgW p l e s m below meth c Q D A cI cZ cJ b h0 a0 a1 a2 a3 a4 a5 g0 b0 b1 b2 b3 b4 b5 oj (j9 + 1))
    (bf pw hs lo lg rt : Nat → Int32) (nb : Int32) (fi fo en : Nat) (on off cu ma th : Int32) (og : Nat → Int64) (H : Heap) (locs : List Loc) (ls : Array Slot) (hpo : (on = 0 ∧ off = 1) ∨ (on = 1 ∧ off = 0)) (hi1 : fi ≤ fo) (hi2 : fo ≤ en) (hi3 : en ≤ 64 * j9) (hcu : -1 ≤ cu)
    (hP : va_P D vwCl (wA h0 a0 a1 a2 a3 a4 a5 g0 b0 b1 b2 b3 b4 b5 oj cI cZ cJ bf pw hs lo lg rt nb fi fo en on off cu ma th og) H) (hD : va_D A (wA h0 a0 a1 a2 a3 a4 a5 g0 b0 b1 b2 b3 b4 b5 oj cI cZ cJ bf pw hs lo lg rt nb fi fo en on off cu ma th og)) (hS : va_S A s.heap H locs) (hl : lv_has ls 7 [(0, .ref b), (1, .ref h0), (2, .ref g0), (3, .ref oj), (4, .int (nI (4 * j9)))]) :
    W p l e room_1 s m #[Value.ref b] below meth c H locs (15 + j9) (199844 + 6 * j9) Q (F0 m 509 ls []) := by
  have he : en ≤ 60000 := by omega
  have hc0 : 15 + j9 + 0 ≤ room_1.cells ∧ 199844 + 6 * j9 + 0 ≤ room_1.slots := ⟨show 15 + j9 + 0 ≤ 601024 by omega, show 199844 + 6 * j9 + 0 ≤ 7293034 by omega⟩
  have hc1 : 15 + j9 + 1 ≤ room_1.cells ∧ 199844 + 6 * j9 + 6 ≤ room_1.slots := ⟨show 15 + j9 + 1 ≤ 601024 by omega, show 199844 + 6 * j9 + 6 ≤ 7293034 by omega⟩
  have hc9 : 15 + j9 + 1 + 0 ≤ room_1.cells ∧ 199844 + 6 * j9 + 6 + 0 ≤ room_1.slots := hc1
  obtain ⟨x, ex⟩ : ∃ z9, xs (4 * j9 + 1) = z9 := ⟨_, rfl⟩
  rcases hpo with ⟨rfl, rfl⟩ | ⟨rfl, rfl⟩
  · have hP : va_P D vwCl (wC h0 a0 a1 a2 a3 a4 a5 cI cZ bf pw hs lo lg rt nb (nI fi) (nI fo) (nI en) 0 cu ma ++ (wM g0 b0 b1 b2 b3 b4 b5 cI cZ th bf pw hs lo lg rt nb (nI fi) (nI fo) (nI en) 1 cu ma ++ wO oj cJ og)) H := hP
    have hD : va_D A (wC h0 a0 a1 a2 a3 a4 a5 cI cZ bf pw hs lo lg rt nb (nI fi) (nI fo) (nI en) 0 cu ma ++ (wM g0 b0 b1 b2 b3 b4 b5 cI cZ th bf pw hs lo lg rt nb (nI fi) (nI fo) (nI en) 1 cu ma ++ wO oj cJ og)) := hD
    refine lv_aload_n hx hb dL_law_509 rfl (lv_at hl 1 rfl) ?_
    refine lv_aload_n hx hb dL_law_510 rfl (lv_at hl 0 rfl) ?_
    refine lv_iload hx hb dL_law_511 (lv_at hl 4 rfl) ?_
    refine lv_iconst (v := (nI 1)) hx hb dL_law_513 (by decide) ?_
    refine n_iadd hx hb dL_law_514 ?_
    refine n_sld hx hb hX hbl hbA hS (4 * j9 + 1) (by omega) (by omega) (x) ex dL_law_515 ?_
    refine lv_aload_n hx hb dL_law_516 rfl (lv_at hl 3 rfl) ?_
    refine k_I (wr := wM g0 b0 b1 b2 b3 b4 b5 cI cZ th bf pw hs lo lg rt nb (nI fi) (nI fo) (nI en) 1 cu ma) hP hD hS hA (vx_runSW (As := [.ref h0, .int x, .ref oj]) (rest := []) ⟨hx, hb, hml, hown, hts⟩ (tL_append_x0 hl0 bf pw hs lo lg rt nb fi fo en cu ma x oj og _) (vx_cwSW 3 hts gL_law_L_append rfl rfl rfl (by decide +kernel) ⟨Nat.le_of_ble_eq_true rfl, Nat.le_of_ble_eq_true rfl⟩) (pS_X hP hD hK hS hA hT [0, 1, 2] rfl [0, 1, 2, 3, 4, 5, 6, 14] rfl rfl) rfl rfl hl.1 rfl (lv_room (Nat.le_of_ble_eq_true rfl)) dL_law_517 hc1) [0, 1, 2, 3, 4, 5, 6, 14] [7, 8, 9, 10, 11, 12, 13] rfl rfl rfl (by decide) (fun H locs hP hD hS => ?_)
    have hP : va_P D vwCl (wC h0 a0 a1 a2 a3 a4 a5 cI cZ bf pw hs lo lg rt nb (nI fi) (nI fo) (nI en) 0 cu ma ++ (wM g0 b0 b1 b2 b3 b4 b5 cI cZ th bf pw hs lo lg rt nb (nI fi) (nI fo) (nI en) 1 cu ma ++ wO oj cJ og)) H := hP.sub [7, 8, 9, 10, 11, 12, 13, 0, 1, 2, 3, 4, 5, 6, 14] rfl
    have hD : va_D A (wC h0 a0 a1 a2 a3 a4 a5 cI cZ bf pw hs lo lg rt nb (nI fi) (nI fo) (nI en) 0 cu ma ++ (wM g0 b0 b1 b2 b3 b4 b5 cI cZ th bf pw hs lo lg rt nb (nI fi) (nI fo) (nI en) 1 cu ma ++ wO oj cJ og)) := hD.sub [7, 8, 9, 10, 11, 12, 13, 0, 1, 2, 3, 4, 5, 6, 14] (by decide) rfl
    refine lv_istore (lv' := [(5, .int 1), (0, .ref b), (1, .ref h0), (2, .ref g0), (3, .ref oj), (4, .int (nI (4 * j9)))]) hx hb dL_law_520 hl (by decide) rfl (fun ls hl => ?_)
    refine lv_aload_n hx hb dL_law_522 rfl (lv_at hl 3 rfl) ?_
    refine lv_aload_n hx hb dL_law_523 rfl (lv_at hl 1 rfl) ?_
    refine lv_iload hx hb dL_law_524 (lv_at hl 5 rfl) ?_
    refine lv_iconst (v := (nI 1)) hx hb dL_law_526 (by decide) ?_
    refine n_iadd hx hb dL_law_527 ?_
    refine n_sld hx hb hX hbl hbA hS (4 * j9 + 1) (by omega) (by omega) (x) ex dL_law_528 ?_
    refine k_I (wr := wC h0 a0 a1 a2 a3 a4 a5 cI cZ bf pw hs lo lg rt nb (nI fi) (nI fo) (nI en) 0 cu ma ++ wO oj cJ og) hP hD hS hA (va_runV (As := [.int x]) (rest := []) ⟨hx, hb, hml, hown, hts⟩ (tX1_append_x0 th bf pw hs lo lg rt nb fi fo en cu ma x _) (cwV 1 hts gL_law_X1_append rfl rfl rfl (by decide +kernel) ⟨Nat.le_of_ble_eq_true rfl, Nat.le_of_ble_eq_true rfl⟩) (pV_B hP hD hK (ci := 1) (q0 := 7) rfl rfl rfl [0, 1] rfl [7, 8, 9, 10, 11, 12, 13] rfl rfl) rfl rfl hl.1 rfl (lv_room (Nat.le_of_ble_eq_true rfl)) dL_law_529 hc9) [7, 8, 9, 10, 11, 12, 13] [0, 1, 2, 3, 4, 5, 6, 14] rfl rfl rfl (by decide) (fun H locs hP hD hS => ?_)
    have hP : va_P D vwCl (wC h0 a0 a1 a2 a3 a4 a5 cI cZ bf pw hs lo lg rt nb (nI fi) (nI fo) (nI en) 0 cu ma ++ (wM g0 b0 b1 b2 b3 b4 b5 cI cZ 1 bf pw hs lo lg rt nb (nI fi) (nI fo) (nI en) 1 cu ma ++ wO oj cJ og)) H := hP.sub [0, 1, 2, 3, 4, 5, 6, 8, 9, 10, 11, 12, 13, 14, 7] rfl
    have hD : va_D A (wC h0 a0 a1 a2 a3 a4 a5 cI cZ bf pw hs lo lg rt nb (nI fi) (nI fo) (nI en) 0 cu ma ++ (wM g0 b0 b1 b2 b3 b4 b5 cI cZ 1 bf pw hs lo lg rt nb (nI fi) (nI fo) (nI en) 1 cu ma ++ wO oj cJ og)) := hD.sub [0, 1, 2, 3, 4, 5, 6, 8, 9, 10, 11, 12, 13, 14, 7] (by decide) rfl
    refine lv_istore (lv' := [(6, .int 0), (5, .int 1), (0, .ref b), (1, .ref h0), (2, .ref g0), (3, .ref oj), (4, .int (nI (4 * j9)))]) hx hb dL_law_532 hl (by decide) rfl (fun ls hl => ?_)
    refine lv_aload_n hx hb dL_law_534 rfl (lv_at hl 4 rfl) ?_
    refine k_I (wr := wC h0 a0 a1 a2 a3 a4 a5 cI cZ bf pw hs lo lg rt nb (nI fi) (nI fo) (nI en) 0 cu ma ++ wO oj cJ og) hP hD hS hA (va_runV (As := []) (rest := []) ⟨hx, hb, hml, hown, hts⟩ (tX1_thrown 1 bf pw hs lo lg rt nb fi fo en 1 cu ma _) (cwV 0 hts gL_law_X1_thrown rfl rfl rfl (by decide +kernel) ⟨Nat.le_of_ble_eq_true rfl, Nat.le_of_ble_eq_true rfl⟩) (pV_B hP hD hK (ci := 1) (q0 := 7) rfl rfl rfl [0, 1] rfl [7, 8, 9, 10, 11, 12, 13] rfl rfl) rfl rfl hl.1 rfl (lv_room (Nat.le_of_ble_eq_true rfl)) dL_law_535 hc9) [7, 8, 9, 10, 11, 12, 13] [0, 1, 2, 3, 4, 5, 6, 14] rfl rfl rfl (by decide) (fun H locs hP hD hS => ?_)
    have hP : va_P D vwCl (wC h0 a0 a1 a2 a3 a4 a5 cI cZ bf pw hs lo lg rt nb (nI fi) (nI fo) (nI en) 0 cu ma ++ (wM g0 b0 b1 b2 b3 b4 b5 cI cZ 1 bf pw hs lo lg rt nb (nI fi) (nI fo) (nI en) 1 cu ma ++ wO oj cJ og)) H := hP.sub [0, 1, 2, 3, 4, 5, 6, 8, 9, 10, 11, 12, 13, 14, 7] rfl
    have hD : va_D A (wC h0 a0 a1 a2 a3 a4 a5 cI cZ bf pw hs lo lg rt nb (nI fi) (nI fo) (nI en) 0 cu ma ++ (wM g0 b0 b1 b2 b3 b4 b5 cI cZ 1 bf pw hs lo lg rt nb (nI fi) (nI fo) (nI en) 1 cu ma ++ wO oj cJ og)) := hD.sub [0, 1, 2, 3, 4, 5, 6, 8, 9, 10, 11, 12, 13, 14, 7] (by decide) rfl
    refine lv_iload hx hb dL_law_538 (lv_at hl 1 rfl) ?_
    refine lv_icmp_eq (tgt := 545) hx hb dL_law_540 (by decide) (fun c_540 => ?_) (fun c_540 => absurd (by decide) c_540)
    refine lv_iload hx hb dL_law_545 (lv_at hl 1 rfl) ?_
    refine lv_if_ne (tgt := 562) hx hb dL_law_547 (by decide) (fun c_547 => ?_) (fun c_547 => absurd c_547 (by decide))
    refine lv_goto (tgt := 1176) hx hb dL_law_562 (by decide) ?_
    refine W.widen (k := 15 + (j9 + 1)) (n := 199844 + 6 * (j9 + 1)) (by omega) (by omega) ?_
    refine lv_iinc (v := nI (4 * (j9 + 1))) (lv' := [(4, .int (nI (4 * (j9 + 1)))), (6, .int 0), (5, .int 1), (0, .ref b), (1, .ref h0), (2, .ref g0), (3, .ref oj)]) hx hb dL_law_1176 hl (k := 6) rfl (nI_add (4 * j9) 4) (by decide) rfl (fun ls hl => ?_)
    refine lv_goto (tgt := 23) hx hb dL_law_1179 (by decide) ?_
    exact IH bf pw hs lo lg rt nb fi fo en 0 1 cu ma 1 og _ _ _ (Or.inl ⟨rfl, rfl⟩) (by omega) (by omega) (by omega) hcu hP hD hS (lv_sub hl [3, 4, 5, 6, 0] rfl)
  · rcases rg_cases x 1 64 (by omega) (by omega) with h | ⟨k, hk, hk2, rfl⟩
    · have hP : va_P D vwCl (wC h0 a0 a1 a2 a3 a4 a5 cI cZ bf pw hs lo lg rt nb (nI fi) (nI fo) (nI en) 1 cu ma ++ (wM g0 b0 b1 b2 b3 b4 b5 cI cZ th bf pw hs lo lg rt nb (nI fi) (nI fo) (nI en) 0 cu ma ++ wO oj cJ og)) H := hP
      have hD : va_D A (wC h0 a0 a1 a2 a3 a4 a5 cI cZ bf pw hs lo lg rt nb (nI fi) (nI fo) (nI en) 1 cu ma ++ (wM g0 b0 b1 b2 b3 b4 b5 cI cZ th bf pw hs lo lg rt nb (nI fi) (nI fo) (nI en) 0 cu ma ++ wO oj cJ og)) := hD
      refine lv_aload_n hx hb dL_law_509 rfl (lv_at hl 1 rfl) ?_
      refine lv_aload_n hx hb dL_law_510 rfl (lv_at hl 0 rfl) ?_
      refine lv_iload hx hb dL_law_511 (lv_at hl 4 rfl) ?_
      refine lv_iconst (v := (nI 1)) hx hb dL_law_513 (by decide) ?_
      refine n_iadd hx hb dL_law_514 ?_
      refine n_sld hx hb hX hbl hbA hS (4 * j9 + 1) (by omega) (by omega) (x) ex dL_law_515 ?_
      refine lv_aload_n hx hb dL_law_516 rfl (lv_at hl 3 rfl) ?_
      refine k_I (wr := wM g0 b0 b1 b2 b3 b4 b5 cI cZ th bf pw hs lo lg rt nb (nI fi) (nI fo) (nI en) 0 cu ma) hP hD hS hA (vx_runSW (As := [.ref h0, .int x, .ref oj]) (rest := []) ⟨hx, hb, hml, hown, hts⟩ (tL_append_xb hl0 bf pw hs lo lg rt nb fi fo en cu ma x h oj og _) (vx_cwSW 3 hts gL_law_L_append rfl rfl rfl (by decide +kernel) ⟨Nat.le_of_ble_eq_true rfl, Nat.le_of_ble_eq_true rfl⟩) (pS_X hP hD hK hS hA hT [0, 1, 2] rfl [0, 1, 2, 3, 4, 5, 6, 14] rfl rfl) rfl rfl hl.1 rfl (lv_room (Nat.le_of_ble_eq_true rfl)) dL_law_517 hc1) [0, 1, 2, 3, 4, 5, 6, 14] [7, 8, 9, 10, 11, 12, 13] rfl rfl rfl (by decide) (fun H locs hP hD hS => ?_)
      have hP : va_P D vwCl (wC h0 a0 a1 a2 a3 a4 a5 cI cZ bf pw hs lo lg rt nb (nI fi) (nI fo) (nI en) 1 cu ma ++ (wM g0 b0 b1 b2 b3 b4 b5 cI cZ th bf pw hs lo lg rt nb (nI fi) (nI fo) (nI en) 0 cu ma ++ wO oj cJ og)) H := hP.sub [7, 8, 9, 10, 11, 12, 13, 0, 1, 2, 3, 4, 5, 6, 14] rfl
      have hD : va_D A (wC h0 a0 a1 a2 a3 a4 a5 cI cZ bf pw hs lo lg rt nb (nI fi) (nI fo) (nI en) 1 cu ma ++ (wM g0 b0 b1 b2 b3 b4 b5 cI cZ th bf pw hs lo lg rt nb (nI fi) (nI fo) (nI en) 0 cu ma ++ wO oj cJ og)) := hD.sub [7, 8, 9, 10, 11, 12, 13, 0, 1, 2, 3, 4, 5, 6, 14] (by decide) rfl
      refine lv_istore (lv' := [(5, .int 2), (0, .ref b), (1, .ref h0), (2, .ref g0), (3, .ref oj), (4, .int (nI (4 * j9)))]) hx hb dL_law_520 hl (by decide) rfl (fun ls hl => ?_)
      refine lv_aload_n hx hb dL_law_522 rfl (lv_at hl 3 rfl) ?_
      refine lv_aload_n hx hb dL_law_523 rfl (lv_at hl 1 rfl) ?_
      refine lv_iload hx hb dL_law_524 (lv_at hl 5 rfl) ?_
      refine lv_iconst (v := (nI 1)) hx hb dL_law_526 (by decide) ?_
      refine n_iadd hx hb dL_law_527 ?_
      refine n_sld hx hb hX hbl hbA hS (4 * j9 + 1) (by omega) (by omega) (x) ex dL_law_528 ?_
      refine k_I (wr := wC h0 a0 a1 a2 a3 a4 a5 cI cZ bf pw hs lo lg rt nb (nI fi) (nI fo) (nI en) 1 cu ma ++ wO oj cJ og) hP hD hS hA (va_runV (As := [.int x]) (rest := []) ⟨hx, hb, hml, hown, hts⟩ (tX1_append_xb th bf pw hs lo lg rt nb fi fo en cu ma x h _) (cwV 1 hts gL_law_X1_append rfl rfl rfl (by decide +kernel) ⟨Nat.le_of_ble_eq_true rfl, Nat.le_of_ble_eq_true rfl⟩) (pV_B hP hD hK (ci := 1) (q0 := 7) rfl rfl rfl [0, 1] rfl [7, 8, 9, 10, 11, 12, 13] rfl rfl) rfl rfl hl.1 rfl (lv_room (Nat.le_of_ble_eq_true rfl)) dL_law_529 hc9) [7, 8, 9, 10, 11, 12, 13] [0, 1, 2, 3, 4, 5, 6, 14] rfl rfl rfl (by decide) (fun H locs hP hD hS => ?_)
      have hP : va_P D vwCl (wC h0 a0 a1 a2 a3 a4 a5 cI cZ bf pw hs lo lg rt nb (nI fi) (nI fo) (nI en) 1 cu ma ++ (wM g0 b0 b1 b2 b3 b4 b5 cI cZ 2 bf pw hs lo lg rt nb (nI fi) (nI fo) (nI en) 0 cu ma ++ wO oj cJ og)) H := hP.sub [0, 1, 2, 3, 4, 5, 6, 8, 9, 10, 11, 12, 13, 14, 7] rfl
      have hD : va_D A (wC h0 a0 a1 a2 a3 a4 a5 cI cZ bf pw hs lo lg rt nb (nI fi) (nI fo) (nI en) 1 cu ma ++ (wM g0 b0 b1 b2 b3 b4 b5 cI cZ 2 bf pw hs lo lg rt nb (nI fi) (nI fo) (nI en) 0 cu ma ++ wO oj cJ og)) := hD.sub [0, 1, 2, 3, 4, 5, 6, 8, 9, 10, 11, 12, 13, 14, 7] (by decide) rfl
      refine lv_istore (lv' := [(6, .int 0), (5, .int 2), (0, .ref b), (1, .ref h0), (2, .ref g0), (3, .ref oj), (4, .int (nI (4 * j9)))]) hx hb dL_law_532 hl (by decide) rfl (fun ls hl => ?_)
      refine lv_aload_n hx hb dL_law_534 rfl (lv_at hl 4 rfl) ?_
      refine k_I (wr := wC h0 a0 a1 a2 a3 a4 a5 cI cZ bf pw hs lo lg rt nb (nI fi) (nI fo) (nI en) 1 cu ma ++ wO oj cJ og) hP hD hS hA (va_runV (As := []) (rest := []) ⟨hx, hb, hml, hown, hts⟩ (tX1_thrown 2 bf pw hs lo lg rt nb fi fo en 0 cu ma _) (cwV 0 hts gL_law_X1_thrown rfl rfl rfl (by decide +kernel) ⟨Nat.le_of_ble_eq_true rfl, Nat.le_of_ble_eq_true rfl⟩) (pV_B hP hD hK (ci := 1) (q0 := 7) rfl rfl rfl [0, 1] rfl [7, 8, 9, 10, 11, 12, 13] rfl rfl) rfl rfl hl.1 rfl (lv_room (Nat.le_of_ble_eq_true rfl)) dL_law_535 hc9) [7, 8, 9, 10, 11, 12, 13] [0, 1, 2, 3, 4, 5, 6, 14] rfl rfl rfl (by decide) (fun H locs hP hD hS => ?_)
      have hP : va_P D vwCl (wC h0 a0 a1 a2 a3 a4 a5 cI cZ bf pw hs lo lg rt nb (nI fi) (nI fo) (nI en) 1 cu ma ++ (wM g0 b0 b1 b2 b3 b4 b5 cI cZ 2 bf pw hs lo lg rt nb (nI fi) (nI fo) (nI en) 0 cu ma ++ wO oj cJ og)) H := hP.sub [0, 1, 2, 3, 4, 5, 6, 8, 9, 10, 11, 12, 13, 14, 7] rfl
      have hD : va_D A (wC h0 a0 a1 a2 a3 a4 a5 cI cZ bf pw hs lo lg rt nb (nI fi) (nI fo) (nI en) 1 cu ma ++ (wM g0 b0 b1 b2 b3 b4 b5 cI cZ 2 bf pw hs lo lg rt nb (nI fi) (nI fo) (nI en) 0 cu ma ++ wO oj cJ og)) := hD.sub [0, 1, 2, 3, 4, 5, 6, 8, 9, 10, 11, 12, 13, 14, 7] (by decide) rfl
      refine lv_iload hx hb dL_law_538 (lv_at hl 1 rfl) ?_
      refine lv_icmp_eq (tgt := 545) hx hb dL_law_540 (by decide) (fun c_540 => ?_) (fun c_540 => absurd (by decide) c_540)
      refine lv_iload hx hb dL_law_545 (lv_at hl 1 rfl) ?_
      refine lv_if_ne (tgt := 562) hx hb dL_law_547 (by decide) (fun c_547 => ?_) (fun c_547 => absurd c_547 (by decide))
      refine lv_goto (tgt := 1176) hx hb dL_law_562 (by decide) ?_
      refine W.widen (k := 15 + (j9 + 1)) (n := 199844 + 6 * (j9 + 1)) (by omega) (by omega) ?_
      refine lv_iinc (v := nI (4 * (j9 + 1))) (lv' := [(4, .int (nI (4 * (j9 + 1)))), (6, .int 0), (5, .int 2), (0, .ref b), (1, .ref h0), (2, .ref g0), (3, .ref oj)]) hx hb dL_law_1176 hl (k := 6) rfl (nI_add (4 * j9) 4) (by decide) rfl (fun ls hl => ?_)
      refine lv_goto (tgt := 23) hx hb dL_law_1179 (by decide) ?_
      exact IH bf pw hs lo lg rt nb fi fo en 1 0 cu ma 2 og _ _ _ (Or.inr ⟨rfl, rfl⟩) (by omega) (by omega) (by omega) hcu hP hD hS (lv_sub hl [3, 4, 5, 6, 0] rfl)
    · have hP : va_P D vwCl (wC h0 a0 a1 a2 a3 a4 a5 cI cZ bf pw hs lo lg rt nb (nI fi) (nI fo) (nI en) 1 cu ma ++ (wM g0 b0 b1 b2 b3 b4 b5 cI cZ th bf pw hs lo lg rt nb (nI fi) (nI fo) (nI en) 0 cu ma ++ wO oj cJ og)) H := hP
      have hD : va_D A (wC h0 a0 a1 a2 a3 a4 a5 cI cZ bf pw hs lo lg rt nb (nI fi) (nI fo) (nI en) 1 cu ma ++ (wM g0 b0 b1 b2 b3 b4 b5 cI cZ th bf pw hs lo lg rt nb (nI fi) (nI fo) (nI en) 0 cu ma ++ wO oj cJ og)) := hD
      refine lv_aload_n hx hb dL_law_509 rfl (lv_at hl 1 rfl) ?_
      refine lv_aload_n hx hb dL_law_510 rfl (lv_at hl 0 rfl) ?_
      refine lv_iload hx hb dL_law_511 (lv_at hl 4 rfl) ?_
      refine lv_iconst (v := (nI 1)) hx hb dL_law_513 (by decide) ?_
      refine n_iadd hx hb dL_law_514 ?_
      refine n_sld hx hb hX hbl hbA hS (4 * j9 + 1) (by omega) (by omega) ((nI k)) ex dL_law_515 ?_
      refine lv_aload_n hx hb dL_law_516 rfl (lv_at hl 3 rfl) ?_
      refine k_I (wr := wM g0 b0 b1 b2 b3 b4 b5 cI cZ th bf pw hs lo lg rt nb (nI fi) (nI fo) (nI en) 0 cu ma) hP hD hS hA (vx_runSW (As := [.ref h0, .int (nI k), .ref oj]) (rest := []) ⟨hx, hb, hml, hown, hts⟩ (tL_append_ok hl0 bf pw hs lo lg rt nb fi fo en cu ma k hk hk2 (by omega) (by omega) oj og _) (vx_cwSW 3 hts gL_law_L_append rfl rfl rfl (by decide +kernel) ⟨Nat.le_of_ble_eq_true rfl, Nat.le_of_ble_eq_true rfl⟩) (pS_X hP hD hK hS hA hT [0, 1, 2] rfl [0, 1, 2, 3, 4, 5, 6, 14] rfl rfl) rfl rfl hl.1 rfl (lv_room (Nat.le_of_ble_eq_true rfl)) dL_law_517 hc1) [0, 1, 2, 3, 4, 5, 6, 14] [7, 8, 9, 10, 11, 12, 13] rfl rfl rfl (by decide) (fun H locs hP hD hS => ?_)
      have hP : va_P D vwCl (wC h0 a0 a1 a2 a3 a4 a5 cI cZ bf pw hs lo (sp_ap bf en lg k) rt nb (nI fi) (nI fo) (nI (en + k)) 1 cu ma ++ (wM g0 b0 b1 b2 b3 b4 b5 cI cZ th bf pw hs lo lg rt nb (nI fi) (nI fo) (nI en) 0 cu ma ++ wO oj cJ (vp_updL og 0 (Int32.toInt64 (nI en))))) H := hP.sub [7, 8, 9, 10, 11, 12, 13, 0, 1, 2, 3, 4, 5, 6, 14] rfl
      have hD : va_D A (wC h0 a0 a1 a2 a3 a4 a5 cI cZ bf pw hs lo (sp_ap bf en lg k) rt nb (nI fi) (nI fo) (nI (en + k)) 1 cu ma ++ (wM g0 b0 b1 b2 b3 b4 b5 cI cZ th bf pw hs lo lg rt nb (nI fi) (nI fo) (nI en) 0 cu ma ++ wO oj cJ (vp_updL og 0 (Int32.toInt64 (nI en))))) := hD.sub [7, 8, 9, 10, 11, 12, 13, 0, 1, 2, 3, 4, 5, 6, 14] (by decide) rfl
      refine lv_istore (lv' := [(5, .int 0), (0, .ref b), (1, .ref h0), (2, .ref g0), (3, .ref oj), (4, .int (nI (4 * j9)))]) hx hb dL_law_520 hl (by decide) rfl (fun ls hl => ?_)
      refine lv_aload_n hx hb dL_law_522 rfl (lv_at hl 3 rfl) ?_
      refine lv_aload_n hx hb dL_law_523 rfl (lv_at hl 1 rfl) ?_
      refine lv_iload hx hb dL_law_524 (lv_at hl 5 rfl) ?_
      refine lv_iconst (v := (nI 1)) hx hb dL_law_526 (by decide) ?_
      refine n_iadd hx hb dL_law_527 ?_
      refine n_sld hx hb hX hbl hbA hS (4 * j9 + 1) (by omega) (by omega) ((nI k)) ex dL_law_528 ?_
      refine k_I (wr := wC h0 a0 a1 a2 a3 a4 a5 cI cZ bf pw hs lo (sp_ap bf en lg k) rt nb (nI fi) (nI fo) (nI (en + k)) 1 cu ma ++ wO oj cJ (vp_updL og 0 (Int32.toInt64 (nI en)))) hP hD hS hA (va_runV (As := [.int (nI k)]) (rest := []) ⟨hx, hb, hml, hown, hts⟩ (tX1_append_ok th bf pw hs lo lg rt nb fi fo en cu ma k hk hk2 (by omega) (by omega) _) (cwV 1 hts gL_law_X1_append rfl rfl rfl (by decide +kernel) ⟨Nat.le_of_ble_eq_true rfl, Nat.le_of_ble_eq_true rfl⟩) (pV_B hP hD hK (ci := 1) (q0 := 7) rfl rfl rfl [0, 1] rfl [7, 8, 9, 10, 11, 12, 13] rfl rfl) rfl rfl hl.1 rfl (lv_room (Nat.le_of_ble_eq_true rfl)) dL_law_529 hc9) [7, 8, 9, 10, 11, 12, 13] [0, 1, 2, 3, 4, 5, 6, 14] rfl rfl rfl (by decide) (fun H locs hP hD hS => ?_)
      have hP : va_P D vwCl (wC h0 a0 a1 a2 a3 a4 a5 cI cZ bf pw hs lo (sp_ap bf en lg k) rt nb (nI fi) (nI fo) (nI (en + k)) 1 cu ma ++ (wM g0 b0 b1 b2 b3 b4 b5 cI cZ 0 bf pw hs lo (sp_ap bf en lg k) rt nb (nI fi) (nI fo) (nI (en + k)) 0 cu ma ++ wO oj cJ (vp_updL og 0 (Int32.toInt64 (nI en))))) H := hP.sub [0, 1, 2, 3, 4, 5, 6, 8, 9, 10, 11, 12, 13, 14, 7] rfl
      have hD : va_D A (wC h0 a0 a1 a2 a3 a4 a5 cI cZ bf pw hs lo (sp_ap bf en lg k) rt nb (nI fi) (nI fo) (nI (en + k)) 1 cu ma ++ (wM g0 b0 b1 b2 b3 b4 b5 cI cZ 0 bf pw hs lo (sp_ap bf en lg k) rt nb (nI fi) (nI fo) (nI (en + k)) 0 cu ma ++ wO oj cJ (vp_updL og 0 (Int32.toInt64 (nI en))))) := hD.sub [0, 1, 2, 3, 4, 5, 6, 8, 9, 10, 11, 12, 13, 14, 7] (by decide) rfl
      refine lv_istore (lv' := [(6, .int (nI en)), (5, .int 0), (0, .ref b), (1, .ref h0), (2, .ref g0), (3, .ref oj), (4, .int (nI (4 * j9)))]) hx hb dL_law_532 hl (by decide) rfl (fun ls hl => ?_)
      refine lv_aload_n hx hb dL_law_534 rfl (lv_at hl 4 rfl) ?_
      refine k_I (wr := wC h0 a0 a1 a2 a3 a4 a5 cI cZ bf pw hs lo (sp_ap bf en lg k) rt nb (nI fi) (nI fo) (nI (en + k)) 1 cu ma ++ wO oj cJ (vp_updL og 0 (Int32.toInt64 (nI en)))) hP hD hS hA (va_runV (As := []) (rest := []) ⟨hx, hb, hml, hown, hts⟩ (tX1_thrown 0 bf pw hs lo (sp_ap bf en lg k) rt nb fi fo (en + k) 0 cu ma _) (cwV 0 hts gL_law_X1_thrown rfl rfl rfl (by decide +kernel) ⟨Nat.le_of_ble_eq_true rfl, Nat.le_of_ble_eq_true rfl⟩) (pV_B hP hD hK (ci := 1) (q0 := 7) rfl rfl rfl [0, 1] rfl [7, 8, 9, 10, 11, 12, 13] rfl rfl) rfl rfl hl.1 rfl (lv_room (Nat.le_of_ble_eq_true rfl)) dL_law_535 hc9) [7, 8, 9, 10, 11, 12, 13] [0, 1, 2, 3, 4, 5, 6, 14] rfl rfl rfl (by decide) (fun H locs hP hD hS => ?_)
      have hP : va_P D vwCl (wC h0 a0 a1 a2 a3 a4 a5 cI cZ bf pw hs lo (sp_ap bf en lg k) rt nb (nI fi) (nI fo) (nI (en + k)) 1 cu ma ++ (wM g0 b0 b1 b2 b3 b4 b5 cI cZ 0 bf pw hs lo (sp_ap bf en lg k) rt nb (nI fi) (nI fo) (nI (en + k)) 0 cu ma ++ wO oj cJ (vp_updL og 0 (Int32.toInt64 (nI en))))) H := hP.sub [0, 1, 2, 3, 4, 5, 6, 8, 9, 10, 11, 12, 13, 14, 7] rfl
      have hD : va_D A (wC h0 a0 a1 a2 a3 a4 a5 cI cZ bf pw hs lo (sp_ap bf en lg k) rt nb (nI fi) (nI fo) (nI (en + k)) 1 cu ma ++ (wM g0 b0 b1 b2 b3 b4 b5 cI cZ 0 bf pw hs lo (sp_ap bf en lg k) rt nb (nI fi) (nI fo) (nI (en + k)) 0 cu ma ++ wO oj cJ (vp_updL og 0 (Int32.toInt64 (nI en))))) := hD.sub [0, 1, 2, 3, 4, 5, 6, 8, 9, 10, 11, 12, 13, 14, 7] (by decide) rfl
      refine lv_iload hx hb dL_law_538 (lv_at hl 1 rfl) ?_
      refine lv_icmp_eq (tgt := 545) hx hb dL_law_540 (by decide) (fun c_540 => ?_) (fun c_540 => absurd (by decide) c_540)
      refine lv_iload hx hb dL_law_545 (lv_at hl 1 rfl) ?_
      refine lv_if_ne (tgt := 562) hx hb dL_law_547 (by decide) (fun c_547 => absurd (by decide) c_547) (fun c_547 => ?_)
      refine lv_aload_n hx hb dL_law_550 rfl (lv_at hl 5 rfl) ?_
      refine lv_iconst (v := (nI 0)) hx hb dL_law_551 (by decide) ?_
      refine n_lald hx hb hK hP 14 2 rfl rfl 0 (by omega) (by omega) dL_law_552 ?_
      refine lv_iload hx hb dL_law_553 (lv_at hl 0 rfl) ?_
      refine lv_i2l (v := Int32.toInt64 (nI en)) hx hb dL_law_555 rfl ?_
      refine W.lcmp hx hb dL_law_556 ?_
      refine lv_if_eq (tgt := 562) hx hb dL_law_557 (by decide) (fun c_557 => ?_) (fun c_557 => absurd (by rw [pk_uLs]; exact lg_self _) c_557)
      refine lv_goto (tgt := 1176) hx hb dL_law_562 (by decide) ?_
      refine W.widen (k := 15 + (j9 + 1)) (n := 199844 + 6 * (j9 + 1)) (by omega) (by omega) ?_
      refine lv_iinc (v := nI (4 * (j9 + 1))) (lv' := [(4, .int (nI (4 * (j9 + 1)))), (6, .int (nI en)), (5, .int 0), (0, .ref b), (1, .ref h0), (2, .ref g0), (3, .ref oj)]) hx hb dL_law_1176 hl (k := 6) rfl (nI_add (4 * j9) 4) (by decide) rfl (fun ls hl => ?_)
      refine lv_goto (tgt := 23) hx hb dL_law_1179 (by decide) ?_
      exact IH bf pw hs lo (sp_ap bf en lg k) rt nb fi fo (en + k) 1 0 cu ma 0 (vp_updL og 0 (Int32.toInt64 (nI en))) _ _ _ (Or.inr ⟨rfl, rfl⟩) (by omega) (by omega) (by omega) hcu hP hD hS (lv_sub hl [3, 4, 5, 6, 0] rfl)
set_option maxHeartbeats 4000000 in
set_option maxRecDepth 100000 in
theorem lo_force {p : Program} {l : Launch} {e : Env} {s : State} {m : MethodId} {below : List Frame} {meth : Method} {c : Code} {Q : State → Prop} {D : va_G} {A : Nat → Prop} {cI cZ cJ : ClassId} {b L : Nat} {xs : Nat → Int32} {h0 a0 a1 a2 a3 a4 a5 g0 b0 b1 b2 b3 b4 b5 oj : Nat} (hl0 : l.stackTraces = false) (hx : p.tables.exec = Jvm.exec) (hb : c.code = code) (hml : c.maxLocals = 7) (hown : s.vm.findClass RL = some m.cls) (hts : ∀ w ∈ wsL_law, w.before #[Value.ref b] s = true) (hX : va_X b L xs s s.heap) (hbl : b < s.heap.size) (hbA : ¬ A b) (hA : ∀ q : Nat, s.heap.size ≤ q → A q) (hK : va_K D vwCl (tyL cI cZ cJ) s) (hT : xT A s s.heap) (hL : L ≤ 2048) (j9 : Nat) (hj : 4 * j9 + 4 ≤ L)
    (IH : lgW p l e s m below meth c Q D A cI cZ cJ b h0 a0 a1 a2 a3 a4 a5 g0 b0 b1 b2 b3 b4 b5 oj (j9 + 1))
    (bf pw hs lo lg rt : Nat → Int32) (nb : Int32) (fi fo en : Nat) (on off cu ma th : Int32) (og : Nat → Int64) (H : Heap) (locs : List Loc) (ls : Array Slot) (hpo : (on = 0 ∧ off = 1) ∨ (on = 1 ∧ off = 0)) (hi1 : fi ≤ fo) (hi2 : fo ≤ en) (hi3 : en ≤ 64 * j9) (hcu : -1 ≤ cu)
    (hP : va_P D vwCl (wA h0 a0 a1 a2 a3 a4 a5 g0 b0 b1 b2 b3 b4 b5 oj cI cZ cJ bf pw hs lo lg rt nb fi fo en on off cu ma th og) H) (hD : va_D A (wA h0 a0 a1 a2 a3 a4 a5 g0 b0 b1 b2 b3 b4 b5 oj cI cZ cJ bf pw hs lo lg rt nb fi fo en on off cu ma th og)) (hS : va_S A s.heap H locs) (hl : lv_has ls 7 [(0, .ref b), (1, .ref h0), (2, .ref g0), (3, .ref oj), (4, .int (nI (4 * j9)))]) :
    W p l e room_1 s m #[Value.ref b] below meth c H locs (15 + j9) (199844 + 6 * j9) Q (F0 m 565 ls []) := by
  have he : en ≤ 60000 := by omega
  have hc0 : 15 + j9 + 0 ≤ room_1.cells ∧ 199844 + 6 * j9 + 0 ≤ room_1.slots := ⟨show 15 + j9 + 0 ≤ 601024 by omega, show 199844 + 6 * j9 + 0 ≤ 7293034 by omega⟩
  have hc1 : 15 + j9 + 1 ≤ room_1.cells ∧ 199844 + 6 * j9 + 6 ≤ room_1.slots := ⟨show 15 + j9 + 1 ≤ 601024 by omega, show 199844 + 6 * j9 + 6 ≤ 7293034 by omega⟩
  have hc9 : 15 + j9 + 1 + 0 ≤ room_1.cells ∧ 199844 + 6 * j9 + 6 + 0 ≤ room_1.slots := hc1
  obtain ⟨x, ex⟩ : ∃ z9, xs (4 * j9 + 1) = z9 := ⟨_, rfl⟩
  rcases hpo with ⟨rfl, rfl⟩ | ⟨rfl, rfl⟩
  · have hP : va_P D vwCl (wC h0 a0 a1 a2 a3 a4 a5 cI cZ bf pw hs lo lg rt nb (nI fi) (nI fo) (nI en) 0 cu ma ++ (wM g0 b0 b1 b2 b3 b4 b5 cI cZ th bf pw hs lo lg rt nb (nI fi) (nI fo) (nI en) 1 cu ma ++ wO oj cJ og)) H := hP
    have hD : va_D A (wC h0 a0 a1 a2 a3 a4 a5 cI cZ bf pw hs lo lg rt nb (nI fi) (nI fo) (nI en) 0 cu ma ++ (wM g0 b0 b1 b2 b3 b4 b5 cI cZ th bf pw hs lo lg rt nb (nI fi) (nI fo) (nI en) 1 cu ma ++ wO oj cJ og)) := hD
    refine lv_aload_n hx hb dL_law_565 rfl (lv_at hl 1 rfl) ?_
    refine lv_aload_n hx hb dL_law_566 rfl (lv_at hl 0 rfl) ?_
    refine lv_iload hx hb dL_law_567 (lv_at hl 4 rfl) ?_
    refine lv_iconst (v := (nI 1)) hx hb dL_law_569 (by decide) ?_
    refine n_iadd hx hb dL_law_570 ?_
    refine n_sld hx hb hX hbl hbA hS (4 * j9 + 1) (by omega) (by omega) (x) ex dL_law_571 ?_
    refine lv_aload_n hx hb dL_law_572 rfl (lv_at hl 3 rfl) ?_
    refine k_I (wr := wM g0 b0 b1 b2 b3 b4 b5 cI cZ th bf pw hs lo lg rt nb (nI fi) (nI fo) (nI en) 1 cu ma) hP hD hS hA (vx_runSW (As := [.ref h0, .int x, .ref oj]) (rest := []) ⟨hx, hb, hml, hown, hts⟩ (tL_force_x0 hl0 bf pw hs lo lg rt nb fi fo en cu ma x oj og _) (vx_cwSW 3 hts gL_law_L_force rfl rfl rfl (by decide +kernel) ⟨Nat.le_of_ble_eq_true rfl, Nat.le_of_ble_eq_true rfl⟩) (pS_X hP hD hK hS hA hT [0, 1, 2] rfl [0, 1, 2, 3, 4, 5, 6, 14] rfl rfl) rfl rfl hl.1 rfl (lv_room (Nat.le_of_ble_eq_true rfl)) dL_law_573 hc1) [0, 1, 2, 3, 4, 5, 6, 14] [7, 8, 9, 10, 11, 12, 13] rfl rfl rfl (by decide) (fun H locs hP hD hS => ?_)
    have hP : va_P D vwCl (wC h0 a0 a1 a2 a3 a4 a5 cI cZ bf pw hs lo lg rt nb (nI fi) (nI fo) (nI en) 0 cu ma ++ (wM g0 b0 b1 b2 b3 b4 b5 cI cZ th bf pw hs lo lg rt nb (nI fi) (nI fo) (nI en) 1 cu ma ++ wO oj cJ og)) H := hP.sub [7, 8, 9, 10, 11, 12, 13, 0, 1, 2, 3, 4, 5, 6, 14] rfl
    have hD : va_D A (wC h0 a0 a1 a2 a3 a4 a5 cI cZ bf pw hs lo lg rt nb (nI fi) (nI fo) (nI en) 0 cu ma ++ (wM g0 b0 b1 b2 b3 b4 b5 cI cZ th bf pw hs lo lg rt nb (nI fi) (nI fo) (nI en) 1 cu ma ++ wO oj cJ og)) := hD.sub [7, 8, 9, 10, 11, 12, 13, 0, 1, 2, 3, 4, 5, 6, 14] (by decide) rfl
    refine lv_istore (lv' := [(5, .int 1), (0, .ref b), (1, .ref h0), (2, .ref g0), (3, .ref oj), (4, .int (nI (4 * j9)))]) hx hb dL_law_576 hl (by decide) rfl (fun ls hl => ?_)
    refine lv_aload_n hx hb dL_law_578 rfl (lv_at hl 3 rfl) ?_
    refine lv_aload_n hx hb dL_law_579 rfl (lv_at hl 1 rfl) ?_
    refine lv_iload hx hb dL_law_580 (lv_at hl 5 rfl) ?_
    refine lv_iconst (v := (nI 1)) hx hb dL_law_582 (by decide) ?_
    refine n_iadd hx hb dL_law_583 ?_
    refine n_sld hx hb hX hbl hbA hS (4 * j9 + 1) (by omega) (by omega) (x) ex dL_law_584 ?_
    refine k_I (wr := wC h0 a0 a1 a2 a3 a4 a5 cI cZ bf pw hs lo lg rt nb (nI fi) (nI fo) (nI en) 0 cu ma ++ wO oj cJ og) hP hD hS hA (va_runV (As := [.int x]) (rest := []) ⟨hx, hb, hml, hown, hts⟩ (tX1_force_x0 th bf pw hs lo lg rt nb fi fo en cu ma x _) (cwV 1 hts gL_law_X1_force rfl rfl rfl (by decide +kernel) ⟨Nat.le_of_ble_eq_true rfl, Nat.le_of_ble_eq_true rfl⟩) (pV_B hP hD hK (ci := 1) (q0 := 7) rfl rfl rfl [0, 1] rfl [7, 8, 9, 10, 11, 12, 13] rfl rfl) rfl rfl hl.1 rfl (lv_room (Nat.le_of_ble_eq_true rfl)) dL_law_585 hc9) [7, 8, 9, 10, 11, 12, 13] [0, 1, 2, 3, 4, 5, 6, 14] rfl rfl rfl (by decide) (fun H locs hP hD hS => ?_)
    have hP : va_P D vwCl (wC h0 a0 a1 a2 a3 a4 a5 cI cZ bf pw hs lo lg rt nb (nI fi) (nI fo) (nI en) 0 cu ma ++ (wM g0 b0 b1 b2 b3 b4 b5 cI cZ 1 bf pw hs lo lg rt nb (nI fi) (nI fo) (nI en) 1 cu ma ++ wO oj cJ og)) H := hP.sub [0, 1, 2, 3, 4, 5, 6, 8, 9, 10, 11, 12, 13, 14, 7] rfl
    have hD : va_D A (wC h0 a0 a1 a2 a3 a4 a5 cI cZ bf pw hs lo lg rt nb (nI fi) (nI fo) (nI en) 0 cu ma ++ (wM g0 b0 b1 b2 b3 b4 b5 cI cZ 1 bf pw hs lo lg rt nb (nI fi) (nI fo) (nI en) 1 cu ma ++ wO oj cJ og)) := hD.sub [0, 1, 2, 3, 4, 5, 6, 8, 9, 10, 11, 12, 13, 14, 7] (by decide) rfl
    refine lv_istore (lv' := [(6, .int 0), (5, .int 1), (0, .ref b), (1, .ref h0), (2, .ref g0), (3, .ref oj), (4, .int (nI (4 * j9)))]) hx hb dL_law_588 hl (by decide) rfl (fun ls hl => ?_)
    refine lv_aload_n hx hb dL_law_590 rfl (lv_at hl 4 rfl) ?_
    refine k_I (wr := wC h0 a0 a1 a2 a3 a4 a5 cI cZ bf pw hs lo lg rt nb (nI fi) (nI fo) (nI en) 0 cu ma ++ wO oj cJ og) hP hD hS hA (va_runV (As := []) (rest := []) ⟨hx, hb, hml, hown, hts⟩ (tX1_thrown 1 bf pw hs lo lg rt nb fi fo en 1 cu ma _) (cwV 0 hts gL_law_X1_thrown rfl rfl rfl (by decide +kernel) ⟨Nat.le_of_ble_eq_true rfl, Nat.le_of_ble_eq_true rfl⟩) (pV_B hP hD hK (ci := 1) (q0 := 7) rfl rfl rfl [0, 1] rfl [7, 8, 9, 10, 11, 12, 13] rfl rfl) rfl rfl hl.1 rfl (lv_room (Nat.le_of_ble_eq_true rfl)) dL_law_591 hc9) [7, 8, 9, 10, 11, 12, 13] [0, 1, 2, 3, 4, 5, 6, 14] rfl rfl rfl (by decide) (fun H locs hP hD hS => ?_)
    have hP : va_P D vwCl (wC h0 a0 a1 a2 a3 a4 a5 cI cZ bf pw hs lo lg rt nb (nI fi) (nI fo) (nI en) 0 cu ma ++ (wM g0 b0 b1 b2 b3 b4 b5 cI cZ 1 bf pw hs lo lg rt nb (nI fi) (nI fo) (nI en) 1 cu ma ++ wO oj cJ og)) H := hP.sub [0, 1, 2, 3, 4, 5, 6, 8, 9, 10, 11, 12, 13, 14, 7] rfl
    have hD : va_D A (wC h0 a0 a1 a2 a3 a4 a5 cI cZ bf pw hs lo lg rt nb (nI fi) (nI fo) (nI en) 0 cu ma ++ (wM g0 b0 b1 b2 b3 b4 b5 cI cZ 1 bf pw hs lo lg rt nb (nI fi) (nI fo) (nI en) 1 cu ma ++ wO oj cJ og)) := hD.sub [0, 1, 2, 3, 4, 5, 6, 8, 9, 10, 11, 12, 13, 14, 7] (by decide) rfl
    refine lv_iload hx hb dL_law_594 (lv_at hl 1 rfl) ?_
    refine lv_icmp_eq (tgt := 601) hx hb dL_law_596 (by decide) (fun c_596 => ?_) (fun c_596 => absurd (by decide) c_596)
    refine lv_iload hx hb dL_law_601 (lv_at hl 1 rfl) ?_
    refine lv_if_ne (tgt := 618) hx hb dL_law_603 (by decide) (fun c_603 => ?_) (fun c_603 => absurd c_603 (by decide))
    refine lv_goto (tgt := 1176) hx hb dL_law_618 (by decide) ?_
    refine W.widen (k := 15 + (j9 + 1)) (n := 199844 + 6 * (j9 + 1)) (by omega) (by omega) ?_
    refine lv_iinc (v := nI (4 * (j9 + 1))) (lv' := [(4, .int (nI (4 * (j9 + 1)))), (6, .int 0), (5, .int 1), (0, .ref b), (1, .ref h0), (2, .ref g0), (3, .ref oj)]) hx hb dL_law_1176 hl (k := 6) rfl (nI_add (4 * j9) 4) (by decide) rfl (fun ls hl => ?_)
    refine lv_goto (tgt := 23) hx hb dL_law_1179 (by decide) ?_
    exact IH bf pw hs lo lg rt nb fi fo en 0 1 cu ma 1 og _ _ _ (Or.inl ⟨rfl, rfl⟩) (by omega) (by omega) (by omega) hcu hP hD hS (lv_sub hl [3, 4, 5, 6, 0] rfl)
  · rcases rg_cases x fi en (by omega) (by omega) with h | ⟨pl, h1, h2, rfl⟩
    · have hP : va_P D vwCl (wC h0 a0 a1 a2 a3 a4 a5 cI cZ bf pw hs lo lg rt nb (nI fi) (nI fo) (nI en) 1 cu ma ++ (wM g0 b0 b1 b2 b3 b4 b5 cI cZ th bf pw hs lo lg rt nb (nI fi) (nI fo) (nI en) 0 cu ma ++ wO oj cJ og)) H := hP
      have hD : va_D A (wC h0 a0 a1 a2 a3 a4 a5 cI cZ bf pw hs lo lg rt nb (nI fi) (nI fo) (nI en) 1 cu ma ++ (wM g0 b0 b1 b2 b3 b4 b5 cI cZ th bf pw hs lo lg rt nb (nI fi) (nI fo) (nI en) 0 cu ma ++ wO oj cJ og)) := hD
      refine lv_aload_n hx hb dL_law_565 rfl (lv_at hl 1 rfl) ?_
      refine lv_aload_n hx hb dL_law_566 rfl (lv_at hl 0 rfl) ?_
      refine lv_iload hx hb dL_law_567 (lv_at hl 4 rfl) ?_
      refine lv_iconst (v := (nI 1)) hx hb dL_law_569 (by decide) ?_
      refine n_iadd hx hb dL_law_570 ?_
      refine n_sld hx hb hX hbl hbA hS (4 * j9 + 1) (by omega) (by omega) (x) ex dL_law_571 ?_
      refine lv_aload_n hx hb dL_law_572 rfl (lv_at hl 3 rfl) ?_
      refine k_I (wr := wM g0 b0 b1 b2 b3 b4 b5 cI cZ th bf pw hs lo lg rt nb (nI fi) (nI fo) (nI en) 0 cu ma) hP hD hS hA (vx_runSW (As := [.ref h0, .int x, .ref oj]) (rest := []) ⟨hx, hb, hml, hown, hts⟩ (tL_force_xb hl0 bf pw hs lo lg rt nb fi fo en cu ma x h oj og _) (vx_cwSW 3 hts gL_law_L_force rfl rfl rfl (by decide +kernel) ⟨Nat.le_of_ble_eq_true rfl, Nat.le_of_ble_eq_true rfl⟩) (pS_X hP hD hK hS hA hT [0, 1, 2] rfl [0, 1, 2, 3, 4, 5, 6, 14] rfl rfl) rfl rfl hl.1 rfl (lv_room (Nat.le_of_ble_eq_true rfl)) dL_law_573 hc1) [0, 1, 2, 3, 4, 5, 6, 14] [7, 8, 9, 10, 11, 12, 13] rfl rfl rfl (by decide) (fun H locs hP hD hS => ?_)
      have hP : va_P D vwCl (wC h0 a0 a1 a2 a3 a4 a5 cI cZ bf pw hs lo lg rt nb (nI fi) (nI fo) (nI en) 1 cu ma ++ (wM g0 b0 b1 b2 b3 b4 b5 cI cZ th bf pw hs lo lg rt nb (nI fi) (nI fo) (nI en) 0 cu ma ++ wO oj cJ og)) H := hP.sub [7, 8, 9, 10, 11, 12, 13, 0, 1, 2, 3, 4, 5, 6, 14] rfl
      have hD : va_D A (wC h0 a0 a1 a2 a3 a4 a5 cI cZ bf pw hs lo lg rt nb (nI fi) (nI fo) (nI en) 1 cu ma ++ (wM g0 b0 b1 b2 b3 b4 b5 cI cZ th bf pw hs lo lg rt nb (nI fi) (nI fo) (nI en) 0 cu ma ++ wO oj cJ og)) := hD.sub [7, 8, 9, 10, 11, 12, 13, 0, 1, 2, 3, 4, 5, 6, 14] (by decide) rfl
      refine lv_istore (lv' := [(5, .int 2), (0, .ref b), (1, .ref h0), (2, .ref g0), (3, .ref oj), (4, .int (nI (4 * j9)))]) hx hb dL_law_576 hl (by decide) rfl (fun ls hl => ?_)
      refine lv_aload_n hx hb dL_law_578 rfl (lv_at hl 3 rfl) ?_
      refine lv_aload_n hx hb dL_law_579 rfl (lv_at hl 1 rfl) ?_
      refine lv_iload hx hb dL_law_580 (lv_at hl 5 rfl) ?_
      refine lv_iconst (v := (nI 1)) hx hb dL_law_582 (by decide) ?_
      refine n_iadd hx hb dL_law_583 ?_
      refine n_sld hx hb hX hbl hbA hS (4 * j9 + 1) (by omega) (by omega) (x) ex dL_law_584 ?_
      refine k_I (wr := wC h0 a0 a1 a2 a3 a4 a5 cI cZ bf pw hs lo lg rt nb (nI fi) (nI fo) (nI en) 1 cu ma ++ wO oj cJ og) hP hD hS hA (va_runV (As := [.int x]) (rest := []) ⟨hx, hb, hml, hown, hts⟩ (tX1_force_xb th bf pw hs lo lg rt nb fi fo en cu ma x h _) (cwV 1 hts gL_law_X1_force rfl rfl rfl (by decide +kernel) ⟨Nat.le_of_ble_eq_true rfl, Nat.le_of_ble_eq_true rfl⟩) (pV_B hP hD hK (ci := 1) (q0 := 7) rfl rfl rfl [0, 1] rfl [7, 8, 9, 10, 11, 12, 13] rfl rfl) rfl rfl hl.1 rfl (lv_room (Nat.le_of_ble_eq_true rfl)) dL_law_585 hc9) [7, 8, 9, 10, 11, 12, 13] [0, 1, 2, 3, 4, 5, 6, 14] rfl rfl rfl (by decide) (fun H locs hP hD hS => ?_)
      have hP : va_P D vwCl (wC h0 a0 a1 a2 a3 a4 a5 cI cZ bf pw hs lo lg rt nb (nI fi) (nI fo) (nI en) 1 cu ma ++ (wM g0 b0 b1 b2 b3 b4 b5 cI cZ 2 bf pw hs lo lg rt nb (nI fi) (nI fo) (nI en) 0 cu ma ++ wO oj cJ og)) H := hP.sub [0, 1, 2, 3, 4, 5, 6, 8, 9, 10, 11, 12, 13, 14, 7] rfl
      have hD : va_D A (wC h0 a0 a1 a2 a3 a4 a5 cI cZ bf pw hs lo lg rt nb (nI fi) (nI fo) (nI en) 1 cu ma ++ (wM g0 b0 b1 b2 b3 b4 b5 cI cZ 2 bf pw hs lo lg rt nb (nI fi) (nI fo) (nI en) 0 cu ma ++ wO oj cJ og)) := hD.sub [0, 1, 2, 3, 4, 5, 6, 8, 9, 10, 11, 12, 13, 14, 7] (by decide) rfl
      refine lv_istore (lv' := [(6, .int 0), (5, .int 2), (0, .ref b), (1, .ref h0), (2, .ref g0), (3, .ref oj), (4, .int (nI (4 * j9)))]) hx hb dL_law_588 hl (by decide) rfl (fun ls hl => ?_)
      refine lv_aload_n hx hb dL_law_590 rfl (lv_at hl 4 rfl) ?_
      refine k_I (wr := wC h0 a0 a1 a2 a3 a4 a5 cI cZ bf pw hs lo lg rt nb (nI fi) (nI fo) (nI en) 1 cu ma ++ wO oj cJ og) hP hD hS hA (va_runV (As := []) (rest := []) ⟨hx, hb, hml, hown, hts⟩ (tX1_thrown 2 bf pw hs lo lg rt nb fi fo en 0 cu ma _) (cwV 0 hts gL_law_X1_thrown rfl rfl rfl (by decide +kernel) ⟨Nat.le_of_ble_eq_true rfl, Nat.le_of_ble_eq_true rfl⟩) (pV_B hP hD hK (ci := 1) (q0 := 7) rfl rfl rfl [0, 1] rfl [7, 8, 9, 10, 11, 12, 13] rfl rfl) rfl rfl hl.1 rfl (lv_room (Nat.le_of_ble_eq_true rfl)) dL_law_591 hc9) [7, 8, 9, 10, 11, 12, 13] [0, 1, 2, 3, 4, 5, 6, 14] rfl rfl rfl (by decide) (fun H locs hP hD hS => ?_)
      have hP : va_P D vwCl (wC h0 a0 a1 a2 a3 a4 a5 cI cZ bf pw hs lo lg rt nb (nI fi) (nI fo) (nI en) 1 cu ma ++ (wM g0 b0 b1 b2 b3 b4 b5 cI cZ 2 bf pw hs lo lg rt nb (nI fi) (nI fo) (nI en) 0 cu ma ++ wO oj cJ og)) H := hP.sub [0, 1, 2, 3, 4, 5, 6, 8, 9, 10, 11, 12, 13, 14, 7] rfl
      have hD : va_D A (wC h0 a0 a1 a2 a3 a4 a5 cI cZ bf pw hs lo lg rt nb (nI fi) (nI fo) (nI en) 1 cu ma ++ (wM g0 b0 b1 b2 b3 b4 b5 cI cZ 2 bf pw hs lo lg rt nb (nI fi) (nI fo) (nI en) 0 cu ma ++ wO oj cJ og)) := hD.sub [0, 1, 2, 3, 4, 5, 6, 8, 9, 10, 11, 12, 13, 14, 7] (by decide) rfl
      refine lv_iload hx hb dL_law_594 (lv_at hl 1 rfl) ?_
      refine lv_icmp_eq (tgt := 601) hx hb dL_law_596 (by decide) (fun c_596 => ?_) (fun c_596 => absurd (by decide) c_596)
      refine lv_iload hx hb dL_law_601 (lv_at hl 1 rfl) ?_
      refine lv_if_ne (tgt := 618) hx hb dL_law_603 (by decide) (fun c_603 => ?_) (fun c_603 => absurd c_603 (by decide))
      refine lv_goto (tgt := 1176) hx hb dL_law_618 (by decide) ?_
      refine W.widen (k := 15 + (j9 + 1)) (n := 199844 + 6 * (j9 + 1)) (by omega) (by omega) ?_
      refine lv_iinc (v := nI (4 * (j9 + 1))) (lv' := [(4, .int (nI (4 * (j9 + 1)))), (6, .int 0), (5, .int 2), (0, .ref b), (1, .ref h0), (2, .ref g0), (3, .ref oj)]) hx hb dL_law_1176 hl (k := 6) rfl (nI_add (4 * j9) 4) (by decide) rfl (fun ls hl => ?_)
      refine lv_goto (tgt := 23) hx hb dL_law_1179 (by decide) ?_
      exact IH bf pw hs lo lg rt nb fi fo en 1 0 cu ma 2 og _ _ _ (Or.inr ⟨rfl, rfl⟩) (by omega) (by omega) (by omega) hcu hP hD hS (lv_sub hl [3, 4, 5, 6, 0] rfl)
    · by_cases h3 : pl ≤ fo
      · have hP : va_P D vwCl (wC h0 a0 a1 a2 a3 a4 a5 cI cZ bf pw hs lo lg rt nb (nI fi) (nI fo) (nI en) 1 cu ma ++ (wM g0 b0 b1 b2 b3 b4 b5 cI cZ th bf pw hs lo lg rt nb (nI fi) (nI fo) (nI en) 0 cu ma ++ wO oj cJ og)) H := hP
        have hD : va_D A (wC h0 a0 a1 a2 a3 a4 a5 cI cZ bf pw hs lo lg rt nb (nI fi) (nI fo) (nI en) 1 cu ma ++ (wM g0 b0 b1 b2 b3 b4 b5 cI cZ th bf pw hs lo lg rt nb (nI fi) (nI fo) (nI en) 0 cu ma ++ wO oj cJ og)) := hD
        refine lv_aload_n hx hb dL_law_565 rfl (lv_at hl 1 rfl) ?_
        refine lv_aload_n hx hb dL_law_566 rfl (lv_at hl 0 rfl) ?_
        refine lv_iload hx hb dL_law_567 (lv_at hl 4 rfl) ?_
        refine lv_iconst (v := (nI 1)) hx hb dL_law_569 (by decide) ?_
        refine n_iadd hx hb dL_law_570 ?_
        refine n_sld hx hb hX hbl hbA hS (4 * j9 + 1) (by omega) (by omega) ((nI pl)) ex dL_law_571 ?_
        refine lv_aload_n hx hb dL_law_572 rfl (lv_at hl 3 rfl) ?_
        refine k_I (wr := wM g0 b0 b1 b2 b3 b4 b5 cI cZ th bf pw hs lo lg rt nb (nI fi) (nI fo) (nI en) 0 cu ma) hP hD hS hA (vx_runSW (As := [.ref h0, .int (nI pl), .ref oj]) (rest := []) ⟨hx, hb, hml, hown, hts⟩ (tL_force_no hl0 bf pw hs lo lg rt nb fi fo en cu ma pl h1 h2 h3 (by omega) (by omega) oj og _) (vx_cwSW 3 hts gL_law_L_force rfl rfl rfl (by decide +kernel) ⟨Nat.le_of_ble_eq_true rfl, Nat.le_of_ble_eq_true rfl⟩) (pS_X hP hD hK hS hA hT [0, 1, 2] rfl [0, 1, 2, 3, 4, 5, 6, 14] rfl rfl) rfl rfl hl.1 rfl (lv_room (Nat.le_of_ble_eq_true rfl)) dL_law_573 hc1) [0, 1, 2, 3, 4, 5, 6, 14] [7, 8, 9, 10, 11, 12, 13] rfl rfl rfl (by decide) (fun H locs hP hD hS => ?_)
        have hP : va_P D vwCl (wC h0 a0 a1 a2 a3 a4 a5 cI cZ bf pw hs lo lg rt nb (nI fi) (nI fo) (nI en) 1 cu ma ++ (wM g0 b0 b1 b2 b3 b4 b5 cI cZ th bf pw hs lo lg rt nb (nI fi) (nI fo) (nI en) 0 cu ma ++ wO oj cJ (vp_updL og 0 (Int32.toInt64 0)))) H := hP.sub [7, 8, 9, 10, 11, 12, 13, 0, 1, 2, 3, 4, 5, 6, 14] rfl
        have hD : va_D A (wC h0 a0 a1 a2 a3 a4 a5 cI cZ bf pw hs lo lg rt nb (nI fi) (nI fo) (nI en) 1 cu ma ++ (wM g0 b0 b1 b2 b3 b4 b5 cI cZ th bf pw hs lo lg rt nb (nI fi) (nI fo) (nI en) 0 cu ma ++ wO oj cJ (vp_updL og 0 (Int32.toInt64 0)))) := hD.sub [7, 8, 9, 10, 11, 12, 13, 0, 1, 2, 3, 4, 5, 6, 14] (by decide) rfl
        refine lv_istore (lv' := [(5, .int 0), (0, .ref b), (1, .ref h0), (2, .ref g0), (3, .ref oj), (4, .int (nI (4 * j9)))]) hx hb dL_law_576 hl (by decide) rfl (fun ls hl => ?_)
        refine lv_aload_n hx hb dL_law_578 rfl (lv_at hl 3 rfl) ?_
        refine lv_aload_n hx hb dL_law_579 rfl (lv_at hl 1 rfl) ?_
        refine lv_iload hx hb dL_law_580 (lv_at hl 5 rfl) ?_
        refine lv_iconst (v := (nI 1)) hx hb dL_law_582 (by decide) ?_
        refine n_iadd hx hb dL_law_583 ?_
        refine n_sld hx hb hX hbl hbA hS (4 * j9 + 1) (by omega) (by omega) ((nI pl)) ex dL_law_584 ?_
        refine k_I (wr := wC h0 a0 a1 a2 a3 a4 a5 cI cZ bf pw hs lo lg rt nb (nI fi) (nI fo) (nI en) 1 cu ma ++ wO oj cJ (vp_updL og 0 (Int32.toInt64 0))) hP hD hS hA (va_runV (As := [.int (nI pl)]) (rest := []) ⟨hx, hb, hml, hown, hts⟩ (tX1_force_no th bf pw hs lo lg rt nb fi fo en cu ma pl h1 h2 h3 (by omega) (by omega) _) (cwV 1 hts gL_law_X1_force rfl rfl rfl (by decide +kernel) ⟨Nat.le_of_ble_eq_true rfl, Nat.le_of_ble_eq_true rfl⟩) (pV_B hP hD hK (ci := 1) (q0 := 7) rfl rfl rfl [0, 1] rfl [7, 8, 9, 10, 11, 12, 13] rfl rfl) rfl rfl hl.1 rfl (lv_room (Nat.le_of_ble_eq_true rfl)) dL_law_585 hc9) [7, 8, 9, 10, 11, 12, 13] [0, 1, 2, 3, 4, 5, 6, 14] rfl rfl rfl (by decide) (fun H locs hP hD hS => ?_)
        have hP : va_P D vwCl (wC h0 a0 a1 a2 a3 a4 a5 cI cZ bf pw hs lo lg rt nb (nI fi) (nI fo) (nI en) 1 cu ma ++ (wM g0 b0 b1 b2 b3 b4 b5 cI cZ 0 bf pw hs lo lg rt nb (nI fi) (nI fo) (nI en) 0 cu ma ++ wO oj cJ (vp_updL og 0 (Int32.toInt64 0)))) H := hP.sub [0, 1, 2, 3, 4, 5, 6, 8, 9, 10, 11, 12, 13, 14, 7] rfl
        have hD : va_D A (wC h0 a0 a1 a2 a3 a4 a5 cI cZ bf pw hs lo lg rt nb (nI fi) (nI fo) (nI en) 1 cu ma ++ (wM g0 b0 b1 b2 b3 b4 b5 cI cZ 0 bf pw hs lo lg rt nb (nI fi) (nI fo) (nI en) 0 cu ma ++ wO oj cJ (vp_updL og 0 (Int32.toInt64 0)))) := hD.sub [0, 1, 2, 3, 4, 5, 6, 8, 9, 10, 11, 12, 13, 14, 7] (by decide) rfl
        refine lv_istore (lv' := [(6, .int 0), (5, .int 0), (0, .ref b), (1, .ref h0), (2, .ref g0), (3, .ref oj), (4, .int (nI (4 * j9)))]) hx hb dL_law_588 hl (by decide) rfl (fun ls hl => ?_)
        refine lv_aload_n hx hb dL_law_590 rfl (lv_at hl 4 rfl) ?_
        refine k_I (wr := wC h0 a0 a1 a2 a3 a4 a5 cI cZ bf pw hs lo lg rt nb (nI fi) (nI fo) (nI en) 1 cu ma ++ wO oj cJ (vp_updL og 0 (Int32.toInt64 0))) hP hD hS hA (va_runV (As := []) (rest := []) ⟨hx, hb, hml, hown, hts⟩ (tX1_thrown 0 bf pw hs lo lg rt nb fi fo en 0 cu ma _) (cwV 0 hts gL_law_X1_thrown rfl rfl rfl (by decide +kernel) ⟨Nat.le_of_ble_eq_true rfl, Nat.le_of_ble_eq_true rfl⟩) (pV_B hP hD hK (ci := 1) (q0 := 7) rfl rfl rfl [0, 1] rfl [7, 8, 9, 10, 11, 12, 13] rfl rfl) rfl rfl hl.1 rfl (lv_room (Nat.le_of_ble_eq_true rfl)) dL_law_591 hc9) [7, 8, 9, 10, 11, 12, 13] [0, 1, 2, 3, 4, 5, 6, 14] rfl rfl rfl (by decide) (fun H locs hP hD hS => ?_)
        have hP : va_P D vwCl (wC h0 a0 a1 a2 a3 a4 a5 cI cZ bf pw hs lo lg rt nb (nI fi) (nI fo) (nI en) 1 cu ma ++ (wM g0 b0 b1 b2 b3 b4 b5 cI cZ 0 bf pw hs lo lg rt nb (nI fi) (nI fo) (nI en) 0 cu ma ++ wO oj cJ (vp_updL og 0 (Int32.toInt64 0)))) H := hP.sub [0, 1, 2, 3, 4, 5, 6, 8, 9, 10, 11, 12, 13, 14, 7] rfl
        have hD : va_D A (wC h0 a0 a1 a2 a3 a4 a5 cI cZ bf pw hs lo lg rt nb (nI fi) (nI fo) (nI en) 1 cu ma ++ (wM g0 b0 b1 b2 b3 b4 b5 cI cZ 0 bf pw hs lo lg rt nb (nI fi) (nI fo) (nI en) 0 cu ma ++ wO oj cJ (vp_updL og 0 (Int32.toInt64 0)))) := hD.sub [0, 1, 2, 3, 4, 5, 6, 8, 9, 10, 11, 12, 13, 14, 7] (by decide) rfl
        refine lv_iload hx hb dL_law_594 (lv_at hl 1 rfl) ?_
        refine lv_icmp_eq (tgt := 601) hx hb dL_law_596 (by decide) (fun c_596 => ?_) (fun c_596 => absurd (by decide) c_596)
        refine lv_iload hx hb dL_law_601 (lv_at hl 1 rfl) ?_
        refine lv_if_ne (tgt := 618) hx hb dL_law_603 (by decide) (fun c_603 => absurd (by decide) c_603) (fun c_603 => ?_)
        refine lv_aload_n hx hb dL_law_606 rfl (lv_at hl 5 rfl) ?_
        refine lv_iconst (v := (nI 0)) hx hb dL_law_607 (by decide) ?_
        refine n_lald hx hb hK hP 14 2 rfl rfl 0 (by omega) (by omega) dL_law_608 ?_
        refine lv_iload hx hb dL_law_609 (lv_at hl 0 rfl) ?_
        refine lv_i2l (v := Int32.toInt64 0) hx hb dL_law_611 rfl ?_
        refine W.lcmp hx hb dL_law_612 ?_
        refine lv_if_eq (tgt := 618) hx hb dL_law_613 (by decide) (fun c_613 => ?_) (fun c_613 => absurd (by rw [pk_uLs]; exact lg_self _) c_613)
        refine lv_goto (tgt := 1176) hx hb dL_law_618 (by decide) ?_
        refine W.widen (k := 15 + (j9 + 1)) (n := 199844 + 6 * (j9 + 1)) (by omega) (by omega) ?_
        refine lv_iinc (v := nI (4 * (j9 + 1))) (lv' := [(4, .int (nI (4 * (j9 + 1)))), (6, .int 0), (5, .int 0), (0, .ref b), (1, .ref h0), (2, .ref g0), (3, .ref oj)]) hx hb dL_law_1176 hl (k := 6) rfl (nI_add (4 * j9) 4) (by decide) rfl (fun ls hl => ?_)
        refine lv_goto (tgt := 23) hx hb dL_law_1179 (by decide) ?_
        exact IH bf pw hs lo lg rt nb fi fo en 1 0 cu ma 0 (vp_updL og 0 (Int32.toInt64 0)) _ _ _ (Or.inr ⟨rfl, rfl⟩) (by omega) (by omega) (by omega) hcu hP hD hS (lv_sub hl [3, 4, 5, 6, 0] rfl)
      · have h3 : fo ≤ pl := by omega
        cases hcut : fcut (pl - fo) cu with
        | false =>
          have hP : va_P D vwCl (wC h0 a0 a1 a2 a3 a4 a5 cI cZ bf pw hs lo lg rt nb (nI fi) (nI fo) (nI en) 1 cu ma ++ (wM g0 b0 b1 b2 b3 b4 b5 cI cZ th bf pw hs lo lg rt nb (nI fi) (nI fo) (nI en) 0 cu ma ++ wO oj cJ og)) H := hP
          have hD : va_D A (wC h0 a0 a1 a2 a3 a4 a5 cI cZ bf pw hs lo lg rt nb (nI fi) (nI fo) (nI en) 1 cu ma ++ (wM g0 b0 b1 b2 b3 b4 b5 cI cZ th bf pw hs lo lg rt nb (nI fi) (nI fo) (nI en) 0 cu ma ++ wO oj cJ og)) := hD
          refine lv_aload_n hx hb dL_law_565 rfl (lv_at hl 1 rfl) ?_
          refine lv_aload_n hx hb dL_law_566 rfl (lv_at hl 0 rfl) ?_
          refine lv_iload hx hb dL_law_567 (lv_at hl 4 rfl) ?_
          refine lv_iconst (v := (nI 1)) hx hb dL_law_569 (by decide) ?_
          refine n_iadd hx hb dL_law_570 ?_
          refine n_sld hx hb hX hbl hbA hS (4 * j9 + 1) (by omega) (by omega) ((nI pl)) ex dL_law_571 ?_
          refine lv_aload_n hx hb dL_law_572 rfl (lv_at hl 3 rfl) ?_
          refine k_I (wr := wM g0 b0 b1 b2 b3 b4 b5 cI cZ th bf pw hs lo lg rt nb (nI fi) (nI fo) (nI en) 0 cu ma) hP hD hS hA (vx_runSW (As := [.ref h0, .int (nI pl), .ref oj]) (rest := []) ⟨hx, hb, hml, hown, hts⟩ (tL_force_ok hl0 bf pw hs lo lg rt nb fi fo en cu ma pl h1 h2 h3 (by omega) hcut oj og _) (vx_cwSW 3 hts gL_law_L_force rfl rfl rfl (by decide +kernel) ⟨Nat.le_of_ble_eq_true rfl, Nat.le_of_ble_eq_true rfl⟩) (pS_X hP hD hK hS hA hT [0, 1, 2] rfl [0, 1, 2, 3, 4, 5, 6, 14] rfl rfl) rfl rfl hl.1 rfl (lv_room (Nat.le_of_ble_eq_true rfl)) dL_law_573 hc1) [0, 1, 2, 3, 4, 5, 6, 14] [7, 8, 9, 10, 11, 12, 13] rfl rfl rfl (by decide) (fun H locs hP hD hS => ?_)
          have hP : va_P D vwCl (wC h0 a0 a1 a2 a3 a4 a5 cI cZ bf pw hs lo lg rt nb (nI fi) (nI pl) (nI en) 1 (fcu (pl - fo) cu) (fma (pl - fo) cu ma) ++ (wM g0 b0 b1 b2 b3 b4 b5 cI cZ th bf pw hs lo lg rt nb (nI fi) (nI fo) (nI en) 0 cu ma ++ wO oj cJ (vp_updL og 0 (Int32.toInt64 (nI (pl - fo)))))) H := hP.sub [7, 8, 9, 10, 11, 12, 13, 0, 1, 2, 3, 4, 5, 6, 14] rfl
          have hD : va_D A (wC h0 a0 a1 a2 a3 a4 a5 cI cZ bf pw hs lo lg rt nb (nI fi) (nI pl) (nI en) 1 (fcu (pl - fo) cu) (fma (pl - fo) cu ma) ++ (wM g0 b0 b1 b2 b3 b4 b5 cI cZ th bf pw hs lo lg rt nb (nI fi) (nI fo) (nI en) 0 cu ma ++ wO oj cJ (vp_updL og 0 (Int32.toInt64 (nI (pl - fo)))))) := hD.sub [7, 8, 9, 10, 11, 12, 13, 0, 1, 2, 3, 4, 5, 6, 14] (by decide) rfl
          refine lv_istore (lv' := [(5, .int 0), (0, .ref b), (1, .ref h0), (2, .ref g0), (3, .ref oj), (4, .int (nI (4 * j9)))]) hx hb dL_law_576 hl (by decide) rfl (fun ls hl => ?_)
          refine lv_aload_n hx hb dL_law_578 rfl (lv_at hl 3 rfl) ?_
          refine lv_aload_n hx hb dL_law_579 rfl (lv_at hl 1 rfl) ?_
          refine lv_iload hx hb dL_law_580 (lv_at hl 5 rfl) ?_
          refine lv_iconst (v := (nI 1)) hx hb dL_law_582 (by decide) ?_
          refine n_iadd hx hb dL_law_583 ?_
          refine n_sld hx hb hX hbl hbA hS (4 * j9 + 1) (by omega) (by omega) ((nI pl)) ex dL_law_584 ?_
          refine k_I (wr := wC h0 a0 a1 a2 a3 a4 a5 cI cZ bf pw hs lo lg rt nb (nI fi) (nI pl) (nI en) 1 (fcu (pl - fo) cu) (fma (pl - fo) cu ma) ++ wO oj cJ (vp_updL og 0 (Int32.toInt64 (nI (pl - fo))))) hP hD hS hA (va_runV (As := [.int (nI pl)]) (rest := []) ⟨hx, hb, hml, hown, hts⟩ (tX1_force_ok th bf pw hs lo lg rt nb fi fo en cu ma pl h1 h2 h3 (by omega) hcu hcut _) (cwV 1 hts gL_law_X1_force rfl rfl rfl (by decide +kernel) ⟨Nat.le_of_ble_eq_true rfl, Nat.le_of_ble_eq_true rfl⟩) (pV_B hP hD hK (ci := 1) (q0 := 7) rfl rfl rfl [0, 1] rfl [7, 8, 9, 10, 11, 12, 13] rfl rfl) rfl rfl hl.1 rfl (lv_room (Nat.le_of_ble_eq_true rfl)) dL_law_585 hc9) [7, 8, 9, 10, 11, 12, 13] [0, 1, 2, 3, 4, 5, 6, 14] rfl rfl rfl (by decide) (fun H locs hP hD hS => ?_)
          have hP : va_P D vwCl (wC h0 a0 a1 a2 a3 a4 a5 cI cZ bf pw hs lo lg rt nb (nI fi) (nI pl) (nI en) 1 (fcu (pl - fo) cu) (fma (pl - fo) cu ma) ++ (wM g0 b0 b1 b2 b3 b4 b5 cI cZ 0 bf pw hs lo lg rt nb (nI fi) (nI pl) (nI en) 0 (fcu (pl - fo) cu) (fma (pl - fo) cu ma) ++ wO oj cJ (vp_updL og 0 (Int32.toInt64 (nI (pl - fo)))))) H := hP.sub [0, 1, 2, 3, 4, 5, 6, 8, 9, 10, 11, 12, 13, 14, 7] rfl
          have hD : va_D A (wC h0 a0 a1 a2 a3 a4 a5 cI cZ bf pw hs lo lg rt nb (nI fi) (nI pl) (nI en) 1 (fcu (pl - fo) cu) (fma (pl - fo) cu ma) ++ (wM g0 b0 b1 b2 b3 b4 b5 cI cZ 0 bf pw hs lo lg rt nb (nI fi) (nI pl) (nI en) 0 (fcu (pl - fo) cu) (fma (pl - fo) cu ma) ++ wO oj cJ (vp_updL og 0 (Int32.toInt64 (nI (pl - fo)))))) := hD.sub [0, 1, 2, 3, 4, 5, 6, 8, 9, 10, 11, 12, 13, 14, 7] (by decide) rfl
          refine lv_istore (lv' := [(6, .int (nI (pl - fo))), (5, .int 0), (0, .ref b), (1, .ref h0), (2, .ref g0), (3, .ref oj), (4, .int (nI (4 * j9)))]) hx hb dL_law_588 hl (by decide) rfl (fun ls hl => ?_)
          refine lv_aload_n hx hb dL_law_590 rfl (lv_at hl 4 rfl) ?_
          refine k_I (wr := wC h0 a0 a1 a2 a3 a4 a5 cI cZ bf pw hs lo lg rt nb (nI fi) (nI pl) (nI en) 1 (fcu (pl - fo) cu) (fma (pl - fo) cu ma) ++ wO oj cJ (vp_updL og 0 (Int32.toInt64 (nI (pl - fo))))) hP hD hS hA (va_runV (As := []) (rest := []) ⟨hx, hb, hml, hown, hts⟩ (tX1_thrown 0 bf pw hs lo lg rt nb fi pl en 0 (fcu (pl - fo) cu) (fma (pl - fo) cu ma) _) (cwV 0 hts gL_law_X1_thrown rfl rfl rfl (by decide +kernel) ⟨Nat.le_of_ble_eq_true rfl, Nat.le_of_ble_eq_true rfl⟩) (pV_B hP hD hK (ci := 1) (q0 := 7) rfl rfl rfl [0, 1] rfl [7, 8, 9, 10, 11, 12, 13] rfl rfl) rfl rfl hl.1 rfl (lv_room (Nat.le_of_ble_eq_true rfl)) dL_law_591 hc9) [7, 8, 9, 10, 11, 12, 13] [0, 1, 2, 3, 4, 5, 6, 14] rfl rfl rfl (by decide) (fun H locs hP hD hS => ?_)
          have hP : va_P D vwCl (wC h0 a0 a1 a2 a3 a4 a5 cI cZ bf pw hs lo lg rt nb (nI fi) (nI pl) (nI en) 1 (fcu (pl - fo) cu) (fma (pl - fo) cu ma) ++ (wM g0 b0 b1 b2 b3 b4 b5 cI cZ 0 bf pw hs lo lg rt nb (nI fi) (nI pl) (nI en) 0 (fcu (pl - fo) cu) (fma (pl - fo) cu ma) ++ wO oj cJ (vp_updL og 0 (Int32.toInt64 (nI (pl - fo)))))) H := hP.sub [0, 1, 2, 3, 4, 5, 6, 8, 9, 10, 11, 12, 13, 14, 7] rfl
          have hD : va_D A (wC h0 a0 a1 a2 a3 a4 a5 cI cZ bf pw hs lo lg rt nb (nI fi) (nI pl) (nI en) 1 (fcu (pl - fo) cu) (fma (pl - fo) cu ma) ++ (wM g0 b0 b1 b2 b3 b4 b5 cI cZ 0 bf pw hs lo lg rt nb (nI fi) (nI pl) (nI en) 0 (fcu (pl - fo) cu) (fma (pl - fo) cu ma) ++ wO oj cJ (vp_updL og 0 (Int32.toInt64 (nI (pl - fo)))))) := hD.sub [0, 1, 2, 3, 4, 5, 6, 8, 9, 10, 11, 12, 13, 14, 7] (by decide) rfl
          refine lv_iload hx hb dL_law_594 (lv_at hl 1 rfl) ?_
          refine lv_icmp_eq (tgt := 601) hx hb dL_law_596 (by decide) (fun c_596 => ?_) (fun c_596 => absurd (by decide) c_596)
          refine lv_iload hx hb dL_law_601 (lv_at hl 1 rfl) ?_
          refine lv_if_ne (tgt := 618) hx hb dL_law_603 (by decide) (fun c_603 => absurd (by decide) c_603) (fun c_603 => ?_)
          refine lv_aload_n hx hb dL_law_606 rfl (lv_at hl 5 rfl) ?_
          refine lv_iconst (v := (nI 0)) hx hb dL_law_607 (by decide) ?_
          refine n_lald hx hb hK hP 14 2 rfl rfl 0 (by omega) (by omega) dL_law_608 ?_
          refine lv_iload hx hb dL_law_609 (lv_at hl 0 rfl) ?_
          refine lv_i2l (v := Int32.toInt64 (nI (pl - fo))) hx hb dL_law_611 rfl ?_
          refine W.lcmp hx hb dL_law_612 ?_
          refine lv_if_eq (tgt := 618) hx hb dL_law_613 (by decide) (fun c_613 => ?_) (fun c_613 => absurd (by rw [pk_uLs]; exact lg_self _) c_613)
          refine lv_goto (tgt := 1176) hx hb dL_law_618 (by decide) ?_
          refine W.widen (k := 15 + (j9 + 1)) (n := 199844 + 6 * (j9 + 1)) (by omega) (by omega) ?_
          refine lv_iinc (v := nI (4 * (j9 + 1))) (lv' := [(4, .int (nI (4 * (j9 + 1)))), (6, .int (nI (pl - fo))), (5, .int 0), (0, .ref b), (1, .ref h0), (2, .ref g0), (3, .ref oj)]) hx hb dL_law_1176 hl (k := 6) rfl (nI_add (4 * j9) 4) (by decide) rfl (fun ls hl => ?_)
          refine lv_goto (tgt := 23) hx hb dL_law_1179 (by decide) ?_
          exact IH bf pw hs lo lg rt nb fi pl en 1 0 (fcu (pl - fo) cu) (fma (pl - fo) cu ma) 0 (vp_updL og 0 (Int32.toInt64 (nI (pl - fo)))) _ _ _ (Or.inr ⟨rfl, rfl⟩) (by omega) (by omega) (by omega) (fcu_ge _ _ hcu) hP hD hS (lv_sub hl [3, 4, 5, 6, 0] rfl)
        | true =>
          have hmk := fmk_le (pl - fo) cu
          have hP : va_P D vwCl (wC h0 a0 a1 a2 a3 a4 a5 cI cZ bf pw hs lo lg rt nb (nI fi) (nI fo) (nI en) 1 cu ma ++ (wM g0 b0 b1 b2 b3 b4 b5 cI cZ th bf pw hs lo lg rt nb (nI fi) (nI fo) (nI en) 0 cu ma ++ wO oj cJ og)) H := hP
          have hD : va_D A (wC h0 a0 a1 a2 a3 a4 a5 cI cZ bf pw hs lo lg rt nb (nI fi) (nI fo) (nI en) 1 cu ma ++ (wM g0 b0 b1 b2 b3 b4 b5 cI cZ th bf pw hs lo lg rt nb (nI fi) (nI fo) (nI en) 0 cu ma ++ wO oj cJ og)) := hD
          refine lv_aload_n hx hb dL_law_565 rfl (lv_at hl 1 rfl) ?_
          refine lv_aload_n hx hb dL_law_566 rfl (lv_at hl 0 rfl) ?_
          refine lv_iload hx hb dL_law_567 (lv_at hl 4 rfl) ?_
          refine lv_iconst (v := (nI 1)) hx hb dL_law_569 (by decide) ?_
          refine n_iadd hx hb dL_law_570 ?_
          refine n_sld hx hb hX hbl hbA hS (4 * j9 + 1) (by omega) (by omega) ((nI pl)) ex dL_law_571 ?_
          refine lv_aload_n hx hb dL_law_572 rfl (lv_at hl 3 rfl) ?_
          refine k_I (wr := wM g0 b0 b1 b2 b3 b4 b5 cI cZ th bf pw hs lo lg rt nb (nI fi) (nI fo) (nI en) 0 cu ma) hP hD hS hA (vx_runSW (As := [.ref h0, .int (nI pl), .ref oj]) (rest := []) ⟨hx, hb, hml, hown, hts⟩ (tL_force_cut hl0 bf pw hs lo lg rt nb fi fo en cu ma pl h1 h2 h3 (by omega) hcut oj og _) (vx_cwSW 3 hts gL_law_L_force rfl rfl rfl (by decide +kernel) ⟨Nat.le_of_ble_eq_true rfl, Nat.le_of_ble_eq_true rfl⟩) (pS_X hP hD hK hS hA hT [0, 1, 2] rfl [0, 1, 2, 3, 4, 5, 6, 14] rfl rfl) rfl rfl hl.1 rfl (lv_room (Nat.le_of_ble_eq_true rfl)) dL_law_573 hc1) [0, 1, 2, 3, 4, 5, 6, 14] [7, 8, 9, 10, 11, 12, 13] rfl rfl rfl (by decide) (fun H locs hP hD hS => ?_)
          have hP : va_P D vwCl (wC h0 a0 a1 a2 a3 a4 a5 cI cZ (zf bf) pw hs lo lg rt nb (nI fi) (nI (fo + fmk (pl - fo) cu)) (nI (fo + fmk (pl - fo) cu)) 0 (fcu (pl - fo) cu) (fma (pl - fo) cu ma) ++ (wM g0 b0 b1 b2 b3 b4 b5 cI cZ th bf pw hs lo lg rt nb (nI fi) (nI fo) (nI en) 0 cu ma ++ wO oj cJ (vp_updL og 0 (Int32.toInt64 (-1))))) H := hP.sub [7, 8, 9, 10, 11, 12, 13, 0, 1, 2, 3, 4, 5, 6, 14] rfl
          have hD : va_D A (wC h0 a0 a1 a2 a3 a4 a5 cI cZ (zf bf) pw hs lo lg rt nb (nI fi) (nI (fo + fmk (pl - fo) cu)) (nI (fo + fmk (pl - fo) cu)) 0 (fcu (pl - fo) cu) (fma (pl - fo) cu ma) ++ (wM g0 b0 b1 b2 b3 b4 b5 cI cZ th bf pw hs lo lg rt nb (nI fi) (nI fo) (nI en) 0 cu ma ++ wO oj cJ (vp_updL og 0 (Int32.toInt64 (-1))))) := hD.sub [7, 8, 9, 10, 11, 12, 13, 0, 1, 2, 3, 4, 5, 6, 14] (by decide) rfl
          refine lv_istore (lv' := [(5, .int 0), (0, .ref b), (1, .ref h0), (2, .ref g0), (3, .ref oj), (4, .int (nI (4 * j9)))]) hx hb dL_law_576 hl (by decide) rfl (fun ls hl => ?_)
          refine lv_aload_n hx hb dL_law_578 rfl (lv_at hl 3 rfl) ?_
          refine lv_aload_n hx hb dL_law_579 rfl (lv_at hl 1 rfl) ?_
          refine lv_iload hx hb dL_law_580 (lv_at hl 5 rfl) ?_
          refine lv_iconst (v := (nI 1)) hx hb dL_law_582 (by decide) ?_
          refine n_iadd hx hb dL_law_583 ?_
          refine n_sld hx hb hX hbl hbA hS (4 * j9 + 1) (by omega) (by omega) ((nI pl)) ex dL_law_584 ?_
          refine k_I (wr := wC h0 a0 a1 a2 a3 a4 a5 cI cZ (zf bf) pw hs lo lg rt nb (nI fi) (nI (fo + fmk (pl - fo) cu)) (nI (fo + fmk (pl - fo) cu)) 0 (fcu (pl - fo) cu) (fma (pl - fo) cu ma) ++ wO oj cJ (vp_updL og 0 (Int32.toInt64 (-1)))) hP hD hS hA (va_runV (As := [.int (nI pl)]) (rest := []) ⟨hx, hb, hml, hown, hts⟩ (tX1_force_cut th bf pw hs lo lg rt nb fi fo en cu ma pl h1 h2 h3 (by omega) hcu hcut _) (cwV 1 hts gL_law_X1_force rfl rfl rfl (by decide +kernel) ⟨Nat.le_of_ble_eq_true rfl, Nat.le_of_ble_eq_true rfl⟩) (pV_B hP hD hK (ci := 1) (q0 := 7) rfl rfl rfl [0, 1] rfl [7, 8, 9, 10, 11, 12, 13] rfl rfl) rfl rfl hl.1 rfl (lv_room (Nat.le_of_ble_eq_true rfl)) dL_law_585 hc9) [7, 8, 9, 10, 11, 12, 13] [0, 1, 2, 3, 4, 5, 6, 14] rfl rfl rfl (by decide) (fun H locs hP hD hS => ?_)
          have hP : va_P D vwCl (wC h0 a0 a1 a2 a3 a4 a5 cI cZ (zf bf) pw hs lo lg rt nb (nI fi) (nI (fo + fmk (pl - fo) cu)) (nI (fo + fmk (pl - fo) cu)) 0 (fcu (pl - fo) cu) (fma (pl - fo) cu ma) ++ (wM g0 b0 b1 b2 b3 b4 b5 cI cZ 0 (zf bf) pw hs lo lg rt nb (nI fi) (nI (fo + fmk (pl - fo) cu)) (nI (fo + fmk (pl - fo) cu)) 1 (fcu (pl - fo) cu) (fma (pl - fo) cu ma) ++ wO oj cJ (vp_updL og 0 (Int32.toInt64 (-1))))) H := hP.sub [0, 1, 2, 3, 4, 5, 6, 8, 9, 10, 11, 12, 13, 14, 7] rfl
          have hD : va_D A (wC h0 a0 a1 a2 a3 a4 a5 cI cZ (zf bf) pw hs lo lg rt nb (nI fi) (nI (fo + fmk (pl - fo) cu)) (nI (fo + fmk (pl - fo) cu)) 0 (fcu (pl - fo) cu) (fma (pl - fo) cu ma) ++ (wM g0 b0 b1 b2 b3 b4 b5 cI cZ 0 (zf bf) pw hs lo lg rt nb (nI fi) (nI (fo + fmk (pl - fo) cu)) (nI (fo + fmk (pl - fo) cu)) 1 (fcu (pl - fo) cu) (fma (pl - fo) cu ma) ++ wO oj cJ (vp_updL og 0 (Int32.toInt64 (-1))))) := hD.sub [0, 1, 2, 3, 4, 5, 6, 8, 9, 10, 11, 12, 13, 14, 7] (by decide) rfl
          refine lv_istore (lv' := [(6, .int (-1)), (5, .int 0), (0, .ref b), (1, .ref h0), (2, .ref g0), (3, .ref oj), (4, .int (nI (4 * j9)))]) hx hb dL_law_588 hl (by decide) rfl (fun ls hl => ?_)
          refine lv_aload_n hx hb dL_law_590 rfl (lv_at hl 4 rfl) ?_
          refine k_I (wr := wC h0 a0 a1 a2 a3 a4 a5 cI cZ (zf bf) pw hs lo lg rt nb (nI fi) (nI (fo + fmk (pl - fo) cu)) (nI (fo + fmk (pl - fo) cu)) 0 (fcu (pl - fo) cu) (fma (pl - fo) cu ma) ++ wO oj cJ (vp_updL og 0 (Int32.toInt64 (-1)))) hP hD hS hA (va_runV (As := []) (rest := []) ⟨hx, hb, hml, hown, hts⟩ (tX1_thrown 0 (zf bf) pw hs lo lg rt nb fi (fo + fmk (pl - fo) cu) (fo + fmk (pl - fo) cu) 1 (fcu (pl - fo) cu) (fma (pl - fo) cu ma) _) (cwV 0 hts gL_law_X1_thrown rfl rfl rfl (by decide +kernel) ⟨Nat.le_of_ble_eq_true rfl, Nat.le_of_ble_eq_true rfl⟩) (pV_B hP hD hK (ci := 1) (q0 := 7) rfl rfl rfl [0, 1] rfl [7, 8, 9, 10, 11, 12, 13] rfl rfl) rfl rfl hl.1 rfl (lv_room (Nat.le_of_ble_eq_true rfl)) dL_law_591 hc9) [7, 8, 9, 10, 11, 12, 13] [0, 1, 2, 3, 4, 5, 6, 14] rfl rfl rfl (by decide) (fun H locs hP hD hS => ?_)
          have hP : va_P D vwCl (wC h0 a0 a1 a2 a3 a4 a5 cI cZ (zf bf) pw hs lo lg rt nb (nI fi) (nI (fo + fmk (pl - fo) cu)) (nI (fo + fmk (pl - fo) cu)) 0 (fcu (pl - fo) cu) (fma (pl - fo) cu ma) ++ (wM g0 b0 b1 b2 b3 b4 b5 cI cZ 0 (zf bf) pw hs lo lg rt nb (nI fi) (nI (fo + fmk (pl - fo) cu)) (nI (fo + fmk (pl - fo) cu)) 1 (fcu (pl - fo) cu) (fma (pl - fo) cu ma) ++ wO oj cJ (vp_updL og 0 (Int32.toInt64 (-1))))) H := hP.sub [0, 1, 2, 3, 4, 5, 6, 8, 9, 10, 11, 12, 13, 14, 7] rfl
          have hD : va_D A (wC h0 a0 a1 a2 a3 a4 a5 cI cZ (zf bf) pw hs lo lg rt nb (nI fi) (nI (fo + fmk (pl - fo) cu)) (nI (fo + fmk (pl - fo) cu)) 0 (fcu (pl - fo) cu) (fma (pl - fo) cu ma) ++ (wM g0 b0 b1 b2 b3 b4 b5 cI cZ 0 (zf bf) pw hs lo lg rt nb (nI fi) (nI (fo + fmk (pl - fo) cu)) (nI (fo + fmk (pl - fo) cu)) 1 (fcu (pl - fo) cu) (fma (pl - fo) cu ma) ++ wO oj cJ (vp_updL og 0 (Int32.toInt64 (-1))))) := hD.sub [0, 1, 2, 3, 4, 5, 6, 8, 9, 10, 11, 12, 13, 14, 7] (by decide) rfl
          refine lv_iload hx hb dL_law_594 (lv_at hl 1 rfl) ?_
          refine lv_icmp_eq (tgt := 601) hx hb dL_law_596 (by decide) (fun c_596 => ?_) (fun c_596 => absurd (by decide) c_596)
          refine lv_iload hx hb dL_law_601 (lv_at hl 1 rfl) ?_
          refine lv_if_ne (tgt := 618) hx hb dL_law_603 (by decide) (fun c_603 => absurd (by decide) c_603) (fun c_603 => ?_)
          refine lv_aload_n hx hb dL_law_606 rfl (lv_at hl 5 rfl) ?_
          refine lv_iconst (v := (nI 0)) hx hb dL_law_607 (by decide) ?_
          refine n_lald hx hb hK hP 14 2 rfl rfl 0 (by omega) (by omega) dL_law_608 ?_
          refine lv_iload hx hb dL_law_609 (lv_at hl 0 rfl) ?_
          refine lv_i2l (v := Int32.toInt64 (-1)) hx hb dL_law_611 rfl ?_
          refine W.lcmp hx hb dL_law_612 ?_
          refine lv_if_eq (tgt := 618) hx hb dL_law_613 (by decide) (fun c_613 => ?_) (fun c_613 => absurd (by rw [pk_uLs]; exact lg_self _) c_613)
          refine lv_goto (tgt := 1176) hx hb dL_law_618 (by decide) ?_
          refine W.widen (k := 15 + (j9 + 1)) (n := 199844 + 6 * (j9 + 1)) (by omega) (by omega) ?_
          refine lv_iinc (v := nI (4 * (j9 + 1))) (lv' := [(4, .int (nI (4 * (j9 + 1)))), (6, .int (-1)), (5, .int 0), (0, .ref b), (1, .ref h0), (2, .ref g0), (3, .ref oj)]) hx hb dL_law_1176 hl (k := 6) rfl (nI_add (4 * j9) 4) (by decide) rfl (fun ls hl => ?_)
          refine lv_goto (tgt := 23) hx hb dL_law_1179 (by decide) ?_
          exact IH (zf bf) pw hs lo lg rt nb fi (fo + fmk (pl - fo) cu) (fo + fmk (pl - fo) cu) 0 1 (fcu (pl - fo) cu) (fma (pl - fo) cu ma) 0 (vp_updL og 0 (Int32.toInt64 (-1))) _ _ _ (Or.inl ⟨rfl, rfl⟩) (by omega) (by omega) (by omega) (fcu_ge _ _ hcu) hP hD hS (lv_sub hl [3, 4, 5, 6, 0] rfl)
set_option maxHeartbeats 4000000 in
set_option maxRecDepth 100000 in
theorem lo_readLog {p : Program} {l : Launch} {e : Env} {s : State} {m : MethodId} {below : List Frame} {meth : Method} {c : Code} {Q : State → Prop} {D : va_G} {A : Nat → Prop} {cI cZ cJ : ClassId} {b L : Nat} {xs : Nat → Int32} {h0 a0 a1 a2 a3 a4 a5 g0 b0 b1 b2 b3 b4 b5 oj : Nat} (hl0 : l.stackTraces = false) (hx : p.tables.exec = Jvm.exec) (hb : c.code = code) (hml : c.maxLocals = 7) (hown : s.vm.findClass RL = some m.cls) (hts : ∀ w ∈ wsL_law, w.before #[Value.ref b] s = true) (hX : va_X b L xs s s.heap) (hbl : b < s.heap.size) (hbA : ¬ A b) (hA : ∀ q : Nat, s.heap.size ≤ q → A q) (hK : va_K D vwCl (tyL cI cZ cJ) s) (hT : xT A s s.heap) (hL : L ≤ 2048) (j9 : Nat) (hj : 4 * j9 + 4 ≤ L)
    (IH : lgW p l e s m below meth c Q D A cI cZ cJ b h0 a0 a1 a2 a3 a4 a5 g0 b0 b1 b2 b3 b4 b5 oj (j9 + 1))
    (bf pw hs lo lg rt : Nat → Int32) (nb : Int32) (fi fo en : Nat) (on off cu ma th : Int32) (og : Nat → Int64) (H : Heap) (locs : List Loc) (ls : Array Slot) (hpo : (on = 0 ∧ off = 1) ∨ (on = 1 ∧ off = 0)) (hi1 : fi ≤ fo) (hi2 : fo ≤ en) (hi3 : en ≤ 64 * j9) (hcu : -1 ≤ cu)
    (hP : va_P D vwCl (wA h0 a0 a1 a2 a3 a4 a5 g0 b0 b1 b2 b3 b4 b5 oj cI cZ cJ bf pw hs lo lg rt nb fi fo en on off cu ma th og) H) (hD : va_D A (wA h0 a0 a1 a2 a3 a4 a5 g0 b0 b1 b2 b3 b4 b5 oj cI cZ cJ bf pw hs lo lg rt nb fi fo en on off cu ma th og)) (hS : va_S A s.heap H locs) (hl : lv_has ls 7 [(0, .ref b), (1, .ref h0), (2, .ref g0), (3, .ref oj), (4, .int (nI (4 * j9)))]) :
    W p l e room_1 s m #[Value.ref b] below meth c H locs (15 + j9) (199844 + 6 * j9) Q (F0 m 621 ls []) := by
  have he : en ≤ 60000 := by omega
  have hc0 : 15 + j9 + 0 ≤ room_1.cells ∧ 199844 + 6 * j9 + 0 ≤ room_1.slots := ⟨show 15 + j9 + 0 ≤ 601024 by omega, show 199844 + 6 * j9 + 0 ≤ 7293034 by omega⟩
  have hc1 : 15 + j9 + 1 ≤ room_1.cells ∧ 199844 + 6 * j9 + 6 ≤ room_1.slots := ⟨show 15 + j9 + 1 ≤ 601024 by omega, show 199844 + 6 * j9 + 6 ≤ 7293034 by omega⟩
  have hc9 : 15 + j9 + 1 + 0 ≤ room_1.cells ∧ 199844 + 6 * j9 + 6 + 0 ≤ room_1.slots := hc1
  obtain ⟨x, ex⟩ : ∃ z9, xs (4 * j9 + 1) = z9 := ⟨_, rfl⟩
  obtain ⟨y, ey⟩ : ∃ z9, xs (4 * j9 + 2) = z9 := ⟨_, rfl⟩
  rcases hpo with ⟨rfl, rfl⟩ | ⟨rfl, rfl⟩
  · have hP : va_P D vwCl (wC h0 a0 a1 a2 a3 a4 a5 cI cZ bf pw hs lo lg rt nb (nI fi) (nI fo) (nI en) 0 cu ma ++ (wM g0 b0 b1 b2 b3 b4 b5 cI cZ th bf pw hs lo lg rt nb (nI fi) (nI fo) (nI en) 1 cu ma ++ wO oj cJ og)) H := hP
    have hD : va_D A (wC h0 a0 a1 a2 a3 a4 a5 cI cZ bf pw hs lo lg rt nb (nI fi) (nI fo) (nI en) 0 cu ma ++ (wM g0 b0 b1 b2 b3 b4 b5 cI cZ th bf pw hs lo lg rt nb (nI fi) (nI fo) (nI en) 1 cu ma ++ wO oj cJ og)) := hD
    refine lv_aload_n hx hb dL_law_621 rfl (lv_at hl 1 rfl) ?_
    refine lv_aload_n hx hb dL_law_622 rfl (lv_at hl 0 rfl) ?_
    refine lv_iload hx hb dL_law_623 (lv_at hl 4 rfl) ?_
    refine lv_iconst (v := (nI 1)) hx hb dL_law_625 (by decide) ?_
    refine n_iadd hx hb dL_law_626 ?_
    refine n_sld hx hb hX hbl hbA hS (4 * j9 + 1) (by omega) (by omega) (x) ex dL_law_627 ?_
    refine lv_aload_n hx hb dL_law_628 rfl (lv_at hl 0 rfl) ?_
    refine lv_iload hx hb dL_law_629 (lv_at hl 4 rfl) ?_
    refine lv_iconst (v := (nI 2)) hx hb dL_law_631 (by decide) ?_
    refine n_iadd hx hb dL_law_632 ?_
    refine n_sld hx hb hX hbl hbA hS (4 * j9 + 2) (by omega) (by omega) (y) ey dL_law_633 ?_
    refine k_I (wr := wM g0 b0 b1 b2 b3 b4 b5 cI cZ th bf pw hs lo lg rt nb (nI fi) (nI fo) (nI en) 1 cu ma ++ wO oj cJ og) hP hD hS hA (vx_runSW (As := [.ref h0, .int x, .int y]) (rest := []) ⟨hx, hb, hml, hown, hts⟩ (tL_readLog_x0 hl0 bf pw hs lo lg rt nb fi fo en cu ma x y oj og _) (vx_cwSW 3 hts gL_law_L_readLog rfl rfl rfl (by decide +kernel) ⟨Nat.le_of_ble_eq_true rfl, Nat.le_of_ble_eq_true rfl⟩) (pS_X hP hD hK hS hA hT [0, 1, 2] rfl [0, 1, 2, 3, 4, 5, 6] rfl rfl) rfl rfl hl.1 rfl (lv_room (Nat.le_of_ble_eq_true rfl)) dL_law_634 hc1) [0, 1, 2, 3, 4, 5, 6] [7, 8, 9, 10, 11, 12, 13, 14] rfl rfl rfl (by decide) (fun H locs hP hD hS => ?_)
    have hP : va_P D vwCl (wC h0 a0 a1 a2 a3 a4 a5 cI cZ bf pw hs lo lg rt nb (nI fi) (nI fo) (nI en) 0 cu ma ++ (wM g0 b0 b1 b2 b3 b4 b5 cI cZ th bf pw hs lo lg rt nb (nI fi) (nI fo) (nI en) 1 cu ma ++ wO oj cJ og)) H := hP.sub [8, 9, 10, 11, 12, 13, 14, 0, 1, 2, 3, 4, 5, 6, 7] rfl
    have hD : va_D A (wC h0 a0 a1 a2 a3 a4 a5 cI cZ bf pw hs lo lg rt nb (nI fi) (nI fo) (nI en) 0 cu ma ++ (wM g0 b0 b1 b2 b3 b4 b5 cI cZ th bf pw hs lo lg rt nb (nI fi) (nI fo) (nI en) 1 cu ma ++ wO oj cJ og)) := hD.sub [8, 9, 10, 11, 12, 13, 14, 0, 1, 2, 3, 4, 5, 6, 7] (by decide) rfl
    refine lv_istore (lv' := [(5, .int 1), (0, .ref b), (1, .ref h0), (2, .ref g0), (3, .ref oj), (4, .int (nI (4 * j9)))]) hx hb dL_law_637 hl (by decide) rfl (fun ls hl => ?_)
    refine lv_aload_n hx hb dL_law_639 rfl (lv_at hl 3 rfl) ?_
    refine lv_aload_n hx hb dL_law_640 rfl (lv_at hl 1 rfl) ?_
    refine lv_iload hx hb dL_law_641 (lv_at hl 5 rfl) ?_
    refine lv_iconst (v := (nI 1)) hx hb dL_law_643 (by decide) ?_
    refine n_iadd hx hb dL_law_644 ?_
    refine n_sld hx hb hX hbl hbA hS (4 * j9 + 1) (by omega) (by omega) (x) ex dL_law_645 ?_
    refine lv_aload_n hx hb dL_law_646 rfl (lv_at hl 1 rfl) ?_
    refine lv_iload hx hb dL_law_647 (lv_at hl 5 rfl) ?_
    refine lv_iconst (v := (nI 2)) hx hb dL_law_649 (by decide) ?_
    refine n_iadd hx hb dL_law_650 ?_
    refine n_sld hx hb hX hbl hbA hS (4 * j9 + 2) (by omega) (by omega) (y) ey dL_law_651 ?_
    refine k_V (wr := wC h0 a0 a1 a2 a3 a4 a5 cI cZ bf pw hs lo lg rt nb (nI fi) (nI fo) (nI en) 0 cu ma ++ wO oj cJ og) hP hD hS hA (va_runV (As := [.int x, .int y]) (rest := []) ⟨hx, hb, hml, hown, hts⟩ (tX1_readLog_x0 th bf pw hs lo lg rt nb fi fo en cu ma x y _) (cwV 2 hts gL_law_X1_readLog rfl rfl rfl (by decide +kernel) ⟨Nat.le_of_ble_eq_true rfl, Nat.le_of_ble_eq_true rfl⟩) (pV_B hP hD hK (ci := 1) (q0 := 7) rfl rfl rfl [0, 1] rfl [7, 8, 9, 10, 11, 12, 13] rfl rfl) rfl rfl hl.1 rfl (lv_room (Nat.le_of_ble_eq_true rfl)) dL_law_652 hc9) [7, 8, 9, 10, 11, 12, 13] [0, 1, 2, 3, 4, 5, 6, 14] rfl rfl rfl (by decide) (fun H locs hP hD hS => ?_)
    have hP : va_P D vwCl (wC h0 a0 a1 a2 a3 a4 a5 cI cZ bf pw hs lo lg rt nb (nI fi) (nI fo) (nI en) 0 cu ma ++ (wM g0 b0 b1 b2 b3 b4 b5 cI cZ 1 bf pw hs lo lg rt nb (nI fi) (nI fo) (nI en) 1 cu ma ++ wO oj cJ og)) H := hP.sub [0, 1, 2, 3, 4, 5, 6, 8, 9, 10, 11, 12, 13, 14, 7] rfl
    have hD : va_D A (wC h0 a0 a1 a2 a3 a4 a5 cI cZ bf pw hs lo lg rt nb (nI fi) (nI fo) (nI en) 0 cu ma ++ (wM g0 b0 b1 b2 b3 b4 b5 cI cZ 1 bf pw hs lo lg rt nb (nI fi) (nI fo) (nI en) 1 cu ma ++ wO oj cJ og)) := hD.sub [0, 1, 2, 3, 4, 5, 6, 8, 9, 10, 11, 12, 13, 14, 7] (by decide) rfl
    refine lv_aload_n hx hb dL_law_655 rfl (lv_at hl 3 rfl) ?_
    refine k_I (wr := wC h0 a0 a1 a2 a3 a4 a5 cI cZ bf pw hs lo lg rt nb (nI fi) (nI fo) (nI en) 0 cu ma ++ wO oj cJ og) hP hD hS hA (va_runV (As := []) (rest := []) ⟨hx, hb, hml, hown, hts⟩ (tX1_thrown 1 bf pw hs lo lg rt nb fi fo en 1 cu ma _) (cwV 0 hts gL_law_X1_thrown rfl rfl rfl (by decide +kernel) ⟨Nat.le_of_ble_eq_true rfl, Nat.le_of_ble_eq_true rfl⟩) (pV_B hP hD hK (ci := 1) (q0 := 7) rfl rfl rfl [0, 1] rfl [7, 8, 9, 10, 11, 12, 13] rfl rfl) rfl rfl hl.1 rfl (lv_room (Nat.le_of_ble_eq_true rfl)) dL_law_656 hc9) [7, 8, 9, 10, 11, 12, 13] [0, 1, 2, 3, 4, 5, 6, 14] rfl rfl rfl (by decide) (fun H locs hP hD hS => ?_)
    have hP : va_P D vwCl (wC h0 a0 a1 a2 a3 a4 a5 cI cZ bf pw hs lo lg rt nb (nI fi) (nI fo) (nI en) 0 cu ma ++ (wM g0 b0 b1 b2 b3 b4 b5 cI cZ 1 bf pw hs lo lg rt nb (nI fi) (nI fo) (nI en) 1 cu ma ++ wO oj cJ og)) H := hP.sub [0, 1, 2, 3, 4, 5, 6, 8, 9, 10, 11, 12, 13, 14, 7] rfl
    have hD : va_D A (wC h0 a0 a1 a2 a3 a4 a5 cI cZ bf pw hs lo lg rt nb (nI fi) (nI fo) (nI en) 0 cu ma ++ (wM g0 b0 b1 b2 b3 b4 b5 cI cZ 1 bf pw hs lo lg rt nb (nI fi) (nI fo) (nI en) 1 cu ma ++ wO oj cJ og)) := hD.sub [0, 1, 2, 3, 4, 5, 6, 8, 9, 10, 11, 12, 13, 14, 7] (by decide) rfl
    refine lv_iload hx hb dL_law_659 (lv_at hl 0 rfl) ?_
    refine lv_icmp_eq (tgt := 666) hx hb dL_law_661 (by decide) (fun c_661 => ?_) (fun c_661 => absurd (by decide) c_661)
    refine lv_goto (tgt := 1176) hx hb dL_law_666 (by decide) ?_
    refine W.widen (k := 15 + (j9 + 1)) (n := 199844 + 6 * (j9 + 1)) (by omega) (by omega) ?_
    refine lv_iinc (v := nI (4 * (j9 + 1))) (lv' := [(4, .int (nI (4 * (j9 + 1)))), (5, .int 1), (0, .ref b), (1, .ref h0), (2, .ref g0), (3, .ref oj)]) hx hb dL_law_1176 hl (k := 5) rfl (nI_add (4 * j9) 4) (by decide) rfl (fun ls hl => ?_)
    refine lv_goto (tgt := 23) hx hb dL_law_1179 (by decide) ?_
    exact IH bf pw hs lo lg rt nb fi fo en 0 1 cu ma 1 og _ _ _ (Or.inl ⟨rfl, rfl⟩) (by omega) (by omega) (by omega) hcu hP hD hS (lv_sub hl [2, 3, 4, 5, 0] rfl)
  · rcases rl_cases fi en x y he (by omega) with h | ⟨pl, k, hk, hk2, h1, h2, rfl, rfl⟩
    · have hP : va_P D vwCl (wC h0 a0 a1 a2 a3 a4 a5 cI cZ bf pw hs lo lg rt nb (nI fi) (nI fo) (nI en) 1 cu ma ++ (wM g0 b0 b1 b2 b3 b4 b5 cI cZ th bf pw hs lo lg rt nb (nI fi) (nI fo) (nI en) 0 cu ma ++ wO oj cJ og)) H := hP
      have hD : va_D A (wC h0 a0 a1 a2 a3 a4 a5 cI cZ bf pw hs lo lg rt nb (nI fi) (nI fo) (nI en) 1 cu ma ++ (wM g0 b0 b1 b2 b3 b4 b5 cI cZ th bf pw hs lo lg rt nb (nI fi) (nI fo) (nI en) 0 cu ma ++ wO oj cJ og)) := hD
      refine lv_aload_n hx hb dL_law_621 rfl (lv_at hl 1 rfl) ?_
      refine lv_aload_n hx hb dL_law_622 rfl (lv_at hl 0 rfl) ?_
      refine lv_iload hx hb dL_law_623 (lv_at hl 4 rfl) ?_
      refine lv_iconst (v := (nI 1)) hx hb dL_law_625 (by decide) ?_
      refine n_iadd hx hb dL_law_626 ?_
      refine n_sld hx hb hX hbl hbA hS (4 * j9 + 1) (by omega) (by omega) (x) ex dL_law_627 ?_
      refine lv_aload_n hx hb dL_law_628 rfl (lv_at hl 0 rfl) ?_
      refine lv_iload hx hb dL_law_629 (lv_at hl 4 rfl) ?_
      refine lv_iconst (v := (nI 2)) hx hb dL_law_631 (by decide) ?_
      refine n_iadd hx hb dL_law_632 ?_
      refine n_sld hx hb hX hbl hbA hS (4 * j9 + 2) (by omega) (by omega) (y) ey dL_law_633 ?_
      refine k_I (wr := wM g0 b0 b1 b2 b3 b4 b5 cI cZ th bf pw hs lo lg rt nb (nI fi) (nI fo) (nI en) 0 cu ma ++ wO oj cJ og) hP hD hS hA (vx_runSW (As := [.ref h0, .int x, .int y]) (rest := []) ⟨hx, hb, hml, hown, hts⟩ (tL_readLog_xb hl0 bf pw hs lo lg rt nb fi fo en cu ma x y h oj og _) (vx_cwSW 3 hts gL_law_L_readLog rfl rfl rfl (by decide +kernel) ⟨Nat.le_of_ble_eq_true rfl, Nat.le_of_ble_eq_true rfl⟩) (pS_X hP hD hK hS hA hT [0, 1, 2] rfl [0, 1, 2, 3, 4, 5, 6] rfl rfl) rfl rfl hl.1 rfl (lv_room (Nat.le_of_ble_eq_true rfl)) dL_law_634 hc1) [0, 1, 2, 3, 4, 5, 6] [7, 8, 9, 10, 11, 12, 13, 14] rfl rfl rfl (by decide) (fun H locs hP hD hS => ?_)
      have hP : va_P D vwCl (wC h0 a0 a1 a2 a3 a4 a5 cI cZ bf pw hs lo lg rt nb (nI fi) (nI fo) (nI en) 1 cu ma ++ (wM g0 b0 b1 b2 b3 b4 b5 cI cZ th bf pw hs lo lg rt nb (nI fi) (nI fo) (nI en) 0 cu ma ++ wO oj cJ og)) H := hP.sub [8, 9, 10, 11, 12, 13, 14, 0, 1, 2, 3, 4, 5, 6, 7] rfl
      have hD : va_D A (wC h0 a0 a1 a2 a3 a4 a5 cI cZ bf pw hs lo lg rt nb (nI fi) (nI fo) (nI en) 1 cu ma ++ (wM g0 b0 b1 b2 b3 b4 b5 cI cZ th bf pw hs lo lg rt nb (nI fi) (nI fo) (nI en) 0 cu ma ++ wO oj cJ og)) := hD.sub [8, 9, 10, 11, 12, 13, 14, 0, 1, 2, 3, 4, 5, 6, 7] (by decide) rfl
      refine lv_istore (lv' := [(5, .int 2), (0, .ref b), (1, .ref h0), (2, .ref g0), (3, .ref oj), (4, .int (nI (4 * j9)))]) hx hb dL_law_637 hl (by decide) rfl (fun ls hl => ?_)
      refine lv_aload_n hx hb dL_law_639 rfl (lv_at hl 3 rfl) ?_
      refine lv_aload_n hx hb dL_law_640 rfl (lv_at hl 1 rfl) ?_
      refine lv_iload hx hb dL_law_641 (lv_at hl 5 rfl) ?_
      refine lv_iconst (v := (nI 1)) hx hb dL_law_643 (by decide) ?_
      refine n_iadd hx hb dL_law_644 ?_
      refine n_sld hx hb hX hbl hbA hS (4 * j9 + 1) (by omega) (by omega) (x) ex dL_law_645 ?_
      refine lv_aload_n hx hb dL_law_646 rfl (lv_at hl 1 rfl) ?_
      refine lv_iload hx hb dL_law_647 (lv_at hl 5 rfl) ?_
      refine lv_iconst (v := (nI 2)) hx hb dL_law_649 (by decide) ?_
      refine n_iadd hx hb dL_law_650 ?_
      refine n_sld hx hb hX hbl hbA hS (4 * j9 + 2) (by omega) (by omega) (y) ey dL_law_651 ?_
      refine k_V (wr := wC h0 a0 a1 a2 a3 a4 a5 cI cZ bf pw hs lo lg rt nb (nI fi) (nI fo) (nI en) 1 cu ma ++ wO oj cJ og) hP hD hS hA (va_runV (As := [.int x, .int y]) (rest := []) ⟨hx, hb, hml, hown, hts⟩ (tX1_readLog_xb th bf pw hs lo lg rt nb fi fo en cu ma x y h _) (cwV 2 hts gL_law_X1_readLog rfl rfl rfl (by decide +kernel) ⟨Nat.le_of_ble_eq_true rfl, Nat.le_of_ble_eq_true rfl⟩) (pV_B hP hD hK (ci := 1) (q0 := 7) rfl rfl rfl [0, 1] rfl [7, 8, 9, 10, 11, 12, 13] rfl rfl) rfl rfl hl.1 rfl (lv_room (Nat.le_of_ble_eq_true rfl)) dL_law_652 hc9) [7, 8, 9, 10, 11, 12, 13] [0, 1, 2, 3, 4, 5, 6, 14] rfl rfl rfl (by decide) (fun H locs hP hD hS => ?_)
      have hP : va_P D vwCl (wC h0 a0 a1 a2 a3 a4 a5 cI cZ bf pw hs lo lg rt nb (nI fi) (nI fo) (nI en) 1 cu ma ++ (wM g0 b0 b1 b2 b3 b4 b5 cI cZ 2 bf pw hs lo lg rt nb (nI fi) (nI fo) (nI en) 0 cu ma ++ wO oj cJ og)) H := hP.sub [0, 1, 2, 3, 4, 5, 6, 8, 9, 10, 11, 12, 13, 14, 7] rfl
      have hD : va_D A (wC h0 a0 a1 a2 a3 a4 a5 cI cZ bf pw hs lo lg rt nb (nI fi) (nI fo) (nI en) 1 cu ma ++ (wM g0 b0 b1 b2 b3 b4 b5 cI cZ 2 bf pw hs lo lg rt nb (nI fi) (nI fo) (nI en) 0 cu ma ++ wO oj cJ og)) := hD.sub [0, 1, 2, 3, 4, 5, 6, 8, 9, 10, 11, 12, 13, 14, 7] (by decide) rfl
      refine lv_aload_n hx hb dL_law_655 rfl (lv_at hl 3 rfl) ?_
      refine k_I (wr := wC h0 a0 a1 a2 a3 a4 a5 cI cZ bf pw hs lo lg rt nb (nI fi) (nI fo) (nI en) 1 cu ma ++ wO oj cJ og) hP hD hS hA (va_runV (As := []) (rest := []) ⟨hx, hb, hml, hown, hts⟩ (tX1_thrown 2 bf pw hs lo lg rt nb fi fo en 0 cu ma _) (cwV 0 hts gL_law_X1_thrown rfl rfl rfl (by decide +kernel) ⟨Nat.le_of_ble_eq_true rfl, Nat.le_of_ble_eq_true rfl⟩) (pV_B hP hD hK (ci := 1) (q0 := 7) rfl rfl rfl [0, 1] rfl [7, 8, 9, 10, 11, 12, 13] rfl rfl) rfl rfl hl.1 rfl (lv_room (Nat.le_of_ble_eq_true rfl)) dL_law_656 hc9) [7, 8, 9, 10, 11, 12, 13] [0, 1, 2, 3, 4, 5, 6, 14] rfl rfl rfl (by decide) (fun H locs hP hD hS => ?_)
      have hP : va_P D vwCl (wC h0 a0 a1 a2 a3 a4 a5 cI cZ bf pw hs lo lg rt nb (nI fi) (nI fo) (nI en) 1 cu ma ++ (wM g0 b0 b1 b2 b3 b4 b5 cI cZ 2 bf pw hs lo lg rt nb (nI fi) (nI fo) (nI en) 0 cu ma ++ wO oj cJ og)) H := hP.sub [0, 1, 2, 3, 4, 5, 6, 8, 9, 10, 11, 12, 13, 14, 7] rfl
      have hD : va_D A (wC h0 a0 a1 a2 a3 a4 a5 cI cZ bf pw hs lo lg rt nb (nI fi) (nI fo) (nI en) 1 cu ma ++ (wM g0 b0 b1 b2 b3 b4 b5 cI cZ 2 bf pw hs lo lg rt nb (nI fi) (nI fo) (nI en) 0 cu ma ++ wO oj cJ og)) := hD.sub [0, 1, 2, 3, 4, 5, 6, 8, 9, 10, 11, 12, 13, 14, 7] (by decide) rfl
      refine lv_iload hx hb dL_law_659 (lv_at hl 0 rfl) ?_
      refine lv_icmp_eq (tgt := 666) hx hb dL_law_661 (by decide) (fun c_661 => ?_) (fun c_661 => absurd (by decide) c_661)
      refine lv_goto (tgt := 1176) hx hb dL_law_666 (by decide) ?_
      refine W.widen (k := 15 + (j9 + 1)) (n := 199844 + 6 * (j9 + 1)) (by omega) (by omega) ?_
      refine lv_iinc (v := nI (4 * (j9 + 1))) (lv' := [(4, .int (nI (4 * (j9 + 1)))), (5, .int 2), (0, .ref b), (1, .ref h0), (2, .ref g0), (3, .ref oj)]) hx hb dL_law_1176 hl (k := 5) rfl (nI_add (4 * j9) 4) (by decide) rfl (fun ls hl => ?_)
      refine lv_goto (tgt := 23) hx hb dL_law_1179 (by decide) ?_
      exact IH bf pw hs lo lg rt nb fi fo en 1 0 cu ma 2 og _ _ _ (Or.inr ⟨rfl, rfl⟩) (by omega) (by omega) (by omega) hcu hP hD hS (lv_sub hl [2, 3, 4, 5, 0] rfl)
    · have hP : va_P D vwCl (wC h0 a0 a1 a2 a3 a4 a5 cI cZ bf pw hs lo lg rt nb (nI fi) (nI fo) (nI en) 1 cu ma ++ (wM g0 b0 b1 b2 b3 b4 b5 cI cZ th bf pw hs lo lg rt nb (nI fi) (nI fo) (nI en) 0 cu ma ++ wO oj cJ og)) H := hP
      have hD : va_D A (wC h0 a0 a1 a2 a3 a4 a5 cI cZ bf pw hs lo lg rt nb (nI fi) (nI fo) (nI en) 1 cu ma ++ (wM g0 b0 b1 b2 b3 b4 b5 cI cZ th bf pw hs lo lg rt nb (nI fi) (nI fo) (nI en) 0 cu ma ++ wO oj cJ og)) := hD
      refine lv_aload_n hx hb dL_law_621 rfl (lv_at hl 1 rfl) ?_
      refine lv_aload_n hx hb dL_law_622 rfl (lv_at hl 0 rfl) ?_
      refine lv_iload hx hb dL_law_623 (lv_at hl 4 rfl) ?_
      refine lv_iconst (v := (nI 1)) hx hb dL_law_625 (by decide) ?_
      refine n_iadd hx hb dL_law_626 ?_
      refine n_sld hx hb hX hbl hbA hS (4 * j9 + 1) (by omega) (by omega) ((nI pl)) ex dL_law_627 ?_
      refine lv_aload_n hx hb dL_law_628 rfl (lv_at hl 0 rfl) ?_
      refine lv_iload hx hb dL_law_629 (lv_at hl 4 rfl) ?_
      refine lv_iconst (v := (nI 2)) hx hb dL_law_631 (by decide) ?_
      refine n_iadd hx hb dL_law_632 ?_
      refine n_sld hx hb hX hbl hbA hS (4 * j9 + 2) (by omega) (by omega) ((nI k)) ey dL_law_633 ?_
      refine k_I (wr := wM g0 b0 b1 b2 b3 b4 b5 cI cZ th bf pw hs lo lg rt nb (nI fi) (nI fo) (nI en) 0 cu ma ++ wO oj cJ og) hP hD hS hA (vx_runSW (As := [.ref h0, .int (nI pl), .int (nI k)]) (rest := []) ⟨hx, hb, hml, hown, hts⟩ (tL_readLog_ok hl0 bf pw hs lo lg rt nb fi fo en cu ma pl k hk hk2 h1 h2 (by omega) oj og _) (vx_cwSW 3 hts gL_law_L_readLog rfl rfl rfl (by decide +kernel) ⟨Nat.le_of_ble_eq_true rfl, Nat.le_of_ble_eq_true rfl⟩) (pS_X hP hD hK hS hA hT [0, 1, 2] rfl [0, 1, 2, 3, 4, 5, 6] rfl rfl) rfl rfl hl.1 rfl (lv_room (Nat.le_of_ble_eq_true rfl)) dL_law_634 hc1) [0, 1, 2, 3, 4, 5, 6] [7, 8, 9, 10, 11, 12, 13, 14] rfl rfl rfl (by decide) (fun H locs hP hD hS => ?_)
      have hP : va_P D vwCl (wC h0 a0 a1 a2 a3 a4 a5 cI cZ (fl (fun j => lg ((pl + j) % 65536)) k bf) pw hs lo lg rt nb (nI fi) (nI fo) (nI en) 1 cu ma ++ (wM g0 b0 b1 b2 b3 b4 b5 cI cZ th bf pw hs lo lg rt nb (nI fi) (nI fo) (nI en) 0 cu ma ++ wO oj cJ og)) H := hP.sub [8, 9, 10, 11, 12, 13, 14, 0, 1, 2, 3, 4, 5, 6, 7] rfl
      have hD : va_D A (wC h0 a0 a1 a2 a3 a4 a5 cI cZ (fl (fun j => lg ((pl + j) % 65536)) k bf) pw hs lo lg rt nb (nI fi) (nI fo) (nI en) 1 cu ma ++ (wM g0 b0 b1 b2 b3 b4 b5 cI cZ th bf pw hs lo lg rt nb (nI fi) (nI fo) (nI en) 0 cu ma ++ wO oj cJ og)) := hD.sub [8, 9, 10, 11, 12, 13, 14, 0, 1, 2, 3, 4, 5, 6, 7] (by decide) rfl
      refine lv_istore (lv' := [(5, .int 0), (0, .ref b), (1, .ref h0), (2, .ref g0), (3, .ref oj), (4, .int (nI (4 * j9)))]) hx hb dL_law_637 hl (by decide) rfl (fun ls hl => ?_)
      refine lv_aload_n hx hb dL_law_639 rfl (lv_at hl 3 rfl) ?_
      refine lv_aload_n hx hb dL_law_640 rfl (lv_at hl 1 rfl) ?_
      refine lv_iload hx hb dL_law_641 (lv_at hl 5 rfl) ?_
      refine lv_iconst (v := (nI 1)) hx hb dL_law_643 (by decide) ?_
      refine n_iadd hx hb dL_law_644 ?_
      refine n_sld hx hb hX hbl hbA hS (4 * j9 + 1) (by omega) (by omega) ((nI pl)) ex dL_law_645 ?_
      refine lv_aload_n hx hb dL_law_646 rfl (lv_at hl 1 rfl) ?_
      refine lv_iload hx hb dL_law_647 (lv_at hl 5 rfl) ?_
      refine lv_iconst (v := (nI 2)) hx hb dL_law_649 (by decide) ?_
      refine n_iadd hx hb dL_law_650 ?_
      refine n_sld hx hb hX hbl hbA hS (4 * j9 + 2) (by omega) (by omega) ((nI k)) ey dL_law_651 ?_
      refine k_V (wr := wC h0 a0 a1 a2 a3 a4 a5 cI cZ (fl (fun j => lg ((pl + j) % 65536)) k bf) pw hs lo lg rt nb (nI fi) (nI fo) (nI en) 1 cu ma ++ wO oj cJ og) hP hD hS hA (va_runV (As := [.int (nI pl), .int (nI k)]) (rest := []) ⟨hx, hb, hml, hown, hts⟩ (tX1_readLog_ok th bf pw hs lo lg rt nb fi fo en cu ma pl k hk hk2 h1 h2 (by omega) _) (cwV 2 hts gL_law_X1_readLog rfl rfl rfl (by decide +kernel) ⟨Nat.le_of_ble_eq_true rfl, Nat.le_of_ble_eq_true rfl⟩) (pV_B hP hD hK (ci := 1) (q0 := 7) rfl rfl rfl [0, 1] rfl [7, 8, 9, 10, 11, 12, 13] rfl rfl) rfl rfl hl.1 rfl (lv_room (Nat.le_of_ble_eq_true rfl)) dL_law_652 hc9) [7, 8, 9, 10, 11, 12, 13] [0, 1, 2, 3, 4, 5, 6, 14] rfl rfl rfl (by decide) (fun H locs hP hD hS => ?_)
      have hP : va_P D vwCl (wC h0 a0 a1 a2 a3 a4 a5 cI cZ (fl (fun j => lg ((pl + j) % 65536)) k bf) pw hs lo lg rt nb (nI fi) (nI fo) (nI en) 1 cu ma ++ (wM g0 b0 b1 b2 b3 b4 b5 cI cZ 0 (fl (fun j => lg ((pl + j) % 65536)) k bf) pw hs lo lg rt nb (nI fi) (nI fo) (nI en) 0 cu ma ++ wO oj cJ og)) H := hP.sub [0, 1, 2, 3, 4, 5, 6, 8, 9, 10, 11, 12, 13, 14, 7] rfl
      have hD : va_D A (wC h0 a0 a1 a2 a3 a4 a5 cI cZ (fl (fun j => lg ((pl + j) % 65536)) k bf) pw hs lo lg rt nb (nI fi) (nI fo) (nI en) 1 cu ma ++ (wM g0 b0 b1 b2 b3 b4 b5 cI cZ 0 (fl (fun j => lg ((pl + j) % 65536)) k bf) pw hs lo lg rt nb (nI fi) (nI fo) (nI en) 0 cu ma ++ wO oj cJ og)) := hD.sub [0, 1, 2, 3, 4, 5, 6, 8, 9, 10, 11, 12, 13, 14, 7] (by decide) rfl
      refine lv_aload_n hx hb dL_law_655 rfl (lv_at hl 3 rfl) ?_
      refine k_I (wr := wC h0 a0 a1 a2 a3 a4 a5 cI cZ (fl (fun j => lg ((pl + j) % 65536)) k bf) pw hs lo lg rt nb (nI fi) (nI fo) (nI en) 1 cu ma ++ wO oj cJ og) hP hD hS hA (va_runV (As := []) (rest := []) ⟨hx, hb, hml, hown, hts⟩ (tX1_thrown 0 (fl (fun j => lg ((pl + j) % 65536)) k bf) pw hs lo lg rt nb fi fo en 0 cu ma _) (cwV 0 hts gL_law_X1_thrown rfl rfl rfl (by decide +kernel) ⟨Nat.le_of_ble_eq_true rfl, Nat.le_of_ble_eq_true rfl⟩) (pV_B hP hD hK (ci := 1) (q0 := 7) rfl rfl rfl [0, 1] rfl [7, 8, 9, 10, 11, 12, 13] rfl rfl) rfl rfl hl.1 rfl (lv_room (Nat.le_of_ble_eq_true rfl)) dL_law_656 hc9) [7, 8, 9, 10, 11, 12, 13] [0, 1, 2, 3, 4, 5, 6, 14] rfl rfl rfl (by decide) (fun H locs hP hD hS => ?_)
      have hP : va_P D vwCl (wC h0 a0 a1 a2 a3 a4 a5 cI cZ (fl (fun j => lg ((pl + j) % 65536)) k bf) pw hs lo lg rt nb (nI fi) (nI fo) (nI en) 1 cu ma ++ (wM g0 b0 b1 b2 b3 b4 b5 cI cZ 0 (fl (fun j => lg ((pl + j) % 65536)) k bf) pw hs lo lg rt nb (nI fi) (nI fo) (nI en) 0 cu ma ++ wO oj cJ og)) H := hP.sub [0, 1, 2, 3, 4, 5, 6, 8, 9, 10, 11, 12, 13, 14, 7] rfl
      have hD : va_D A (wC h0 a0 a1 a2 a3 a4 a5 cI cZ (fl (fun j => lg ((pl + j) % 65536)) k bf) pw hs lo lg rt nb (nI fi) (nI fo) (nI en) 1 cu ma ++ (wM g0 b0 b1 b2 b3 b4 b5 cI cZ 0 (fl (fun j => lg ((pl + j) % 65536)) k bf) pw hs lo lg rt nb (nI fi) (nI fo) (nI en) 0 cu ma ++ wO oj cJ og)) := hD.sub [0, 1, 2, 3, 4, 5, 6, 8, 9, 10, 11, 12, 13, 14, 7] (by decide) rfl
      refine lv_iload hx hb dL_law_659 (lv_at hl 0 rfl) ?_
      refine lv_icmp_eq (tgt := 666) hx hb dL_law_661 (by decide) (fun c_661 => ?_) (fun c_661 => absurd (by decide) c_661)
      refine lv_goto (tgt := 1176) hx hb dL_law_666 (by decide) ?_
      refine W.widen (k := 15 + (j9 + 1)) (n := 199844 + 6 * (j9 + 1)) (by omega) (by omega) ?_
      refine lv_iinc (v := nI (4 * (j9 + 1))) (lv' := [(4, .int (nI (4 * (j9 + 1)))), (5, .int 0), (0, .ref b), (1, .ref h0), (2, .ref g0), (3, .ref oj)]) hx hb dL_law_1176 hl (k := 5) rfl (nI_add (4 * j9) 4) (by decide) rfl (fun ls hl => ?_)
      refine lv_goto (tgt := 23) hx hb dL_law_1179 (by decide) ?_
      exact IH (fl (fun j => lg ((pl + j) % 65536)) k bf) pw hs lo lg rt nb fi fo en 1 0 cu ma 0 og _ _ _ (Or.inr ⟨rfl, rfl⟩) (by omega) (by omega) (by omega) hcu hP hD hS (lv_sub hl [2, 3, 4, 5, 0] rfl)
set_option maxHeartbeats 4000000 in
set_option maxRecDepth 100000 in
theorem lo_giveBack {p : Program} {l : Launch} {e : Env} {s : State} {m : MethodId} {below : List Frame} {meth : Method} {c : Code} {Q : State → Prop} {D : va_G} {A : Nat → Prop} {cI cZ cJ : ClassId} {b L : Nat} {xs : Nat → Int32} {h0 a0 a1 a2 a3 a4 a5 g0 b0 b1 b2 b3 b4 b5 oj : Nat} (hl0 : l.stackTraces = false) (hx : p.tables.exec = Jvm.exec) (hb : c.code = code) (hml : c.maxLocals = 7) (hown : s.vm.findClass RL = some m.cls) (hts : ∀ w ∈ wsL_law, w.before #[Value.ref b] s = true) (hX : va_X b L xs s s.heap) (hbl : b < s.heap.size) (hbA : ¬ A b) (hA : ∀ q : Nat, s.heap.size ≤ q → A q) (hK : va_K D vwCl (tyL cI cZ cJ) s) (hT : xT A s s.heap) (hL : L ≤ 2048) (j9 : Nat) (hj : 4 * j9 + 4 ≤ L)
    (IH : lgW p l e s m below meth c Q D A cI cZ cJ b h0 a0 a1 a2 a3 a4 a5 g0 b0 b1 b2 b3 b4 b5 oj (j9 + 1))
    (bf pw hs lo lg rt : Nat → Int32) (nb : Int32) (fi fo en : Nat) (on off cu ma th : Int32) (og : Nat → Int64) (H : Heap) (locs : List Loc) (ls : Array Slot) (hpo : (on = 0 ∧ off = 1) ∨ (on = 1 ∧ off = 0)) (hi1 : fi ≤ fo) (hi2 : fo ≤ en) (hi3 : en ≤ 64 * j9) (hcu : -1 ≤ cu)
    (hP : va_P D vwCl (wA h0 a0 a1 a2 a3 a4 a5 g0 b0 b1 b2 b3 b4 b5 oj cI cZ cJ bf pw hs lo lg rt nb fi fo en on off cu ma th og) H) (hD : va_D A (wA h0 a0 a1 a2 a3 a4 a5 g0 b0 b1 b2 b3 b4 b5 oj cI cZ cJ bf pw hs lo lg rt nb fi fo en on off cu ma th og)) (hS : va_S A s.heap H locs) (hl : lv_has ls 7 [(0, .ref b), (1, .ref h0), (2, .ref g0), (3, .ref oj), (4, .int (nI (4 * j9)))]) :
    W p l e room_1 s m #[Value.ref b] below meth c H locs (15 + j9) (199844 + 6 * j9) Q (F0 m 669 ls []) := by
  have he : en ≤ 60000 := by omega
  have hc0 : 15 + j9 + 0 ≤ room_1.cells ∧ 199844 + 6 * j9 + 0 ≤ room_1.slots := ⟨show 15 + j9 + 0 ≤ 601024 by omega, show 199844 + 6 * j9 + 0 ≤ 7293034 by omega⟩
  have hc1 : 15 + j9 + 1 ≤ room_1.cells ∧ 199844 + 6 * j9 + 6 ≤ room_1.slots := ⟨show 15 + j9 + 1 ≤ 601024 by omega, show 199844 + 6 * j9 + 6 ≤ 7293034 by omega⟩
  have hc9 : 15 + j9 + 1 + 0 ≤ room_1.cells ∧ 199844 + 6 * j9 + 6 + 0 ≤ room_1.slots := hc1
  obtain ⟨x, ex⟩ : ∃ z9, xs (4 * j9 + 1) = z9 := ⟨_, rfl⟩
  rcases hpo with ⟨rfl, rfl⟩ | ⟨rfl, rfl⟩
  · have hP : va_P D vwCl (wC h0 a0 a1 a2 a3 a4 a5 cI cZ bf pw hs lo lg rt nb (nI fi) (nI fo) (nI en) 0 cu ma ++ (wM g0 b0 b1 b2 b3 b4 b5 cI cZ th bf pw hs lo lg rt nb (nI fi) (nI fo) (nI en) 1 cu ma ++ wO oj cJ og)) H := hP
    have hD : va_D A (wC h0 a0 a1 a2 a3 a4 a5 cI cZ bf pw hs lo lg rt nb (nI fi) (nI fo) (nI en) 0 cu ma ++ (wM g0 b0 b1 b2 b3 b4 b5 cI cZ th bf pw hs lo lg rt nb (nI fi) (nI fo) (nI en) 1 cu ma ++ wO oj cJ og)) := hD
    refine lv_aload_n hx hb dL_law_669 rfl (lv_at hl 1 rfl) ?_
    refine lv_aload_n hx hb dL_law_670 rfl (lv_at hl 0 rfl) ?_
    refine lv_iload hx hb dL_law_671 (lv_at hl 4 rfl) ?_
    refine lv_iconst (v := (nI 1)) hx hb dL_law_673 (by decide) ?_
    refine n_iadd hx hb dL_law_674 ?_
    refine n_sld hx hb hX hbl hbA hS (4 * j9 + 1) (by omega) (by omega) (x) ex dL_law_675 ?_
    refine k_I (wr := wM g0 b0 b1 b2 b3 b4 b5 cI cZ th bf pw hs lo lg rt nb (nI fi) (nI fo) (nI en) 1 cu ma ++ wO oj cJ og) hP hD hS hA (vx_runSW (As := [.ref h0, .int x]) (rest := []) ⟨hx, hb, hml, hown, hts⟩ (tL_giveBack_x0 hl0 bf pw hs lo lg rt nb fi fo en cu ma x oj og _) (vx_cwSW 2 hts gL_law_L_giveBack rfl rfl rfl (by decide +kernel) ⟨Nat.le_of_ble_eq_true rfl, Nat.le_of_ble_eq_true rfl⟩) (pS_X hP hD hK hS hA hT [0, 1, 2] rfl [0, 1, 2, 3, 4, 5, 6] rfl rfl) rfl rfl hl.1 rfl (lv_room (Nat.le_of_ble_eq_true rfl)) dL_law_676 hc1) [0, 1, 2, 3, 4, 5, 6] [7, 8, 9, 10, 11, 12, 13, 14] rfl rfl rfl (by decide) (fun H locs hP hD hS => ?_)
    have hP : va_P D vwCl (wC h0 a0 a1 a2 a3 a4 a5 cI cZ bf pw hs lo lg rt nb (nI fi) (nI fo) (nI en) 0 cu ma ++ (wM g0 b0 b1 b2 b3 b4 b5 cI cZ th bf pw hs lo lg rt nb (nI fi) (nI fo) (nI en) 1 cu ma ++ wO oj cJ og)) H := hP.sub [8, 9, 10, 11, 12, 13, 14, 0, 1, 2, 3, 4, 5, 6, 7] rfl
    have hD : va_D A (wC h0 a0 a1 a2 a3 a4 a5 cI cZ bf pw hs lo lg rt nb (nI fi) (nI fo) (nI en) 0 cu ma ++ (wM g0 b0 b1 b2 b3 b4 b5 cI cZ th bf pw hs lo lg rt nb (nI fi) (nI fo) (nI en) 1 cu ma ++ wO oj cJ og)) := hD.sub [8, 9, 10, 11, 12, 13, 14, 0, 1, 2, 3, 4, 5, 6, 7] (by decide) rfl
    refine lv_istore (lv' := [(5, .int 1), (0, .ref b), (1, .ref h0), (2, .ref g0), (3, .ref oj), (4, .int (nI (4 * j9)))]) hx hb dL_law_679 hl (by decide) rfl (fun ls hl => ?_)
    refine lv_aload_n hx hb dL_law_681 rfl (lv_at hl 3 rfl) ?_
    refine lv_aload_n hx hb dL_law_682 rfl (lv_at hl 1 rfl) ?_
    refine lv_iload hx hb dL_law_683 (lv_at hl 5 rfl) ?_
    refine lv_iconst (v := (nI 1)) hx hb dL_law_685 (by decide) ?_
    refine n_iadd hx hb dL_law_686 ?_
    refine n_sld hx hb hX hbl hbA hS (4 * j9 + 1) (by omega) (by omega) (x) ex dL_law_687 ?_
    refine k_V (wr := wC h0 a0 a1 a2 a3 a4 a5 cI cZ bf pw hs lo lg rt nb (nI fi) (nI fo) (nI en) 0 cu ma ++ wO oj cJ og) hP hD hS hA (va_runV (As := [.int x]) (rest := []) ⟨hx, hb, hml, hown, hts⟩ (tX1_giveBack_x0 th bf pw hs lo lg rt nb fi fo en cu ma x _) (cwV 1 hts gL_law_X1_giveBack rfl rfl rfl (by decide +kernel) ⟨Nat.le_of_ble_eq_true rfl, Nat.le_of_ble_eq_true rfl⟩) (pV_B hP hD hK (ci := 1) (q0 := 7) rfl rfl rfl [0, 1] rfl [7, 8, 9, 10, 11, 12, 13] rfl rfl) rfl rfl hl.1 rfl (lv_room (Nat.le_of_ble_eq_true rfl)) dL_law_688 hc9) [7, 8, 9, 10, 11, 12, 13] [0, 1, 2, 3, 4, 5, 6, 14] rfl rfl rfl (by decide) (fun H locs hP hD hS => ?_)
    have hP : va_P D vwCl (wC h0 a0 a1 a2 a3 a4 a5 cI cZ bf pw hs lo lg rt nb (nI fi) (nI fo) (nI en) 0 cu ma ++ (wM g0 b0 b1 b2 b3 b4 b5 cI cZ 1 bf pw hs lo lg rt nb (nI fi) (nI fo) (nI en) 1 cu ma ++ wO oj cJ og)) H := hP.sub [0, 1, 2, 3, 4, 5, 6, 8, 9, 10, 11, 12, 13, 14, 7] rfl
    have hD : va_D A (wC h0 a0 a1 a2 a3 a4 a5 cI cZ bf pw hs lo lg rt nb (nI fi) (nI fo) (nI en) 0 cu ma ++ (wM g0 b0 b1 b2 b3 b4 b5 cI cZ 1 bf pw hs lo lg rt nb (nI fi) (nI fo) (nI en) 1 cu ma ++ wO oj cJ og)) := hD.sub [0, 1, 2, 3, 4, 5, 6, 8, 9, 10, 11, 12, 13, 14, 7] (by decide) rfl
    refine lv_aload_n hx hb dL_law_691 rfl (lv_at hl 3 rfl) ?_
    refine k_I (wr := wC h0 a0 a1 a2 a3 a4 a5 cI cZ bf pw hs lo lg rt nb (nI fi) (nI fo) (nI en) 0 cu ma ++ wO oj cJ og) hP hD hS hA (va_runV (As := []) (rest := []) ⟨hx, hb, hml, hown, hts⟩ (tX1_thrown 1 bf pw hs lo lg rt nb fi fo en 1 cu ma _) (cwV 0 hts gL_law_X1_thrown rfl rfl rfl (by decide +kernel) ⟨Nat.le_of_ble_eq_true rfl, Nat.le_of_ble_eq_true rfl⟩) (pV_B hP hD hK (ci := 1) (q0 := 7) rfl rfl rfl [0, 1] rfl [7, 8, 9, 10, 11, 12, 13] rfl rfl) rfl rfl hl.1 rfl (lv_room (Nat.le_of_ble_eq_true rfl)) dL_law_692 hc9) [7, 8, 9, 10, 11, 12, 13] [0, 1, 2, 3, 4, 5, 6, 14] rfl rfl rfl (by decide) (fun H locs hP hD hS => ?_)
    have hP : va_P D vwCl (wC h0 a0 a1 a2 a3 a4 a5 cI cZ bf pw hs lo lg rt nb (nI fi) (nI fo) (nI en) 0 cu ma ++ (wM g0 b0 b1 b2 b3 b4 b5 cI cZ 1 bf pw hs lo lg rt nb (nI fi) (nI fo) (nI en) 1 cu ma ++ wO oj cJ og)) H := hP.sub [0, 1, 2, 3, 4, 5, 6, 8, 9, 10, 11, 12, 13, 14, 7] rfl
    have hD : va_D A (wC h0 a0 a1 a2 a3 a4 a5 cI cZ bf pw hs lo lg rt nb (nI fi) (nI fo) (nI en) 0 cu ma ++ (wM g0 b0 b1 b2 b3 b4 b5 cI cZ 1 bf pw hs lo lg rt nb (nI fi) (nI fo) (nI en) 1 cu ma ++ wO oj cJ og)) := hD.sub [0, 1, 2, 3, 4, 5, 6, 8, 9, 10, 11, 12, 13, 14, 7] (by decide) rfl
    refine lv_iload hx hb dL_law_695 (lv_at hl 0 rfl) ?_
    refine lv_icmp_eq (tgt := 702) hx hb dL_law_697 (by decide) (fun c_697 => ?_) (fun c_697 => absurd (by decide) c_697)
    refine lv_goto (tgt := 1176) hx hb dL_law_702 (by decide) ?_
    refine W.widen (k := 15 + (j9 + 1)) (n := 199844 + 6 * (j9 + 1)) (by omega) (by omega) ?_
    refine lv_iinc (v := nI (4 * (j9 + 1))) (lv' := [(4, .int (nI (4 * (j9 + 1)))), (5, .int 1), (0, .ref b), (1, .ref h0), (2, .ref g0), (3, .ref oj)]) hx hb dL_law_1176 hl (k := 5) rfl (nI_add (4 * j9) 4) (by decide) rfl (fun ls hl => ?_)
    refine lv_goto (tgt := 23) hx hb dL_law_1179 (by decide) ?_
    exact IH bf pw hs lo lg rt nb fi fo en 0 1 cu ma 1 og _ _ _ (Or.inl ⟨rfl, rfl⟩) (by omega) (by omega) (by omega) hcu hP hD hS (lv_sub hl [2, 3, 4, 5, 0] rfl)
  · rcases rg_cases x fi fo (by omega) (by omega) with h | ⟨pl, h1, h2, rfl⟩
    · have hP : va_P D vwCl (wC h0 a0 a1 a2 a3 a4 a5 cI cZ bf pw hs lo lg rt nb (nI fi) (nI fo) (nI en) 1 cu ma ++ (wM g0 b0 b1 b2 b3 b4 b5 cI cZ th bf pw hs lo lg rt nb (nI fi) (nI fo) (nI en) 0 cu ma ++ wO oj cJ og)) H := hP
      have hD : va_D A (wC h0 a0 a1 a2 a3 a4 a5 cI cZ bf pw hs lo lg rt nb (nI fi) (nI fo) (nI en) 1 cu ma ++ (wM g0 b0 b1 b2 b3 b4 b5 cI cZ th bf pw hs lo lg rt nb (nI fi) (nI fo) (nI en) 0 cu ma ++ wO oj cJ og)) := hD
      refine lv_aload_n hx hb dL_law_669 rfl (lv_at hl 1 rfl) ?_
      refine lv_aload_n hx hb dL_law_670 rfl (lv_at hl 0 rfl) ?_
      refine lv_iload hx hb dL_law_671 (lv_at hl 4 rfl) ?_
      refine lv_iconst (v := (nI 1)) hx hb dL_law_673 (by decide) ?_
      refine n_iadd hx hb dL_law_674 ?_
      refine n_sld hx hb hX hbl hbA hS (4 * j9 + 1) (by omega) (by omega) (x) ex dL_law_675 ?_
      refine k_I (wr := wM g0 b0 b1 b2 b3 b4 b5 cI cZ th bf pw hs lo lg rt nb (nI fi) (nI fo) (nI en) 0 cu ma ++ wO oj cJ og) hP hD hS hA (vx_runSW (As := [.ref h0, .int x]) (rest := []) ⟨hx, hb, hml, hown, hts⟩ (tL_giveBack_xb hl0 bf pw hs lo lg rt nb fi fo en cu ma x h oj og _) (vx_cwSW 2 hts gL_law_L_giveBack rfl rfl rfl (by decide +kernel) ⟨Nat.le_of_ble_eq_true rfl, Nat.le_of_ble_eq_true rfl⟩) (pS_X hP hD hK hS hA hT [0, 1, 2] rfl [0, 1, 2, 3, 4, 5, 6] rfl rfl) rfl rfl hl.1 rfl (lv_room (Nat.le_of_ble_eq_true rfl)) dL_law_676 hc1) [0, 1, 2, 3, 4, 5, 6] [7, 8, 9, 10, 11, 12, 13, 14] rfl rfl rfl (by decide) (fun H locs hP hD hS => ?_)
      have hP : va_P D vwCl (wC h0 a0 a1 a2 a3 a4 a5 cI cZ bf pw hs lo lg rt nb (nI fi) (nI fo) (nI en) 1 cu ma ++ (wM g0 b0 b1 b2 b3 b4 b5 cI cZ th bf pw hs lo lg rt nb (nI fi) (nI fo) (nI en) 0 cu ma ++ wO oj cJ og)) H := hP.sub [8, 9, 10, 11, 12, 13, 14, 0, 1, 2, 3, 4, 5, 6, 7] rfl
      have hD : va_D A (wC h0 a0 a1 a2 a3 a4 a5 cI cZ bf pw hs lo lg rt nb (nI fi) (nI fo) (nI en) 1 cu ma ++ (wM g0 b0 b1 b2 b3 b4 b5 cI cZ th bf pw hs lo lg rt nb (nI fi) (nI fo) (nI en) 0 cu ma ++ wO oj cJ og)) := hD.sub [8, 9, 10, 11, 12, 13, 14, 0, 1, 2, 3, 4, 5, 6, 7] (by decide) rfl
      refine lv_istore (lv' := [(5, .int 2), (0, .ref b), (1, .ref h0), (2, .ref g0), (3, .ref oj), (4, .int (nI (4 * j9)))]) hx hb dL_law_679 hl (by decide) rfl (fun ls hl => ?_)
      refine lv_aload_n hx hb dL_law_681 rfl (lv_at hl 3 rfl) ?_
      refine lv_aload_n hx hb dL_law_682 rfl (lv_at hl 1 rfl) ?_
      refine lv_iload hx hb dL_law_683 (lv_at hl 5 rfl) ?_
      refine lv_iconst (v := (nI 1)) hx hb dL_law_685 (by decide) ?_
      refine n_iadd hx hb dL_law_686 ?_
      refine n_sld hx hb hX hbl hbA hS (4 * j9 + 1) (by omega) (by omega) (x) ex dL_law_687 ?_
      refine k_V (wr := wC h0 a0 a1 a2 a3 a4 a5 cI cZ bf pw hs lo lg rt nb (nI fi) (nI fo) (nI en) 1 cu ma ++ wO oj cJ og) hP hD hS hA (va_runV (As := [.int x]) (rest := []) ⟨hx, hb, hml, hown, hts⟩ (tX1_giveBack_xb th bf pw hs lo lg rt nb fi fo en cu ma x h _) (cwV 1 hts gL_law_X1_giveBack rfl rfl rfl (by decide +kernel) ⟨Nat.le_of_ble_eq_true rfl, Nat.le_of_ble_eq_true rfl⟩) (pV_B hP hD hK (ci := 1) (q0 := 7) rfl rfl rfl [0, 1] rfl [7, 8, 9, 10, 11, 12, 13] rfl rfl) rfl rfl hl.1 rfl (lv_room (Nat.le_of_ble_eq_true rfl)) dL_law_688 hc9) [7, 8, 9, 10, 11, 12, 13] [0, 1, 2, 3, 4, 5, 6, 14] rfl rfl rfl (by decide) (fun H locs hP hD hS => ?_)
      have hP : va_P D vwCl (wC h0 a0 a1 a2 a3 a4 a5 cI cZ bf pw hs lo lg rt nb (nI fi) (nI fo) (nI en) 1 cu ma ++ (wM g0 b0 b1 b2 b3 b4 b5 cI cZ 2 bf pw hs lo lg rt nb (nI fi) (nI fo) (nI en) 0 cu ma ++ wO oj cJ og)) H := hP.sub [0, 1, 2, 3, 4, 5, 6, 8, 9, 10, 11, 12, 13, 14, 7] rfl
      have hD : va_D A (wC h0 a0 a1 a2 a3 a4 a5 cI cZ bf pw hs lo lg rt nb (nI fi) (nI fo) (nI en) 1 cu ma ++ (wM g0 b0 b1 b2 b3 b4 b5 cI cZ 2 bf pw hs lo lg rt nb (nI fi) (nI fo) (nI en) 0 cu ma ++ wO oj cJ og)) := hD.sub [0, 1, 2, 3, 4, 5, 6, 8, 9, 10, 11, 12, 13, 14, 7] (by decide) rfl
      refine lv_aload_n hx hb dL_law_691 rfl (lv_at hl 3 rfl) ?_
      refine k_I (wr := wC h0 a0 a1 a2 a3 a4 a5 cI cZ bf pw hs lo lg rt nb (nI fi) (nI fo) (nI en) 1 cu ma ++ wO oj cJ og) hP hD hS hA (va_runV (As := []) (rest := []) ⟨hx, hb, hml, hown, hts⟩ (tX1_thrown 2 bf pw hs lo lg rt nb fi fo en 0 cu ma _) (cwV 0 hts gL_law_X1_thrown rfl rfl rfl (by decide +kernel) ⟨Nat.le_of_ble_eq_true rfl, Nat.le_of_ble_eq_true rfl⟩) (pV_B hP hD hK (ci := 1) (q0 := 7) rfl rfl rfl [0, 1] rfl [7, 8, 9, 10, 11, 12, 13] rfl rfl) rfl rfl hl.1 rfl (lv_room (Nat.le_of_ble_eq_true rfl)) dL_law_692 hc9) [7, 8, 9, 10, 11, 12, 13] [0, 1, 2, 3, 4, 5, 6, 14] rfl rfl rfl (by decide) (fun H locs hP hD hS => ?_)
      have hP : va_P D vwCl (wC h0 a0 a1 a2 a3 a4 a5 cI cZ bf pw hs lo lg rt nb (nI fi) (nI fo) (nI en) 1 cu ma ++ (wM g0 b0 b1 b2 b3 b4 b5 cI cZ 2 bf pw hs lo lg rt nb (nI fi) (nI fo) (nI en) 0 cu ma ++ wO oj cJ og)) H := hP.sub [0, 1, 2, 3, 4, 5, 6, 8, 9, 10, 11, 12, 13, 14, 7] rfl
      have hD : va_D A (wC h0 a0 a1 a2 a3 a4 a5 cI cZ bf pw hs lo lg rt nb (nI fi) (nI fo) (nI en) 1 cu ma ++ (wM g0 b0 b1 b2 b3 b4 b5 cI cZ 2 bf pw hs lo lg rt nb (nI fi) (nI fo) (nI en) 0 cu ma ++ wO oj cJ og)) := hD.sub [0, 1, 2, 3, 4, 5, 6, 8, 9, 10, 11, 12, 13, 14, 7] (by decide) rfl
      refine lv_iload hx hb dL_law_695 (lv_at hl 0 rfl) ?_
      refine lv_icmp_eq (tgt := 702) hx hb dL_law_697 (by decide) (fun c_697 => ?_) (fun c_697 => absurd (by decide) c_697)
      refine lv_goto (tgt := 1176) hx hb dL_law_702 (by decide) ?_
      refine W.widen (k := 15 + (j9 + 1)) (n := 199844 + 6 * (j9 + 1)) (by omega) (by omega) ?_
      refine lv_iinc (v := nI (4 * (j9 + 1))) (lv' := [(4, .int (nI (4 * (j9 + 1)))), (5, .int 2), (0, .ref b), (1, .ref h0), (2, .ref g0), (3, .ref oj)]) hx hb dL_law_1176 hl (k := 5) rfl (nI_add (4 * j9) 4) (by decide) rfl (fun ls hl => ?_)
      refine lv_goto (tgt := 23) hx hb dL_law_1179 (by decide) ?_
      exact IH bf pw hs lo lg rt nb fi fo en 1 0 cu ma 2 og _ _ _ (Or.inr ⟨rfl, rfl⟩) (by omega) (by omega) (by omega) hcu hP hD hS (lv_sub hl [2, 3, 4, 5, 0] rfl)
    · have hP : va_P D vwCl (wC h0 a0 a1 a2 a3 a4 a5 cI cZ bf pw hs lo lg rt nb (nI fi) (nI fo) (nI en) 1 cu ma ++ (wM g0 b0 b1 b2 b3 b4 b5 cI cZ th bf pw hs lo lg rt nb (nI fi) (nI fo) (nI en) 0 cu ma ++ wO oj cJ og)) H := hP
      have hD : va_D A (wC h0 a0 a1 a2 a3 a4 a5 cI cZ bf pw hs lo lg rt nb (nI fi) (nI fo) (nI en) 1 cu ma ++ (wM g0 b0 b1 b2 b3 b4 b5 cI cZ th bf pw hs lo lg rt nb (nI fi) (nI fo) (nI en) 0 cu ma ++ wO oj cJ og)) := hD
      refine lv_aload_n hx hb dL_law_669 rfl (lv_at hl 1 rfl) ?_
      refine lv_aload_n hx hb dL_law_670 rfl (lv_at hl 0 rfl) ?_
      refine lv_iload hx hb dL_law_671 (lv_at hl 4 rfl) ?_
      refine lv_iconst (v := (nI 1)) hx hb dL_law_673 (by decide) ?_
      refine n_iadd hx hb dL_law_674 ?_
      refine n_sld hx hb hX hbl hbA hS (4 * j9 + 1) (by omega) (by omega) ((nI pl)) ex dL_law_675 ?_
      refine k_I (wr := wM g0 b0 b1 b2 b3 b4 b5 cI cZ th bf pw hs lo lg rt nb (nI fi) (nI fo) (nI en) 0 cu ma ++ wO oj cJ og) hP hD hS hA (vx_runSW (As := [.ref h0, .int (nI pl)]) (rest := []) ⟨hx, hb, hml, hown, hts⟩ (tL_giveBack_ok hl0 bf pw hs lo lg rt nb fi fo en cu ma pl h1 h2 (by omega) oj og _) (vx_cwSW 2 hts gL_law_L_giveBack rfl rfl rfl (by decide +kernel) ⟨Nat.le_of_ble_eq_true rfl, Nat.le_of_ble_eq_true rfl⟩) (pS_X hP hD hK hS hA hT [0, 1, 2] rfl [0, 1, 2, 3, 4, 5, 6] rfl rfl) rfl rfl hl.1 rfl (lv_room (Nat.le_of_ble_eq_true rfl)) dL_law_676 hc1) [0, 1, 2, 3, 4, 5, 6] [7, 8, 9, 10, 11, 12, 13, 14] rfl rfl rfl (by decide) (fun H locs hP hD hS => ?_)
      have hP : va_P D vwCl (wC h0 a0 a1 a2 a3 a4 a5 cI cZ bf pw hs lo lg rt nb (nI pl) (nI fo) (nI en) 1 cu ma ++ (wM g0 b0 b1 b2 b3 b4 b5 cI cZ th bf pw hs lo lg rt nb (nI fi) (nI fo) (nI en) 0 cu ma ++ wO oj cJ og)) H := hP.sub [8, 9, 10, 11, 12, 13, 14, 0, 1, 2, 3, 4, 5, 6, 7] rfl
      have hD : va_D A (wC h0 a0 a1 a2 a3 a4 a5 cI cZ bf pw hs lo lg rt nb (nI pl) (nI fo) (nI en) 1 cu ma ++ (wM g0 b0 b1 b2 b3 b4 b5 cI cZ th bf pw hs lo lg rt nb (nI fi) (nI fo) (nI en) 0 cu ma ++ wO oj cJ og)) := hD.sub [8, 9, 10, 11, 12, 13, 14, 0, 1, 2, 3, 4, 5, 6, 7] (by decide) rfl
      refine lv_istore (lv' := [(5, .int 0), (0, .ref b), (1, .ref h0), (2, .ref g0), (3, .ref oj), (4, .int (nI (4 * j9)))]) hx hb dL_law_679 hl (by decide) rfl (fun ls hl => ?_)
      refine lv_aload_n hx hb dL_law_681 rfl (lv_at hl 3 rfl) ?_
      refine lv_aload_n hx hb dL_law_682 rfl (lv_at hl 1 rfl) ?_
      refine lv_iload hx hb dL_law_683 (lv_at hl 5 rfl) ?_
      refine lv_iconst (v := (nI 1)) hx hb dL_law_685 (by decide) ?_
      refine n_iadd hx hb dL_law_686 ?_
      refine n_sld hx hb hX hbl hbA hS (4 * j9 + 1) (by omega) (by omega) ((nI pl)) ex dL_law_687 ?_
      refine k_V (wr := wC h0 a0 a1 a2 a3 a4 a5 cI cZ bf pw hs lo lg rt nb (nI pl) (nI fo) (nI en) 1 cu ma ++ wO oj cJ og) hP hD hS hA (va_runV (As := [.int (nI pl)]) (rest := []) ⟨hx, hb, hml, hown, hts⟩ (tX1_giveBack_ok th bf pw hs lo lg rt nb fi fo en cu ma pl h1 h2 (by omega) _) (cwV 1 hts gL_law_X1_giveBack rfl rfl rfl (by decide +kernel) ⟨Nat.le_of_ble_eq_true rfl, Nat.le_of_ble_eq_true rfl⟩) (pV_B hP hD hK (ci := 1) (q0 := 7) rfl rfl rfl [0, 1] rfl [7, 8, 9, 10, 11, 12, 13] rfl rfl) rfl rfl hl.1 rfl (lv_room (Nat.le_of_ble_eq_true rfl)) dL_law_688 hc9) [7, 8, 9, 10, 11, 12, 13] [0, 1, 2, 3, 4, 5, 6, 14] rfl rfl rfl (by decide) (fun H locs hP hD hS => ?_)
      have hP : va_P D vwCl (wC h0 a0 a1 a2 a3 a4 a5 cI cZ bf pw hs lo lg rt nb (nI pl) (nI fo) (nI en) 1 cu ma ++ (wM g0 b0 b1 b2 b3 b4 b5 cI cZ 0 bf pw hs lo lg rt nb (nI pl) (nI fo) (nI en) 0 cu ma ++ wO oj cJ og)) H := hP.sub [0, 1, 2, 3, 4, 5, 6, 8, 9, 10, 11, 12, 13, 14, 7] rfl
      have hD : va_D A (wC h0 a0 a1 a2 a3 a4 a5 cI cZ bf pw hs lo lg rt nb (nI pl) (nI fo) (nI en) 1 cu ma ++ (wM g0 b0 b1 b2 b3 b4 b5 cI cZ 0 bf pw hs lo lg rt nb (nI pl) (nI fo) (nI en) 0 cu ma ++ wO oj cJ og)) := hD.sub [0, 1, 2, 3, 4, 5, 6, 8, 9, 10, 11, 12, 13, 14, 7] (by decide) rfl
      refine lv_aload_n hx hb dL_law_691 rfl (lv_at hl 3 rfl) ?_
      refine k_I (wr := wC h0 a0 a1 a2 a3 a4 a5 cI cZ bf pw hs lo lg rt nb (nI pl) (nI fo) (nI en) 1 cu ma ++ wO oj cJ og) hP hD hS hA (va_runV (As := []) (rest := []) ⟨hx, hb, hml, hown, hts⟩ (tX1_thrown 0 bf pw hs lo lg rt nb pl fo en 0 cu ma _) (cwV 0 hts gL_law_X1_thrown rfl rfl rfl (by decide +kernel) ⟨Nat.le_of_ble_eq_true rfl, Nat.le_of_ble_eq_true rfl⟩) (pV_B hP hD hK (ci := 1) (q0 := 7) rfl rfl rfl [0, 1] rfl [7, 8, 9, 10, 11, 12, 13] rfl rfl) rfl rfl hl.1 rfl (lv_room (Nat.le_of_ble_eq_true rfl)) dL_law_692 hc9) [7, 8, 9, 10, 11, 12, 13] [0, 1, 2, 3, 4, 5, 6, 14] rfl rfl rfl (by decide) (fun H locs hP hD hS => ?_)
      have hP : va_P D vwCl (wC h0 a0 a1 a2 a3 a4 a5 cI cZ bf pw hs lo lg rt nb (nI pl) (nI fo) (nI en) 1 cu ma ++ (wM g0 b0 b1 b2 b3 b4 b5 cI cZ 0 bf pw hs lo lg rt nb (nI pl) (nI fo) (nI en) 0 cu ma ++ wO oj cJ og)) H := hP.sub [0, 1, 2, 3, 4, 5, 6, 8, 9, 10, 11, 12, 13, 14, 7] rfl
      have hD : va_D A (wC h0 a0 a1 a2 a3 a4 a5 cI cZ bf pw hs lo lg rt nb (nI pl) (nI fo) (nI en) 1 cu ma ++ (wM g0 b0 b1 b2 b3 b4 b5 cI cZ 0 bf pw hs lo lg rt nb (nI pl) (nI fo) (nI en) 0 cu ma ++ wO oj cJ og)) := hD.sub [0, 1, 2, 3, 4, 5, 6, 8, 9, 10, 11, 12, 13, 14, 7] (by decide) rfl
      refine lv_iload hx hb dL_law_695 (lv_at hl 0 rfl) ?_
      refine lv_icmp_eq (tgt := 702) hx hb dL_law_697 (by decide) (fun c_697 => ?_) (fun c_697 => absurd (by decide) c_697)
      refine lv_goto (tgt := 1176) hx hb dL_law_702 (by decide) ?_
      refine W.widen (k := 15 + (j9 + 1)) (n := 199844 + 6 * (j9 + 1)) (by omega) (by omega) ?_
      refine lv_iinc (v := nI (4 * (j9 + 1))) (lv' := [(4, .int (nI (4 * (j9 + 1)))), (5, .int 0), (0, .ref b), (1, .ref h0), (2, .ref g0), (3, .ref oj)]) hx hb dL_law_1176 hl (k := 5) rfl (nI_add (4 * j9) 4) (by decide) rfl (fun ls hl => ?_)
      refine lv_goto (tgt := 23) hx hb dL_law_1179 (by decide) ?_
      exact IH bf pw hs lo lg rt nb pl fo en 1 0 cu ma 0 og _ _ _ (Or.inr ⟨rfl, rfl⟩) (by omega) (by omega) (by omega) hcu hP hD hS (lv_sub hl [2, 3, 4, 5, 0] rfl)
