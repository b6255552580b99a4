/-! OWN ROWS, by program: the law, call by call -/
set_option maxHeartbeats 4000000 in
set_option maxRecDepth 100000 in
theorem lo_set {p : Program} {l : Launch} {e : Env} {s : State} {m : MethodId} {below : List Frame} {meth : Method} {c : Code} {Q : State → Prop} {D : va_G} {A : Nat → Prop} {cI cZ cJ : ClassId} {b L : Nat} {xs : Nat → Int32} {h0 a0 a1 a2 a3 a4 a5 g0 b0 b1 b2 b3 b4 b5 oj : Nat} (hl0 : l.stackTraces = false) (hx : p.tables.exec = Jvm.exec) (hb : c.code = code) (hml : c.maxLocals = 7) (hown : s.vm.findClass RL = some m.cls) (hts : ∀ w ∈ wsL_law, w.before #[Value.ref b] s = true) (hX : va_X b L xs s s.heap) (hbl : b < s.heap.size) (hbA : ¬ A b) (hA : ∀ q : Nat, s.heap.size ≤ q → A q) (hK : va_K D vwCl (tyL cI cZ cJ) s) (hT : xT A s s.heap) (hL : L ≤ 2048) (j9 : Nat) (hj : 4 * j9 + 4 ≤ L)
    (IH : lgW p l e s m below meth c Q D A cI cZ cJ b h0 a0 a1 a2 a3 a4 a5 g0 b0 b1 b2 b3 b4 b5 oj (j9 + 1))
    (bf pw hs lo lg rt : Nat → Int32) (nb : Int32) (fi fo en : Nat) (on off cu ma th : Int32) (og : Nat → Int64) (H : Heap) (locs : List Loc) (ls : Array Slot) (hpo : (on = 0 ∧ off = 1) ∨ (on = 1 ∧ off = 0)) (hi1 : fi ≤ fo) (hi2 : fo ≤ en) (hi3 : en ≤ 64 * j9) (hcu : -1 ≤ cu)
    (hP : va_P D vwCl (wA h0 a0 a1 a2 a3 a4 a5 g0 b0 b1 b2 b3 b4 b5 oj cI cZ cJ bf pw hs lo lg rt nb fi fo en on off cu ma th og) H) (hD : va_D A (wA h0 a0 a1 a2 a3 a4 a5 g0 b0 b1 b2 b3 b4 b5 oj cI cZ cJ bf pw hs lo lg rt nb fi fo en on off cu ma th og)) (hS : va_S A s.heap H locs) (hl : lv_has ls 7 [(0, .ref b), (1, .ref h0), (2, .ref g0), (3, .ref oj), (4, .int (nI (4 * j9)))]) :
    W p l e room_1 s m #[Value.ref b] below meth c H locs (15 + j9) (199844 + 6 * j9) Q (F0 m 140 ls []) := by
  have he : en ≤ 60000 := by omega
  have hc0 : 15 + j9 + 0 ≤ room_1.cells ∧ 199844 + 6 * j9 + 0 ≤ room_1.slots := ⟨show 15 + j9 + 0 ≤ 601024 by omega, show 199844 + 6 * j9 + 0 ≤ 7293034 by omega⟩
  have hc1 : 15 + j9 + 1 ≤ room_1.cells ∧ 199844 + 6 * j9 + 6 ≤ room_1.slots := ⟨show 15 + j9 + 1 ≤ 601024 by omega, show 199844 + 6 * j9 + 6 ≤ 7293034 by omega⟩
  have hc9 : 15 + j9 + 1 + 0 ≤ room_1.cells ∧ 199844 + 6 * j9 + 6 + 0 ≤ room_1.slots := hc1
  obtain ⟨x, ex⟩ : ∃ z9, xs (4 * j9 + 1) = z9 := ⟨_, rfl⟩
  obtain ⟨y, ey⟩ : ∃ z9, xs (4 * j9 + 2) = z9 := ⟨_, rfl⟩
  rcases hpo with ⟨rfl, rfl⟩ | ⟨rfl, rfl⟩
  · have hP : va_P D vwCl (wC h0 a0 a1 a2 a3 a4 a5 cI cZ bf pw hs lo lg rt nb (nI fi) (nI fo) (nI en) 0 cu ma ++ (wM g0 b0 b1 b2 b3 b4 b5 cI cZ th bf pw hs lo lg rt nb (nI fi) (nI fo) (nI en) 1 cu ma ++ wO oj cJ og)) H := hP
    have hD : va_D A (wC h0 a0 a1 a2 a3 a4 a5 cI cZ bf pw hs lo lg rt nb (nI fi) (nI fo) (nI en) 0 cu ma ++ (wM g0 b0 b1 b2 b3 b4 b5 cI cZ th bf pw hs lo lg rt nb (nI fi) (nI fo) (nI en) 1 cu ma ++ wO oj cJ og)) := hD
    refine lv_aload_n hx hb dL_law_140 rfl (lv_at hl 1 rfl) ?_
    refine lv_aload_n hx hb dL_law_141 rfl (lv_at hl 0 rfl) ?_
    refine lv_iload hx hb dL_law_142 (lv_at hl 4 rfl) ?_
    refine lv_iconst (v := (nI 1)) hx hb dL_law_144 (by decide) ?_
    refine n_iadd hx hb dL_law_145 ?_
    refine n_sld hx hb hX hbl hbA hS (4 * j9 + 1) (by omega) (by omega) (x) ex dL_law_146 ?_
    refine lv_aload_n hx hb dL_law_147 rfl (lv_at hl 0 rfl) ?_
    refine lv_iload hx hb dL_law_148 (lv_at hl 4 rfl) ?_
    refine lv_iconst (v := (nI 2)) hx hb dL_law_150 (by decide) ?_
    refine n_iadd hx hb dL_law_151 ?_
    refine n_sld hx hb hX hbl hbA hS (4 * j9 + 2) (by omega) (by omega) (y) ey dL_law_152 ?_
    refine k_I (wr := wM g0 b0 b1 b2 b3 b4 b5 cI cZ th bf pw hs lo lg rt nb (nI fi) (nI fo) (nI en) 1 cu ma ++ wO oj cJ og) hP hD hS hA (vx_runSW (As := [.ref h0, .int x, .int y]) (rest := []) ⟨hx, hb, hml, hown, hts⟩ (tL_set_x0 hl0 bf pw hs lo lg rt nb fi fo en cu ma x y oj og _) (vx_cwSW 3 hts gL_law_L_set rfl rfl rfl (by decide +kernel) ⟨Nat.le_of_ble_eq_true rfl, Nat.le_of_ble_eq_true rfl⟩) (pS_X hP hD hK hS hA hT [0, 1, 2] rfl [0, 1, 2, 3, 4, 5, 6] rfl rfl) rfl rfl hl.1 rfl (lv_room (Nat.le_of_ble_eq_true rfl)) dL_law_153 hc1) [0, 1, 2, 3, 4, 5, 6] [7, 8, 9, 10, 11, 12, 13, 14] rfl rfl rfl (by decide) (fun H locs hP hD hS => ?_)
    have hP : va_P D vwCl (wC h0 a0 a1 a2 a3 a4 a5 cI cZ bf pw hs lo lg rt nb (nI fi) (nI fo) (nI en) 0 cu ma ++ (wM g0 b0 b1 b2 b3 b4 b5 cI cZ th bf pw hs lo lg rt nb (nI fi) (nI fo) (nI en) 1 cu ma ++ wO oj cJ og)) H := hP.sub [8, 9, 10, 11, 12, 13, 14, 0, 1, 2, 3, 4, 5, 6, 7] rfl
    have hD : va_D A (wC h0 a0 a1 a2 a3 a4 a5 cI cZ bf pw hs lo lg rt nb (nI fi) (nI fo) (nI en) 0 cu ma ++ (wM g0 b0 b1 b2 b3 b4 b5 cI cZ th bf pw hs lo lg rt nb (nI fi) (nI fo) (nI en) 1 cu ma ++ wO oj cJ og)) := hD.sub [8, 9, 10, 11, 12, 13, 14, 0, 1, 2, 3, 4, 5, 6, 7] (by decide) rfl
    refine lv_istore (lv' := [(5, .int 1), (0, .ref b), (1, .ref h0), (2, .ref g0), (3, .ref oj), (4, .int (nI (4 * j9)))]) hx hb dL_law_156 hl (by decide) rfl (fun ls hl => ?_)
    refine lv_aload_n hx hb dL_law_158 rfl (lv_at hl 3 rfl) ?_
    refine lv_aload_n hx hb dL_law_159 rfl (lv_at hl 1 rfl) ?_
    refine lv_iload hx hb dL_law_160 (lv_at hl 5 rfl) ?_
    refine lv_iconst (v := (nI 1)) hx hb dL_law_162 (by decide) ?_
    refine n_iadd hx hb dL_law_163 ?_
    refine n_sld hx hb hX hbl hbA hS (4 * j9 + 1) (by omega) (by omega) (x) ex dL_law_164 ?_
    refine lv_aload_n hx hb dL_law_165 rfl (lv_at hl 1 rfl) ?_
    refine lv_iload hx hb dL_law_166 (lv_at hl 5 rfl) ?_
    refine lv_iconst (v := (nI 2)) hx hb dL_law_168 (by decide) ?_
    refine n_iadd hx hb dL_law_169 ?_
    refine n_sld hx hb hX hbl hbA hS (4 * j9 + 2) (by omega) (by omega) (y) ey dL_law_170 ?_
    refine k_V (wr := wC h0 a0 a1 a2 a3 a4 a5 cI cZ bf pw hs lo lg rt nb (nI fi) (nI fo) (nI en) 0 cu ma ++ wO oj cJ og) hP hD hS hA (va_runV (As := [.int x, .int y]) (rest := []) ⟨hx, hb, hml, hown, hts⟩ (tX1_set_x0 th bf pw hs lo lg rt nb fi fo en cu ma x y _) (cwV 2 hts gL_law_X1_set rfl rfl rfl (by decide +kernel) ⟨Nat.le_of_ble_eq_true rfl, Nat.le_of_ble_eq_true rfl⟩) (pV_B hP hD hK (ci := 1) (q0 := 7) rfl rfl rfl [0, 1] rfl [7, 8, 9, 10, 11, 12, 13] rfl rfl) rfl rfl hl.1 rfl (lv_room (Nat.le_of_ble_eq_true rfl)) dL_law_171 hc9) [7, 8, 9, 10, 11, 12, 13] [0, 1, 2, 3, 4, 5, 6, 14] rfl rfl rfl (by decide) (fun H locs hP hD hS => ?_)
    have hP : va_P D vwCl (wC h0 a0 a1 a2 a3 a4 a5 cI cZ bf pw hs lo lg rt nb (nI fi) (nI fo) (nI en) 0 cu ma ++ (wM g0 b0 b1 b2 b3 b4 b5 cI cZ 1 bf pw hs lo lg rt nb (nI fi) (nI fo) (nI en) 1 cu ma ++ wO oj cJ og)) H := hP.sub [0, 1, 2, 3, 4, 5, 6, 8, 9, 10, 11, 12, 13, 14, 7] rfl
    have hD : va_D A (wC h0 a0 a1 a2 a3 a4 a5 cI cZ bf pw hs lo lg rt nb (nI fi) (nI fo) (nI en) 0 cu ma ++ (wM g0 b0 b1 b2 b3 b4 b5 cI cZ 1 bf pw hs lo lg rt nb (nI fi) (nI fo) (nI en) 1 cu ma ++ wO oj cJ og)) := hD.sub [0, 1, 2, 3, 4, 5, 6, 8, 9, 10, 11, 12, 13, 14, 7] (by decide) rfl
    refine lv_aload_n hx hb dL_law_174 rfl (lv_at hl 3 rfl) ?_
    refine k_I (wr := wC h0 a0 a1 a2 a3 a4 a5 cI cZ bf pw hs lo lg rt nb (nI fi) (nI fo) (nI en) 0 cu ma ++ wO oj cJ og) hP hD hS hA (va_runV (As := []) (rest := []) ⟨hx, hb, hml, hown, hts⟩ (tX1_thrown 1 bf pw hs lo lg rt nb fi fo en 1 cu ma _) (cwV 0 hts gL_law_X1_thrown rfl rfl rfl (by decide +kernel) ⟨Nat.le_of_ble_eq_true rfl, Nat.le_of_ble_eq_true rfl⟩) (pV_B hP hD hK (ci := 1) (q0 := 7) rfl rfl rfl [0, 1] rfl [7, 8, 9, 10, 11, 12, 13] rfl rfl) rfl rfl hl.1 rfl (lv_room (Nat.le_of_ble_eq_true rfl)) dL_law_175 hc9) [7, 8, 9, 10, 11, 12, 13] [0, 1, 2, 3, 4, 5, 6, 14] rfl rfl rfl (by decide) (fun H locs hP hD hS => ?_)
    have hP : va_P D vwCl (wC h0 a0 a1 a2 a3 a4 a5 cI cZ bf pw hs lo lg rt nb (nI fi) (nI fo) (nI en) 0 cu ma ++ (wM g0 b0 b1 b2 b3 b4 b5 cI cZ 1 bf pw hs lo lg rt nb (nI fi) (nI fo) (nI en) 1 cu ma ++ wO oj cJ og)) H := hP.sub [0, 1, 2, 3, 4, 5, 6, 8, 9, 10, 11, 12, 13, 14, 7] rfl
    have hD : va_D A (wC h0 a0 a1 a2 a3 a4 a5 cI cZ bf pw hs lo lg rt nb (nI fi) (nI fo) (nI en) 0 cu ma ++ (wM g0 b0 b1 b2 b3 b4 b5 cI cZ 1 bf pw hs lo lg rt nb (nI fi) (nI fo) (nI en) 1 cu ma ++ wO oj cJ og)) := hD.sub [0, 1, 2, 3, 4, 5, 6, 8, 9, 10, 11, 12, 13, 14, 7] (by decide) rfl
    refine lv_iload hx hb dL_law_178 (lv_at hl 0 rfl) ?_
    refine lv_icmp_eq (tgt := 185) hx hb dL_law_180 (by decide) (fun c_180 => ?_) (fun c_180 => absurd (by decide) c_180)
    refine lv_goto (tgt := 1176) hx hb dL_law_185 (by decide) ?_
    refine W.widen (k := 15 + (j9 + 1)) (n := 199844 + 6 * (j9 + 1)) (by omega) (by omega) ?_
    refine lv_iinc (v := nI (4 * (j9 + 1))) (lv' := [(4, .int (nI (4 * (j9 + 1)))), (5, .int 1), (0, .ref b), (1, .ref h0), (2, .ref g0), (3, .ref oj)]) hx hb dL_law_1176 hl (k := 5) rfl (nI_add (4 * j9) 4) (by decide) rfl (fun ls hl => ?_)
    refine lv_goto (tgt := 23) hx hb dL_law_1179 (by decide) ?_
    exact IH bf pw hs lo lg rt nb fi fo en 0 1 cu ma 1 og _ _ _ (Or.inl ⟨rfl, rfl⟩) (by omega) (by omega) (by omega) hcu hP hD hS (lv_sub hl [2, 3, 4, 5, 0] rfl)
  · rcases ix_cases x 64 (by omega) with h | ⟨k, hk, rfl⟩
    · have hP : va_P D vwCl (wC h0 a0 a1 a2 a3 a4 a5 cI cZ bf pw hs lo lg rt nb (nI fi) (nI fo) (nI en) 1 cu ma ++ (wM g0 b0 b1 b2 b3 b4 b5 cI cZ th bf pw hs lo lg rt nb (nI fi) (nI fo) (nI en) 0 cu ma ++ wO oj cJ og)) H := hP
      have hD : va_D A (wC h0 a0 a1 a2 a3 a4 a5 cI cZ bf pw hs lo lg rt nb (nI fi) (nI fo) (nI en) 1 cu ma ++ (wM g0 b0 b1 b2 b3 b4 b5 cI cZ th bf pw hs lo lg rt nb (nI fi) (nI fo) (nI en) 0 cu ma ++ wO oj cJ og)) := hD
      refine lv_aload_n hx hb dL_law_140 rfl (lv_at hl 1 rfl) ?_
      refine lv_aload_n hx hb dL_law_141 rfl (lv_at hl 0 rfl) ?_
      refine lv_iload hx hb dL_law_142 (lv_at hl 4 rfl) ?_
      refine lv_iconst (v := (nI 1)) hx hb dL_law_144 (by decide) ?_
      refine n_iadd hx hb dL_law_145 ?_
      refine n_sld hx hb hX hbl hbA hS (4 * j9 + 1) (by omega) (by omega) (x) ex dL_law_146 ?_
      refine lv_aload_n hx hb dL_law_147 rfl (lv_at hl 0 rfl) ?_
      refine lv_iload hx hb dL_law_148 (lv_at hl 4 rfl) ?_
      refine lv_iconst (v := (nI 2)) hx hb dL_law_150 (by decide) ?_
      refine n_iadd hx hb dL_law_151 ?_
      refine n_sld hx hb hX hbl hbA hS (4 * j9 + 2) (by omega) (by omega) (y) ey dL_law_152 ?_
      refine k_I (wr := wM g0 b0 b1 b2 b3 b4 b5 cI cZ th bf pw hs lo lg rt nb (nI fi) (nI fo) (nI en) 0 cu ma ++ wO oj cJ og) hP hD hS hA (vx_runSW (As := [.ref h0, .int x, .int y]) (rest := []) ⟨hx, hb, hml, hown, hts⟩ (tL_set_xb hl0 bf pw hs lo lg rt nb fi fo en cu ma x y h oj og _) (vx_cwSW 3 hts gL_law_L_set rfl rfl rfl (by decide +kernel) ⟨Nat.le_of_ble_eq_true rfl, Nat.le_of_ble_eq_true rfl⟩) (pS_X hP hD hK hS hA hT [0, 1, 2] rfl [0, 1, 2, 3, 4, 5, 6] rfl rfl) rfl rfl hl.1 rfl (lv_room (Nat.le_of_ble_eq_true rfl)) dL_law_153 hc1) [0, 1, 2, 3, 4, 5, 6] [7, 8, 9, 10, 11, 12, 13, 14] rfl rfl rfl (by decide) (fun H locs hP hD hS => ?_)
      have hP : va_P D vwCl (wC h0 a0 a1 a2 a3 a4 a5 cI cZ bf pw hs lo lg rt nb (nI fi) (nI fo) (nI en) 1 cu ma ++ (wM g0 b0 b1 b2 b3 b4 b5 cI cZ th bf pw hs lo lg rt nb (nI fi) (nI fo) (nI en) 0 cu ma ++ wO oj cJ og)) H := hP.sub [8, 9, 10, 11, 12, 13, 14, 0, 1, 2, 3, 4, 5, 6, 7] rfl
      have hD : va_D A (wC h0 a0 a1 a2 a3 a4 a5 cI cZ bf pw hs lo lg rt nb (nI fi) (nI fo) (nI en) 1 cu ma ++ (wM g0 b0 b1 b2 b3 b4 b5 cI cZ th bf pw hs lo lg rt nb (nI fi) (nI fo) (nI en) 0 cu ma ++ wO oj cJ og)) := hD.sub [8, 9, 10, 11, 12, 13, 14, 0, 1, 2, 3, 4, 5, 6, 7] (by decide) rfl
      refine lv_istore (lv' := [(5, .int 2), (0, .ref b), (1, .ref h0), (2, .ref g0), (3, .ref oj), (4, .int (nI (4 * j9)))]) hx hb dL_law_156 hl (by decide) rfl (fun ls hl => ?_)
      refine lv_aload_n hx hb dL_law_158 rfl (lv_at hl 3 rfl) ?_
      refine lv_aload_n hx hb dL_law_159 rfl (lv_at hl 1 rfl) ?_
      refine lv_iload hx hb dL_law_160 (lv_at hl 5 rfl) ?_
      refine lv_iconst (v := (nI 1)) hx hb dL_law_162 (by decide) ?_
      refine n_iadd hx hb dL_law_163 ?_
      refine n_sld hx hb hX hbl hbA hS (4 * j9 + 1) (by omega) (by omega) (x) ex dL_law_164 ?_
      refine lv_aload_n hx hb dL_law_165 rfl (lv_at hl 1 rfl) ?_
      refine lv_iload hx hb dL_law_166 (lv_at hl 5 rfl) ?_
      refine lv_iconst (v := (nI 2)) hx hb dL_law_168 (by decide) ?_
      refine n_iadd hx hb dL_law_169 ?_
      refine n_sld hx hb hX hbl hbA hS (4 * j9 + 2) (by omega) (by omega) (y) ey dL_law_170 ?_
      refine k_V (wr := wC h0 a0 a1 a2 a3 a4 a5 cI cZ bf pw hs lo lg rt nb (nI fi) (nI fo) (nI en) 1 cu ma ++ wO oj cJ og) hP hD hS hA (va_runV (As := [.int x, .int y]) (rest := []) ⟨hx, hb, hml, hown, hts⟩ (tX1_set_xb th bf pw hs lo lg rt nb fi fo en cu ma x y h _) (cwV 2 hts gL_law_X1_set rfl rfl rfl (by decide +kernel) ⟨Nat.le_of_ble_eq_true rfl, Nat.le_of_ble_eq_true rfl⟩) (pV_B hP hD hK (ci := 1) (q0 := 7) rfl rfl rfl [0, 1] rfl [7, 8, 9, 10, 11, 12, 13] rfl rfl) rfl rfl hl.1 rfl (lv_room (Nat.le_of_ble_eq_true rfl)) dL_law_171 hc9) [7, 8, 9, 10, 11, 12, 13] [0, 1, 2, 3, 4, 5, 6, 14] rfl rfl rfl (by decide) (fun H locs hP hD hS => ?_)
      have hP : va_P D vwCl (wC h0 a0 a1 a2 a3 a4 a5 cI cZ bf pw hs lo lg rt nb (nI fi) (nI fo) (nI en) 1 cu ma ++ (wM g0 b0 b1 b2 b3 b4 b5 cI cZ 2 bf pw hs lo lg rt nb (nI fi) (nI fo) (nI en) 0 cu ma ++ wO oj cJ og)) H := hP.sub [0, 1, 2, 3, 4, 5, 6, 8, 9, 10, 11, 12, 13, 14, 7] rfl
      have hD : va_D A (wC h0 a0 a1 a2 a3 a4 a5 cI cZ bf pw hs lo lg rt nb (nI fi) (nI fo) (nI en) 1 cu ma ++ (wM g0 b0 b1 b2 b3 b4 b5 cI cZ 2 bf pw hs lo lg rt nb (nI fi) (nI fo) (nI en) 0 cu ma ++ wO oj cJ og)) := hD.sub [0, 1, 2, 3, 4, 5, 6, 8, 9, 10, 11, 12, 13, 14, 7] (by decide) rfl
      refine lv_aload_n hx hb dL_law_174 rfl (lv_at hl 3 rfl) ?_
      refine k_I (wr := wC h0 a0 a1 a2 a3 a4 a5 cI cZ bf pw hs lo lg rt nb (nI fi) (nI fo) (nI en) 1 cu ma ++ wO oj cJ og) hP hD hS hA (va_runV (As := []) (rest := []) ⟨hx, hb, hml, hown, hts⟩ (tX1_thrown 2 bf pw hs lo lg rt nb fi fo en 0 cu ma _) (cwV 0 hts gL_law_X1_thrown rfl rfl rfl (by decide +kernel) ⟨Nat.le_of_ble_eq_true rfl, Nat.le_of_ble_eq_true rfl⟩) (pV_B hP hD hK (ci := 1) (q0 := 7) rfl rfl rfl [0, 1] rfl [7, 8, 9, 10, 11, 12, 13] rfl rfl) rfl rfl hl.1 rfl (lv_room (Nat.le_of_ble_eq_true rfl)) dL_law_175 hc9) [7, 8, 9, 10, 11, 12, 13] [0, 1, 2, 3, 4, 5, 6, 14] rfl rfl rfl (by decide) (fun H locs hP hD hS => ?_)
      have hP : va_P D vwCl (wC h0 a0 a1 a2 a3 a4 a5 cI cZ bf pw hs lo lg rt nb (nI fi) (nI fo) (nI en) 1 cu ma ++ (wM g0 b0 b1 b2 b3 b4 b5 cI cZ 2 bf pw hs lo lg rt nb (nI fi) (nI fo) (nI en) 0 cu ma ++ wO oj cJ og)) H := hP.sub [0, 1, 2, 3, 4, 5, 6, 8, 9, 10, 11, 12, 13, 14, 7] rfl
      have hD : va_D A (wC h0 a0 a1 a2 a3 a4 a5 cI cZ bf pw hs lo lg rt nb (nI fi) (nI fo) (nI en) 1 cu ma ++ (wM g0 b0 b1 b2 b3 b4 b5 cI cZ 2 bf pw hs lo lg rt nb (nI fi) (nI fo) (nI en) 0 cu ma ++ wO oj cJ og)) := hD.sub [0, 1, 2, 3, 4, 5, 6, 8, 9, 10, 11, 12, 13, 14, 7] (by decide) rfl
      refine lv_iload hx hb dL_law_178 (lv_at hl 0 rfl) ?_
      refine lv_icmp_eq (tgt := 185) hx hb dL_law_180 (by decide) (fun c_180 => ?_) (fun c_180 => absurd (by decide) c_180)
      refine lv_goto (tgt := 1176) hx hb dL_law_185 (by decide) ?_
      refine W.widen (k := 15 + (j9 + 1)) (n := 199844 + 6 * (j9 + 1)) (by omega) (by omega) ?_
      refine lv_iinc (v := nI (4 * (j9 + 1))) (lv' := [(4, .int (nI (4 * (j9 + 1)))), (5, .int 2), (0, .ref b), (1, .ref h0), (2, .ref g0), (3, .ref oj)]) hx hb dL_law_1176 hl (k := 5) rfl (nI_add (4 * j9) 4) (by decide) rfl (fun ls hl => ?_)
      refine lv_goto (tgt := 23) hx hb dL_law_1179 (by decide) ?_
      exact IH bf pw hs lo lg rt nb fi fo en 1 0 cu ma 2 og _ _ _ (Or.inr ⟨rfl, rfl⟩) (by omega) (by omega) (by omega) hcu hP hD hS (lv_sub hl [2, 3, 4, 5, 0] rfl)
    · have hP : va_P D vwCl (wC h0 a0 a1 a2 a3 a4 a5 cI cZ bf pw hs lo lg rt nb (nI fi) (nI fo) (nI en) 1 cu ma ++ (wM g0 b0 b1 b2 b3 b4 b5 cI cZ th bf pw hs lo lg rt nb (nI fi) (nI fo) (nI en) 0 cu ma ++ wO oj cJ og)) H := hP
      have hD : va_D A (wC h0 a0 a1 a2 a3 a4 a5 cI cZ bf pw hs lo lg rt nb (nI fi) (nI fo) (nI en) 1 cu ma ++ (wM g0 b0 b1 b2 b3 b4 b5 cI cZ th bf pw hs lo lg rt nb (nI fi) (nI fo) (nI en) 0 cu ma ++ wO oj cJ og)) := hD
      refine lv_aload_n hx hb dL_law_140 rfl (lv_at hl 1 rfl) ?_
      refine lv_aload_n hx hb dL_law_141 rfl (lv_at hl 0 rfl) ?_
      refine lv_iload hx hb dL_law_142 (lv_at hl 4 rfl) ?_
      refine lv_iconst (v := (nI 1)) hx hb dL_law_144 (by decide) ?_
      refine n_iadd hx hb dL_law_145 ?_
      refine n_sld hx hb hX hbl hbA hS (4 * j9 + 1) (by omega) (by omega) ((nI k)) ex dL_law_146 ?_
      refine lv_aload_n hx hb dL_law_147 rfl (lv_at hl 0 rfl) ?_
      refine lv_iload hx hb dL_law_148 (lv_at hl 4 rfl) ?_
      refine lv_iconst (v := (nI 2)) hx hb dL_law_150 (by decide) ?_
      refine n_iadd hx hb dL_law_151 ?_
      refine n_sld hx hb hX hbl hbA hS (4 * j9 + 2) (by omega) (by omega) (y) ey dL_law_152 ?_
      refine k_I (wr := wM g0 b0 b1 b2 b3 b4 b5 cI cZ th bf pw hs lo lg rt nb (nI fi) (nI fo) (nI en) 0 cu ma ++ wO oj cJ og) hP hD hS hA (vx_runSW (As := [.ref h0, .int (nI k), .int y]) (rest := []) ⟨hx, hb, hml, hown, hts⟩ (tL_set_ok hl0 bf pw hs lo lg rt nb fi fo en cu ma k hk y oj og _) (vx_cwSW 3 hts gL_law_L_set rfl rfl rfl (by decide +kernel) ⟨Nat.le_of_ble_eq_true rfl, Nat.le_of_ble_eq_true rfl⟩) (pS_X hP hD hK hS hA hT [0, 1, 2] rfl [0, 1, 2, 3, 4, 5, 6] rfl rfl) rfl rfl hl.1 rfl (lv_room (Nat.le_of_ble_eq_true rfl)) dL_law_153 hc1) [0, 1, 2, 3, 4, 5, 6] [7, 8, 9, 10, 11, 12, 13, 14] rfl rfl rfl (by decide) (fun H locs hP hD hS => ?_)
      have hP : va_P D vwCl (wC h0 a0 a1 a2 a3 a4 a5 cI cZ (upd bf k y) pw hs lo lg rt nb (nI fi) (nI fo) (nI en) 1 cu ma ++ (wM g0 b0 b1 b2 b3 b4 b5 cI cZ th bf pw hs lo lg rt nb (nI fi) (nI fo) (nI en) 0 cu ma ++ wO oj cJ og)) H := hP.sub [8, 9, 10, 11, 12, 13, 14, 0, 1, 2, 3, 4, 5, 6, 7] rfl
      have hD : va_D A (wC h0 a0 a1 a2 a3 a4 a5 cI cZ (upd bf k y) pw hs lo lg rt nb (nI fi) (nI fo) (nI en) 1 cu ma ++ (wM g0 b0 b1 b2 b3 b4 b5 cI cZ th bf pw hs lo lg rt nb (nI fi) (nI fo) (nI en) 0 cu ma ++ wO oj cJ og)) := hD.sub [8, 9, 10, 11, 12, 13, 14, 0, 1, 2, 3, 4, 5, 6, 7] (by decide) rfl
      refine lv_istore (lv' := [(5, .int 0), (0, .ref b), (1, .ref h0), (2, .ref g0), (3, .ref oj), (4, .int (nI (4 * j9)))]) hx hb dL_law_156 hl (by decide) rfl (fun ls hl => ?_)
      refine lv_aload_n hx hb dL_law_158 rfl (lv_at hl 3 rfl) ?_
      refine lv_aload_n hx hb dL_law_159 rfl (lv_at hl 1 rfl) ?_
      refine lv_iload hx hb dL_law_160 (lv_at hl 5 rfl) ?_
      refine lv_iconst (v := (nI 1)) hx hb dL_law_162 (by decide) ?_
      refine n_iadd hx hb dL_law_163 ?_
      refine n_sld hx hb hX hbl hbA hS (4 * j9 + 1) (by omega) (by omega) ((nI k)) ex dL_law_164 ?_
      refine lv_aload_n hx hb dL_law_165 rfl (lv_at hl 1 rfl) ?_
      refine lv_iload hx hb dL_law_166 (lv_at hl 5 rfl) ?_
      refine lv_iconst (v := (nI 2)) hx hb dL_law_168 (by decide) ?_
      refine n_iadd hx hb dL_law_169 ?_
      refine n_sld hx hb hX hbl hbA hS (4 * j9 + 2) (by omega) (by omega) (y) ey dL_law_170 ?_
      refine k_V (wr := wC h0 a0 a1 a2 a3 a4 a5 cI cZ (upd bf k y) pw hs lo lg rt nb (nI fi) (nI fo) (nI en) 1 cu ma ++ wO oj cJ og) hP hD hS hA (va_runV (As := [.int (nI k), .int y]) (rest := []) ⟨hx, hb, hml, hown, hts⟩ (tX1_set_ok th bf pw hs lo lg rt nb fi fo en cu ma k hk y _) (cwV 2 hts gL_law_X1_set rfl rfl rfl (by decide +kernel) ⟨Nat.le_of_ble_eq_true rfl, Nat.le_of_ble_eq_true rfl⟩) (pV_B hP hD hK (ci := 1) (q0 := 7) rfl rfl rfl [0, 1] rfl [7, 8, 9, 10, 11, 12, 13] rfl rfl) rfl rfl hl.1 rfl (lv_room (Nat.le_of_ble_eq_true rfl)) dL_law_171 hc9) [7, 8, 9, 10, 11, 12, 13] [0, 1, 2, 3, 4, 5, 6, 14] rfl rfl rfl (by decide) (fun H locs hP hD hS => ?_)
      have hP : va_P D vwCl (wC h0 a0 a1 a2 a3 a4 a5 cI cZ (upd bf k y) pw hs lo lg rt nb (nI fi) (nI fo) (nI en) 1 cu ma ++ (wM g0 b0 b1 b2 b3 b4 b5 cI cZ 0 (upd bf k y) pw hs lo lg rt nb (nI fi) (nI fo) (nI en) 0 cu ma ++ wO oj cJ og)) H := hP.sub [0, 1, 2, 3, 4, 5, 6, 8, 9, 10, 11, 12, 13, 14, 7] rfl
      have hD : va_D A (wC h0 a0 a1 a2 a3 a4 a5 cI cZ (upd bf k y) pw hs lo lg rt nb (nI fi) (nI fo) (nI en) 1 cu ma ++ (wM g0 b0 b1 b2 b3 b4 b5 cI cZ 0 (upd bf k y) pw hs lo lg rt nb (nI fi) (nI fo) (nI en) 0 cu ma ++ wO oj cJ og)) := hD.sub [0, 1, 2, 3, 4, 5, 6, 8, 9, 10, 11, 12, 13, 14, 7] (by decide) rfl
      refine lv_aload_n hx hb dL_law_174 rfl (lv_at hl 3 rfl) ?_
      refine k_I (wr := wC h0 a0 a1 a2 a3 a4 a5 cI cZ (upd bf k y) pw hs lo lg rt nb (nI fi) (nI fo) (nI en) 1 cu ma ++ wO oj cJ og) hP hD hS hA (va_runV (As := []) (rest := []) ⟨hx, hb, hml, hown, hts⟩ (tX1_thrown 0 (upd bf k y) pw hs lo lg rt nb fi fo en 0 cu ma _) (cwV 0 hts gL_law_X1_thrown rfl rfl rfl (by decide +kernel) ⟨Nat.le_of_ble_eq_true rfl, Nat.le_of_ble_eq_true rfl⟩) (pV_B hP hD hK (ci := 1) (q0 := 7) rfl rfl rfl [0, 1] rfl [7, 8, 9, 10, 11, 12, 13] rfl rfl) rfl rfl hl.1 rfl (lv_room (Nat.le_of_ble_eq_true rfl)) dL_law_175 hc9) [7, 8, 9, 10, 11, 12, 13] [0, 1, 2, 3, 4, 5, 6, 14] rfl rfl rfl (by decide) (fun H locs hP hD hS => ?_)
      have hP : va_P D vwCl (wC h0 a0 a1 a2 a3 a4 a5 cI cZ (upd bf k y) pw hs lo lg rt nb (nI fi) (nI fo) (nI en) 1 cu ma ++ (wM g0 b0 b1 b2 b3 b4 b5 cI cZ 0 (upd bf k y) pw hs lo lg rt nb (nI fi) (nI fo) (nI en) 0 cu ma ++ wO oj cJ og)) H := hP.sub [0, 1, 2, 3, 4, 5, 6, 8, 9, 10, 11, 12, 13, 14, 7] rfl
      have hD : va_D A (wC h0 a0 a1 a2 a3 a4 a5 cI cZ (upd bf k y) pw hs lo lg rt nb (nI fi) (nI fo) (nI en) 1 cu ma ++ (wM g0 b0 b1 b2 b3 b4 b5 cI cZ 0 (upd bf k y) pw hs lo lg rt nb (nI fi) (nI fo) (nI en) 0 cu ma ++ wO oj cJ og)) := hD.sub [0, 1, 2, 3, 4, 5, 6, 8, 9, 10, 11, 12, 13, 14, 7] (by decide) rfl
      refine lv_iload hx hb dL_law_178 (lv_at hl 0 rfl) ?_
      refine lv_icmp_eq (tgt := 185) hx hb dL_law_180 (by decide) (fun c_180 => ?_) (fun c_180 => absurd (by decide) c_180)
      refine lv_goto (tgt := 1176) hx hb dL_law_185 (by decide) ?_
      refine W.widen (k := 15 + (j9 + 1)) (n := 199844 + 6 * (j9 + 1)) (by omega) (by omega) ?_
      refine lv_iinc (v := nI (4 * (j9 + 1))) (lv' := [(4, .int (nI (4 * (j9 + 1)))), (5, .int 0), (0, .ref b), (1, .ref h0), (2, .ref g0), (3, .ref oj)]) hx hb dL_law_1176 hl (k := 5) rfl (nI_add (4 * j9) 4) (by decide) rfl (fun ls hl => ?_)
      refine lv_goto (tgt := 23) hx hb dL_law_1179 (by decide) ?_
      exact IH (upd bf k y) pw hs lo lg rt nb fi fo en 1 0 cu ma 0 og _ _ _ (Or.inr ⟨rfl, rfl⟩) (by omega) (by omega) (by omega) hcu hP hD hS (lv_sub hl [2, 3, 4, 5, 0] rfl)
set_option maxHeartbeats 4000000 in
set_option maxRecDepth 100000 in
theorem lo_fill {p : Program} {l : Launch} {e : Env} {s : State} {m : MethodId} {below : List Frame} {meth : Method} {c : Code} {Q : State → Prop} {D : va_G} {A : Nat → Prop} {cI cZ cJ : ClassId} {b L : Nat} {xs : Nat → Int32} {h0 a0 a1 a2 a3 a4 a5 g0 b0 b1 b2 b3 b4 b5 oj : Nat} (hl0 : l.stackTraces = false) (hx : p.tables.exec = Jvm.exec) (hb : c.code = code) (hml : c.maxLocals = 7) (hown : s.vm.findClass RL = some m.cls) (hts : ∀ w ∈ wsL_law, w.before #[Value.ref b] s = true) (hX : va_X b L xs s s.heap) (hbl : b < s.heap.size) (hbA : ¬ A b) (hA : ∀ q : Nat, s.heap.size ≤ q → A q) (hK : va_K D vwCl (tyL cI cZ cJ) s) (hT : xT A s s.heap) (hL : L ≤ 2048) (j9 : Nat) (hj : 4 * j9 + 4 ≤ L)
    (IH : lgW p l e s m below meth c Q D A cI cZ cJ b h0 a0 a1 a2 a3 a4 a5 g0 b0 b1 b2 b3 b4 b5 oj (j9 + 1))
    (bf pw hs lo lg rt : Nat → Int32) (nb : Int32) (fi fo en : Nat) (on off cu ma th : Int32) (og : Nat → Int64) (H : Heap) (locs : List Loc) (ls : Array Slot) (hpo : (on = 0 ∧ off = 1) ∨ (on = 1 ∧ off = 0)) (hi1 : fi ≤ fo) (hi2 : fo ≤ en) (hi3 : en ≤ 64 * j9) (hcu : -1 ≤ cu)
    (hP : va_P D vwCl (wA h0 a0 a1 a2 a3 a4 a5 g0 b0 b1 b2 b3 b4 b5 oj cI cZ cJ bf pw hs lo lg rt nb fi fo en on off cu ma th og) H) (hD : va_D A (wA h0 a0 a1 a2 a3 a4 a5 g0 b0 b1 b2 b3 b4 b5 oj cI cZ cJ bf pw hs lo lg rt nb fi fo en on off cu ma th og)) (hS : va_S A s.heap H locs) (hl : lv_has ls 7 [(0, .ref b), (1, .ref h0), (2, .ref g0), (3, .ref oj), (4, .int (nI (4 * j9)))]) :
    W p l e room_1 s m #[Value.ref b] below meth c H locs (15 + j9) (199844 + 6 * j9) Q (F0 m 188 ls []) := by
  have he : en ≤ 60000 := by omega
  have hc0 : 15 + j9 + 0 ≤ room_1.cells ∧ 199844 + 6 * j9 + 0 ≤ room_1.slots := ⟨show 15 + j9 + 0 ≤ 601024 by omega, show 199844 + 6 * j9 + 0 ≤ 7293034 by omega⟩
  have hc1 : 15 + j9 + 1 ≤ room_1.cells ∧ 199844 + 6 * j9 + 6 ≤ room_1.slots := ⟨show 15 + j9 + 1 ≤ 601024 by omega, show 199844 + 6 * j9 + 6 ≤ 7293034 by omega⟩
  have hc9 : 15 + j9 + 1 + 0 ≤ room_1.cells ∧ 199844 + 6 * j9 + 6 + 0 ≤ room_1.slots := hc1
  obtain ⟨x, ex⟩ : ∃ z9, xs (4 * j9 + 1) = z9 := ⟨_, rfl⟩
  obtain ⟨y, ey⟩ : ∃ z9, xs (4 * j9 + 2) = z9 := ⟨_, rfl⟩
  rcases hpo with ⟨rfl, rfl⟩ | ⟨rfl, rfl⟩
  · have hP : va_P D vwCl (wC h0 a0 a1 a2 a3 a4 a5 cI cZ bf pw hs lo lg rt nb (nI fi) (nI fo) (nI en) 0 cu ma ++ (wM g0 b0 b1 b2 b3 b4 b5 cI cZ th bf pw hs lo lg rt nb (nI fi) (nI fo) (nI en) 1 cu ma ++ wO oj cJ og)) H := hP
    have hD : va_D A (wC h0 a0 a1 a2 a3 a4 a5 cI cZ bf pw hs lo lg rt nb (nI fi) (nI fo) (nI en) 0 cu ma ++ (wM g0 b0 b1 b2 b3 b4 b5 cI cZ th bf pw hs lo lg rt nb (nI fi) (nI fo) (nI en) 1 cu ma ++ wO oj cJ og)) := hD
    refine lv_aload_n hx hb dL_law_188 rfl (lv_at hl 1 rfl) ?_
    refine lv_aload_n hx hb dL_law_189 rfl (lv_at hl 0 rfl) ?_
    refine lv_iload hx hb dL_law_190 (lv_at hl 4 rfl) ?_
    refine lv_iconst (v := (nI 1)) hx hb dL_law_192 (by decide) ?_
    refine n_iadd hx hb dL_law_193 ?_
    refine n_sld hx hb hX hbl hbA hS (4 * j9 + 1) (by omega) (by omega) (x) ex dL_law_194 ?_
    refine lv_aload_n hx hb dL_law_195 rfl (lv_at hl 0 rfl) ?_
    refine lv_iload hx hb dL_law_196 (lv_at hl 4 rfl) ?_
    refine lv_iconst (v := (nI 2)) hx hb dL_law_198 (by decide) ?_
    refine n_iadd hx hb dL_law_199 ?_
    refine n_sld hx hb hX hbl hbA hS (4 * j9 + 2) (by omega) (by omega) (y) ey dL_law_200 ?_
    refine k_I (wr := wM g0 b0 b1 b2 b3 b4 b5 cI cZ th bf pw hs lo lg rt nb (nI fi) (nI fo) (nI en) 1 cu ma ++ wO oj cJ og) hP hD hS hA (vx_runSW (As := [.ref h0, .int x, .int y]) (rest := []) ⟨hx, hb, hml, hown, hts⟩ (tL_fill_x0 hl0 bf pw hs lo lg rt nb fi fo en cu ma x y oj og _) (vx_cwSW 3 hts gL_law_L_fill rfl rfl rfl (by decide +kernel) ⟨Nat.le_of_ble_eq_true rfl, Nat.le_of_ble_eq_true rfl⟩) (pS_X hP hD hK hS hA hT [0, 1, 2] rfl [0, 1, 2, 3, 4, 5, 6] rfl rfl) rfl rfl hl.1 rfl (lv_room (Nat.le_of_ble_eq_true rfl)) dL_law_201 hc1) [0, 1, 2, 3, 4, 5, 6] [7, 8, 9, 10, 11, 12, 13, 14] rfl rfl rfl (by decide) (fun H locs hP hD hS => ?_)
    have hP : va_P D vwCl (wC h0 a0 a1 a2 a3 a4 a5 cI cZ bf pw hs lo lg rt nb (nI fi) (nI fo) (nI en) 0 cu ma ++ (wM g0 b0 b1 b2 b3 b4 b5 cI cZ th bf pw hs lo lg rt nb (nI fi) (nI fo) (nI en) 1 cu ma ++ wO oj cJ og)) H := hP.sub [8, 9, 10, 11, 12, 13, 14, 0, 1, 2, 3, 4, 5, 6, 7] rfl
    have hD : va_D A (wC h0 a0 a1 a2 a3 a4 a5 cI cZ bf pw hs lo lg rt nb (nI fi) (nI fo) (nI en) 0 cu ma ++ (wM g0 b0 b1 b2 b3 b4 b5 cI cZ th bf pw hs lo lg rt nb (nI fi) (nI fo) (nI en) 1 cu ma ++ wO oj cJ og)) := hD.sub [8, 9, 10, 11, 12, 13, 14, 0, 1, 2, 3, 4, 5, 6, 7] (by decide) rfl
    refine lv_istore (lv' := [(5, .int 1), (0, .ref b), (1, .ref h0), (2, .ref g0), (3, .ref oj), (4, .int (nI (4 * j9)))]) hx hb dL_law_204 hl (by decide) rfl (fun ls hl => ?_)
    refine lv_aload_n hx hb dL_law_206 rfl (lv_at hl 3 rfl) ?_
    refine lv_aload_n hx hb dL_law_207 rfl (lv_at hl 1 rfl) ?_
    refine lv_iload hx hb dL_law_208 (lv_at hl 5 rfl) ?_
    refine lv_iconst (v := (nI 1)) hx hb dL_law_210 (by decide) ?_
    refine n_iadd hx hb dL_law_211 ?_
    refine n_sld hx hb hX hbl hbA hS (4 * j9 + 1) (by omega) (by omega) (x) ex dL_law_212 ?_
    refine lv_aload_n hx hb dL_law_213 rfl (lv_at hl 1 rfl) ?_
    refine lv_iload hx hb dL_law_214 (lv_at hl 5 rfl) ?_
    refine lv_iconst (v := (nI 2)) hx hb dL_law_216 (by decide) ?_
    refine n_iadd hx hb dL_law_217 ?_
    refine n_sld hx hb hX hbl hbA hS (4 * j9 + 2) (by omega) (by omega) (y) ey dL_law_218 ?_
    refine k_V (wr := wC h0 a0 a1 a2 a3 a4 a5 cI cZ bf pw hs lo lg rt nb (nI fi) (nI fo) (nI en) 0 cu ma ++ wO oj cJ og) hP hD hS hA (va_runV (As := [.int x, .int y]) (rest := []) ⟨hx, hb, hml, hown, hts⟩ (tX1_fill_x0 th bf pw hs lo lg rt nb fi fo en cu ma x y _) (cwV 2 hts gL_law_X1_fill rfl rfl rfl (by decide +kernel) ⟨Nat.le_of_ble_eq_true rfl, Nat.le_of_ble_eq_true rfl⟩) (pV_B hP hD hK (ci := 1) (q0 := 7) rfl rfl rfl [0, 1] rfl [7, 8, 9, 10, 11, 12, 13] rfl rfl) rfl rfl hl.1 rfl (lv_room (Nat.le_of_ble_eq_true rfl)) dL_law_219 hc9) [7, 8, 9, 10, 11, 12, 13] [0, 1, 2, 3, 4, 5, 6, 14] rfl rfl rfl (by decide) (fun H locs hP hD hS => ?_)
    have hP : va_P D vwCl (wC h0 a0 a1 a2 a3 a4 a5 cI cZ bf pw hs lo lg rt nb (nI fi) (nI fo) (nI en) 0 cu ma ++ (wM g0 b0 b1 b2 b3 b4 b5 cI cZ 1 bf pw hs lo lg rt nb (nI fi) (nI fo) (nI en) 1 cu ma ++ wO oj cJ og)) H := hP.sub [0, 1, 2, 3, 4, 5, 6, 8, 9, 10, 11, 12, 13, 14, 7] rfl
    have hD : va_D A (wC h0 a0 a1 a2 a3 a4 a5 cI cZ bf pw hs lo lg rt nb (nI fi) (nI fo) (nI en) 0 cu ma ++ (wM g0 b0 b1 b2 b3 b4 b5 cI cZ 1 bf pw hs lo lg rt nb (nI fi) (nI fo) (nI en) 1 cu ma ++ wO oj cJ og)) := hD.sub [0, 1, 2, 3, 4, 5, 6, 8, 9, 10, 11, 12, 13, 14, 7] (by decide) rfl
    refine lv_aload_n hx hb dL_law_222 rfl (lv_at hl 3 rfl) ?_
    refine k_I (wr := wC h0 a0 a1 a2 a3 a4 a5 cI cZ bf pw hs lo lg rt nb (nI fi) (nI fo) (nI en) 0 cu ma ++ wO oj cJ og) hP hD hS hA (va_runV (As := []) (rest := []) ⟨hx, hb, hml, hown, hts⟩ (tX1_thrown 1 bf pw hs lo lg rt nb fi fo en 1 cu ma _) (cwV 0 hts gL_law_X1_thrown rfl rfl rfl (by decide +kernel) ⟨Nat.le_of_ble_eq_true rfl, Nat.le_of_ble_eq_true rfl⟩) (pV_B hP hD hK (ci := 1) (q0 := 7) rfl rfl rfl [0, 1] rfl [7, 8, 9, 10, 11, 12, 13] rfl rfl) rfl rfl hl.1 rfl (lv_room (Nat.le_of_ble_eq_true rfl)) dL_law_223 hc9) [7, 8, 9, 10, 11, 12, 13] [0, 1, 2, 3, 4, 5, 6, 14] rfl rfl rfl (by decide) (fun H locs hP hD hS => ?_)
    have hP : va_P D vwCl (wC h0 a0 a1 a2 a3 a4 a5 cI cZ bf pw hs lo lg rt nb (nI fi) (nI fo) (nI en) 0 cu ma ++ (wM g0 b0 b1 b2 b3 b4 b5 cI cZ 1 bf pw hs lo lg rt nb (nI fi) (nI fo) (nI en) 1 cu ma ++ wO oj cJ og)) H := hP.sub [0, 1, 2, 3, 4, 5, 6, 8, 9, 10, 11, 12, 13, 14, 7] rfl
    have hD : va_D A (wC h0 a0 a1 a2 a3 a4 a5 cI cZ bf pw hs lo lg rt nb (nI fi) (nI fo) (nI en) 0 cu ma ++ (wM g0 b0 b1 b2 b3 b4 b5 cI cZ 1 bf pw hs lo lg rt nb (nI fi) (nI fo) (nI en) 1 cu ma ++ wO oj cJ og)) := hD.sub [0, 1, 2, 3, 4, 5, 6, 8, 9, 10, 11, 12, 13, 14, 7] (by decide) rfl
    refine lv_iload hx hb dL_law_226 (lv_at hl 0 rfl) ?_
    refine lv_icmp_eq (tgt := 233) hx hb dL_law_228 (by decide) (fun c_228 => ?_) (fun c_228 => absurd (by decide) c_228)
    refine lv_goto (tgt := 1176) hx hb dL_law_233 (by decide) ?_
    refine W.widen (k := 15 + (j9 + 1)) (n := 199844 + 6 * (j9 + 1)) (by omega) (by omega) ?_
    refine lv_iinc (v := nI (4 * (j9 + 1))) (lv' := [(4, .int (nI (4 * (j9 + 1)))), (5, .int 1), (0, .ref b), (1, .ref h0), (2, .ref g0), (3, .ref oj)]) hx hb dL_law_1176 hl (k := 5) rfl (nI_add (4 * j9) 4) (by decide) rfl (fun ls hl => ?_)
    refine lv_goto (tgt := 23) hx hb dL_law_1179 (by decide) ?_
    exact IH bf pw hs lo lg rt nb fi fo en 0 1 cu ma 1 og _ _ _ (Or.inl ⟨rfl, rfl⟩) (by omega) (by omega) (by omega) hcu hP hD hS (lv_sub hl [2, 3, 4, 5, 0] rfl)
  · have hP : va_P D vwCl (wC h0 a0 a1 a2 a3 a4 a5 cI cZ bf pw hs lo lg rt nb (nI fi) (nI fo) (nI en) 1 cu ma ++ (wM g0 b0 b1 b2 b3 b4 b5 cI cZ th bf pw hs lo lg rt nb (nI fi) (nI fo) (nI en) 0 cu ma ++ wO oj cJ og)) H := hP
    have hD : va_D A (wC h0 a0 a1 a2 a3 a4 a5 cI cZ bf pw hs lo lg rt nb (nI fi) (nI fo) (nI en) 1 cu ma ++ (wM g0 b0 b1 b2 b3 b4 b5 cI cZ th bf pw hs lo lg rt nb (nI fi) (nI fo) (nI en) 0 cu ma ++ wO oj cJ og)) := hD
    refine lv_aload_n hx hb dL_law_188 rfl (lv_at hl 1 rfl) ?_
    refine lv_aload_n hx hb dL_law_189 rfl (lv_at hl 0 rfl) ?_
    refine lv_iload hx hb dL_law_190 (lv_at hl 4 rfl) ?_
    refine lv_iconst (v := (nI 1)) hx hb dL_law_192 (by decide) ?_
    refine n_iadd hx hb dL_law_193 ?_
    refine n_sld hx hb hX hbl hbA hS (4 * j9 + 1) (by omega) (by omega) (x) ex dL_law_194 ?_
    refine lv_aload_n hx hb dL_law_195 rfl (lv_at hl 0 rfl) ?_
    refine lv_iload hx hb dL_law_196 (lv_at hl 4 rfl) ?_
    refine lv_iconst (v := (nI 2)) hx hb dL_law_198 (by decide) ?_
    refine n_iadd hx hb dL_law_199 ?_
    refine n_sld hx hb hX hbl hbA hS (4 * j9 + 2) (by omega) (by omega) (y) ey dL_law_200 ?_
    refine k_I (wr := wM g0 b0 b1 b2 b3 b4 b5 cI cZ th bf pw hs lo lg rt nb (nI fi) (nI fo) (nI en) 0 cu ma ++ wO oj cJ og) hP hD hS hA (vx_runSW (As := [.ref h0, .int x, .int y]) (rest := []) ⟨hx, hb, hml, hown, hts⟩ (tL_fill_ok hl0 bf pw hs lo lg rt nb fi fo en cu ma x y oj og _) (vx_cwSW 3 hts gL_law_L_fill rfl rfl rfl (by decide +kernel) ⟨Nat.le_of_ble_eq_true rfl, Nat.le_of_ble_eq_true rfl⟩) (pS_X hP hD hK hS hA hT [0, 1, 2] rfl [0, 1, 2, 3, 4, 5, 6] rfl rfl) rfl rfl hl.1 rfl (lv_room (Nat.le_of_ble_eq_true rfl)) dL_law_201 hc1) [0, 1, 2, 3, 4, 5, 6] [7, 8, 9, 10, 11, 12, 13, 14] rfl rfl rfl (by decide) (fun H locs hP hD hS => ?_)
    have hP : va_P D vwCl (wC h0 a0 a1 a2 a3 a4 a5 cI cZ (fl (fun j => x + nI j * y) 64 bf) pw hs lo lg rt nb (nI fi) (nI fo) (nI en) 1 cu ma ++ (wM g0 b0 b1 b2 b3 b4 b5 cI cZ th bf pw hs lo lg rt nb (nI fi) (nI fo) (nI en) 0 cu ma ++ wO oj cJ og)) H := hP.sub [8, 9, 10, 11, 12, 13, 14, 0, 1, 2, 3, 4, 5, 6, 7] rfl
    have hD : va_D A (wC h0 a0 a1 a2 a3 a4 a5 cI cZ (fl (fun j => x + nI j * y) 64 bf) pw hs lo lg rt nb (nI fi) (nI fo) (nI en) 1 cu ma ++ (wM g0 b0 b1 b2 b3 b4 b5 cI cZ th bf pw hs lo lg rt nb (nI fi) (nI fo) (nI en) 0 cu ma ++ wO oj cJ og)) := hD.sub [8, 9, 10, 11, 12, 13, 14, 0, 1, 2, 3, 4, 5, 6, 7] (by decide) rfl
    refine lv_istore (lv' := [(5, .int 0), (0, .ref b), (1, .ref h0), (2, .ref g0), (3, .ref oj), (4, .int (nI (4 * j9)))]) hx hb dL_law_204 hl (by decide) rfl (fun ls hl => ?_)
    refine lv_aload_n hx hb dL_law_206 rfl (lv_at hl 3 rfl) ?_
    refine lv_aload_n hx hb dL_law_207 rfl (lv_at hl 1 rfl) ?_
    refine lv_iload hx hb dL_law_208 (lv_at hl 5 rfl) ?_
    refine lv_iconst (v := (nI 1)) hx hb dL_law_210 (by decide) ?_
    refine n_iadd hx hb dL_law_211 ?_
    refine n_sld hx hb hX hbl hbA hS (4 * j9 + 1) (by omega) (by omega) (x) ex dL_law_212 ?_
    refine lv_aload_n hx hb dL_law_213 rfl (lv_at hl 1 rfl) ?_
    refine lv_iload hx hb dL_law_214 (lv_at hl 5 rfl) ?_
    refine lv_iconst (v := (nI 2)) hx hb dL_law_216 (by decide) ?_
    refine n_iadd hx hb dL_law_217 ?_
    refine n_sld hx hb hX hbl hbA hS (4 * j9 + 2) (by omega) (by omega) (y) ey dL_law_218 ?_
    refine k_V (wr := wC h0 a0 a1 a2 a3 a4 a5 cI cZ (fl (fun j => x + nI j * y) 64 bf) pw hs lo lg rt nb (nI fi) (nI fo) (nI en) 1 cu ma ++ wO oj cJ og) hP hD hS hA (va_runV (As := [.int x, .int y]) (rest := []) ⟨hx, hb, hml, hown, hts⟩ (tX1_fill_ok th bf pw hs lo lg rt nb fi fo en cu ma x y _) (cwV 2 hts gL_law_X1_fill rfl rfl rfl (by decide +kernel) ⟨Nat.le_of_ble_eq_true rfl, Nat.le_of_ble_eq_true rfl⟩) (pV_B hP hD hK (ci := 1) (q0 := 7) rfl rfl rfl [0, 1] rfl [7, 8, 9, 10, 11, 12, 13] rfl rfl) rfl rfl hl.1 rfl (lv_room (Nat.le_of_ble_eq_true rfl)) dL_law_219 hc9) [7, 8, 9, 10, 11, 12, 13] [0, 1, 2, 3, 4, 5, 6, 14] rfl rfl rfl (by decide) (fun H locs hP hD hS => ?_)
    have hP : va_P D vwCl (wC h0 a0 a1 a2 a3 a4 a5 cI cZ (fl (fun j => x + nI j * y) 64 bf) pw hs lo lg rt nb (nI fi) (nI fo) (nI en) 1 cu ma ++ (wM g0 b0 b1 b2 b3 b4 b5 cI cZ 0 (fl (fun j => x + nI j * y) 64 bf) pw hs lo lg rt nb (nI fi) (nI fo) (nI en) 0 cu ma ++ wO oj cJ og)) H := hP.sub [0, 1, 2, 3, 4, 5, 6, 8, 9, 10, 11, 12, 13, 14, 7] rfl
    have hD : va_D A (wC h0 a0 a1 a2 a3 a4 a5 cI cZ (fl (fun j => x + nI j * y) 64 bf) pw hs lo lg rt nb (nI fi) (nI fo) (nI en) 1 cu ma ++ (wM g0 b0 b1 b2 b3 b4 b5 cI cZ 0 (fl (fun j => x + nI j * y) 64 bf) pw hs lo lg rt nb (nI fi) (nI fo) (nI en) 0 cu ma ++ wO oj cJ og)) := hD.sub [0, 1, 2, 3, 4, 5, 6, 8, 9, 10, 11, 12, 13, 14, 7] (by decide) rfl
    refine lv_aload_n hx hb dL_law_222 rfl (lv_at hl 3 rfl) ?_
    refine k_I (wr := wC h0 a0 a1 a2 a3 a4 a5 cI cZ (fl (fun j => x + nI j * y) 64 bf) pw hs lo lg rt nb (nI fi) (nI fo) (nI en) 1 cu ma ++ wO oj cJ og) hP hD hS hA (va_runV (As := []) (rest := []) ⟨hx, hb, hml, hown, hts⟩ (tX1_thrown 0 (fl (fun j => x + nI j * y) 64 bf) pw hs lo lg rt nb fi fo en 0 cu ma _) (cwV 0 hts gL_law_X1_thrown rfl rfl rfl (by decide +kernel) ⟨Nat.le_of_ble_eq_true rfl, Nat.le_of_ble_eq_true rfl⟩) (pV_B hP hD hK (ci := 1) (q0 := 7) rfl rfl rfl [0, 1] rfl [7, 8, 9, 10, 11, 12, 13] rfl rfl) rfl rfl hl.1 rfl (lv_room (Nat.le_of_ble_eq_true rfl)) dL_law_223 hc9) [7, 8, 9, 10, 11, 12, 13] [0, 1, 2, 3, 4, 5, 6, 14] rfl rfl rfl (by decide) (fun H locs hP hD hS => ?_)
    have hP : va_P D vwCl (wC h0 a0 a1 a2 a3 a4 a5 cI cZ (fl (fun j => x + nI j * y) 64 bf) pw hs lo lg rt nb (nI fi) (nI fo) (nI en) 1 cu ma ++ (wM g0 b0 b1 b2 b3 b4 b5 cI cZ 0 (fl (fun j => x + nI j * y) 64 bf) pw hs lo lg rt nb (nI fi) (nI fo) (nI en) 0 cu ma ++ wO oj cJ og)) H := hP.sub [0, 1, 2, 3, 4, 5, 6, 8, 9, 10, 11, 12, 13, 14, 7] rfl
    have hD : va_D A (wC h0 a0 a1 a2 a3 a4 a5 cI cZ (fl (fun j => x + nI j * y) 64 bf) pw hs lo lg rt nb (nI fi) (nI fo) (nI en) 1 cu ma ++ (wM g0 b0 b1 b2 b3 b4 b5 cI cZ 0 (fl (fun j => x + nI j * y) 64 bf) pw hs lo lg rt nb (nI fi) (nI fo) (nI en) 0 cu ma ++ wO oj cJ og)) := hD.sub [0, 1, 2, 3, 4, 5, 6, 8, 9, 10, 11, 12, 13, 14, 7] (by decide) rfl
    refine lv_iload hx hb dL_law_226 (lv_at hl 0 rfl) ?_
    refine lv_icmp_eq (tgt := 233) hx hb dL_law_228 (by decide) (fun c_228 => ?_) (fun c_228 => absurd (by decide) c_228)
    refine lv_goto (tgt := 1176) hx hb dL_law_233 (by decide) ?_
    refine W.widen (k := 15 + (j9 + 1)) (n := 199844 + 6 * (j9 + 1)) (by omega) (by omega) ?_
    refine lv_iinc (v := nI (4 * (j9 + 1))) (lv' := [(4, .int (nI (4 * (j9 + 1)))), (5, .int 0), (0, .ref b), (1, .ref h0), (2, .ref g0), (3, .ref oj)]) hx hb dL_law_1176 hl (k := 5) rfl (nI_add (4 * j9) 4) (by decide) rfl (fun ls hl => ?_)
    refine lv_goto (tgt := 23) hx hb dL_law_1179 (by decide) ?_
    exact IH (fl (fun j => x + nI j * y) 64 bf) pw hs lo lg rt nb fi fo en 1 0 cu ma 0 og _ _ _ (Or.inr ⟨rfl, rfl⟩) (by omega) (by omega) (by omega) hcu hP hD hS (lv_sub hl [2, 3, 4, 5, 0] rfl)
set_option maxHeartbeats 4000000 in
set_option maxRecDepth 100000 in
theorem lo_get {p : Program} {l : Launch} {e : Env} {s : State} {m : MethodId} {below : List Frame} {meth : Method} {c : Code} {Q : State → Prop} {D : va_G} {A : Nat → Prop} {cI cZ cJ : ClassId} {b L : Nat} {xs : Nat → Int32} {h0 a0 a1 a2 a3 a4 a5 g0 b0 b1 b2 b3 b4 b5 oj : Nat} (hl0 : l.stackTraces = false) (hx : p.tables.exec = Jvm.exec) (hb : c.code = code) (hml : c.maxLocals = 7) (hown : s.vm.findClass RL = some m.cls) (hts : ∀ w ∈ wsL_law, w.before #[Value.ref b] s = true) (hX : va_X b L xs s s.heap) (hbl : b < s.heap.size) (hbA : ¬ A b) (hA : ∀ q : Nat, s.heap.size ≤ q → A q) (hK : va_K D vwCl (tyL cI cZ cJ) s) (hT : xT A s s.heap) (hL : L ≤ 2048) (j9 : Nat) (hj : 4 * j9 + 4 ≤ L)
    (IH : lgW p l e s m below meth c Q D A cI cZ cJ b h0 a0 a1 a2 a3 a4 a5 g0 b0 b1 b2 b3 b4 b5 oj (j9 + 1))
    (bf pw hs lo lg rt : Nat → Int32) (nb : Int32) (fi fo en : Nat) (on off cu ma th : Int32) (og : Nat → Int64) (H : Heap) (locs : List Loc) (ls : Array Slot) (hpo : (on = 0 ∧ off = 1) ∨ (on = 1 ∧ off = 0)) (hi1 : fi ≤ fo) (hi2 : fo ≤ en) (hi3 : en ≤ 64 * j9) (hcu : -1 ≤ cu)
    (hP : va_P D vwCl (wA h0 a0 a1 a2 a3 a4 a5 g0 b0 b1 b2 b3 b4 b5 oj cI cZ cJ bf pw hs lo lg rt nb fi fo en on off cu ma th og) H) (hD : va_D A (wA h0 a0 a1 a2 a3 a4 a5 g0 b0 b1 b2 b3 b4 b5 oj cI cZ cJ bf pw hs lo lg rt nb fi fo en on off cu ma th og)) (hS : va_S A s.heap H locs) (hl : lv_has ls 7 [(0, .ref b), (1, .ref h0), (2, .ref g0), (3, .ref oj), (4, .int (nI (4 * j9)))]) :
    W p l e room_1 s m #[Value.ref b] below meth c H locs (15 + j9) (199844 + 6 * j9) Q (F0 m 236 ls []) := by
  have he : en ≤ 60000 := by omega
  have hc0 : 15 + j9 + 0 ≤ room_1.cells ∧ 199844 + 6 * j9 + 0 ≤ room_1.slots := ⟨show 15 + j9 + 0 ≤ 601024 by omega, show 199844 + 6 * j9 + 0 ≤ 7293034 by omega⟩
  have hc1 : 15 + j9 + 1 ≤ room_1.cells ∧ 199844 + 6 * j9 + 6 ≤ room_1.slots := ⟨show 15 + j9 + 1 ≤ 601024 by omega, show 199844 + 6 * j9 + 6 ≤ 7293034 by omega⟩
  have hc9 : 15 + j9 + 1 + 0 ≤ room_1.cells ∧ 199844 + 6 * j9 + 6 + 0 ≤ room_1.slots := hc1
  obtain ⟨x, ex⟩ : ∃ z9, xs (4 * j9 + 1) = z9 := ⟨_, rfl⟩
  rcases ix_cases x 64 (by omega) with h | ⟨k, hk, rfl⟩
  · have hP : va_P D vwCl (wC h0 a0 a1 a2 a3 a4 a5 cI cZ bf pw hs lo lg rt nb (nI fi) (nI fo) (nI en) on cu ma ++ (wM g0 b0 b1 b2 b3 b4 b5 cI cZ th bf pw hs lo lg rt nb (nI fi) (nI fo) (nI en) off cu ma ++ wO oj cJ og)) H := hP
    have hD : va_D A (wC h0 a0 a1 a2 a3 a4 a5 cI cZ bf pw hs lo lg rt nb (nI fi) (nI fo) (nI en) on cu ma ++ (wM g0 b0 b1 b2 b3 b4 b5 cI cZ th bf pw hs lo lg rt nb (nI fi) (nI fo) (nI en) off cu ma ++ wO oj cJ og)) := hD
    refine lv_aload_n hx hb dL_law_236 rfl (lv_at hl 1 rfl) ?_
    refine lv_aload_n hx hb dL_law_237 rfl (lv_at hl 0 rfl) ?_
    refine lv_iload hx hb dL_law_238 (lv_at hl 4 rfl) ?_
    refine lv_iconst (v := (nI 1)) hx hb dL_law_240 (by decide) ?_
    refine n_iadd hx hb dL_law_241 ?_
    refine n_sld hx hb hX hbl hbA hS (4 * j9 + 1) (by omega) (by omega) (x) ex dL_law_242 ?_
    refine lv_aload_n hx hb dL_law_243 rfl (lv_at hl 3 rfl) ?_
    refine k_I (wr := wM g0 b0 b1 b2 b3 b4 b5 cI cZ th bf pw hs lo lg rt nb (nI fi) (nI fo) (nI en) off cu ma) hP hD hS hA (vx_runSW (As := [.ref h0, .int x, .ref oj]) (rest := []) ⟨hx, hb, hml, hown, hts⟩ (tL_get_xb hl0 bf pw hs lo lg rt nb fi fo en on cu ma x h oj og _) (vx_cwSW 3 hts gL_law_L_get rfl rfl rfl (by decide +kernel) ⟨Nat.le_of_ble_eq_true rfl, Nat.le_of_ble_eq_true rfl⟩) (pS_X hP hD hK hS hA hT [0, 1, 2] rfl [0, 1, 2, 3, 4, 5, 6, 14] rfl rfl) rfl rfl hl.1 rfl (lv_room (Nat.le_of_ble_eq_true rfl)) dL_law_244 hc1) [0, 1, 2, 3, 4, 5, 6, 14] [7, 8, 9, 10, 11, 12, 13] rfl rfl rfl (by decide) (fun H locs hP hD hS => ?_)
    have hP : va_P D vwCl (wC h0 a0 a1 a2 a3 a4 a5 cI cZ bf pw hs lo lg rt nb (nI fi) (nI fo) (nI en) on cu ma ++ (wM g0 b0 b1 b2 b3 b4 b5 cI cZ th bf pw hs lo lg rt nb (nI fi) (nI fo) (nI en) off cu ma ++ wO oj cJ og)) H := hP.sub [7, 8, 9, 10, 11, 12, 13, 0, 1, 2, 3, 4, 5, 6, 14] rfl
    have hD : va_D A (wC h0 a0 a1 a2 a3 a4 a5 cI cZ bf pw hs lo lg rt nb (nI fi) (nI fo) (nI en) on cu ma ++ (wM g0 b0 b1 b2 b3 b4 b5 cI cZ th bf pw hs lo lg rt nb (nI fi) (nI fo) (nI en) off cu ma ++ wO oj cJ og)) := hD.sub [7, 8, 9, 10, 11, 12, 13, 0, 1, 2, 3, 4, 5, 6, 14] (by decide) rfl
    refine lv_istore (lv' := [(5, .int 1), (0, .ref b), (1, .ref h0), (2, .ref g0), (3, .ref oj), (4, .int (nI (4 * j9)))]) hx hb dL_law_247 hl (by decide) rfl (fun ls hl => ?_)
    refine lv_aload_n hx hb dL_law_249 rfl (lv_at hl 3 rfl) ?_
    refine lv_aload_n hx hb dL_law_250 rfl (lv_at hl 1 rfl) ?_
    refine lv_iload hx hb dL_law_251 (lv_at hl 5 rfl) ?_
    refine lv_iconst (v := (nI 1)) hx hb dL_law_253 (by decide) ?_
    refine n_iadd hx hb dL_law_254 ?_
    refine n_sld hx hb hX hbl hbA hS (4 * j9 + 1) (by omega) (by omega) (x) ex dL_law_255 ?_
    refine k_I (wr := wC h0 a0 a1 a2 a3 a4 a5 cI cZ bf pw hs lo lg rt nb (nI fi) (nI fo) (nI en) on cu ma ++ wO oj cJ og) hP hD hS hA (va_runV (As := [.int x]) (rest := []) ⟨hx, hb, hml, hown, hts⟩ (tX1_get_xb th bf pw hs lo lg rt nb fi fo en off cu ma x h _) (cwV 1 hts gL_law_X1_get rfl rfl rfl (by decide +kernel) ⟨Nat.le_of_ble_eq_true rfl, Nat.le_of_ble_eq_true rfl⟩) (pV_B hP hD hK (ci := 1) (q0 := 7) rfl rfl rfl [0, 1] rfl [7, 8, 9, 10, 11, 12, 13] rfl rfl) rfl rfl hl.1 rfl (lv_room (Nat.le_of_ble_eq_true rfl)) dL_law_256 hc9) [7, 8, 9, 10, 11, 12, 13] [0, 1, 2, 3, 4, 5, 6, 14] rfl rfl rfl (by decide) (fun H locs hP hD hS => ?_)
    have hP : va_P D vwCl (wC h0 a0 a1 a2 a3 a4 a5 cI cZ bf pw hs lo lg rt nb (nI fi) (nI fo) (nI en) on cu ma ++ (wM g0 b0 b1 b2 b3 b4 b5 cI cZ 1 bf pw hs lo lg rt nb (nI fi) (nI fo) (nI en) off cu ma ++ wO oj cJ og)) H := hP.sub [0, 1, 2, 3, 4, 5, 6, 8, 9, 10, 11, 12, 13, 14, 7] rfl
    have hD : va_D A (wC h0 a0 a1 a2 a3 a4 a5 cI cZ bf pw hs lo lg rt nb (nI fi) (nI fo) (nI en) on cu ma ++ (wM g0 b0 b1 b2 b3 b4 b5 cI cZ 1 bf pw hs lo lg rt nb (nI fi) (nI fo) (nI en) off cu ma ++ wO oj cJ og)) := hD.sub [0, 1, 2, 3, 4, 5, 6, 8, 9, 10, 11, 12, 13, 14, 7] (by decide) rfl
    refine lv_istore (lv' := [(6, .int 0), (5, .int 1), (0, .ref b), (1, .ref h0), (2, .ref g0), (3, .ref oj), (4, .int (nI (4 * j9)))]) hx hb dL_law_259 hl (by decide) rfl (fun ls hl => ?_)
    refine lv_aload_n hx hb dL_law_261 rfl (lv_at hl 4 rfl) ?_
    refine k_I (wr := wC h0 a0 a1 a2 a3 a4 a5 cI cZ bf pw hs lo lg rt nb (nI fi) (nI fo) (nI en) on cu ma ++ wO oj cJ og) hP hD hS hA (va_runV (As := []) (rest := []) ⟨hx, hb, hml, hown, hts⟩ (tX1_thrown 1 bf pw hs lo lg rt nb fi fo en off cu ma _) (cwV 0 hts gL_law_X1_thrown rfl rfl rfl (by decide +kernel) ⟨Nat.le_of_ble_eq_true rfl, Nat.le_of_ble_eq_true rfl⟩) (pV_B hP hD hK (ci := 1) (q0 := 7) rfl rfl rfl [0, 1] rfl [7, 8, 9, 10, 11, 12, 13] rfl rfl) rfl rfl hl.1 rfl (lv_room (Nat.le_of_ble_eq_true rfl)) dL_law_262 hc9) [7, 8, 9, 10, 11, 12, 13] [0, 1, 2, 3, 4, 5, 6, 14] rfl rfl rfl (by decide) (fun H locs hP hD hS => ?_)
    have hP : va_P D vwCl (wC h0 a0 a1 a2 a3 a4 a5 cI cZ bf pw hs lo lg rt nb (nI fi) (nI fo) (nI en) on cu ma ++ (wM g0 b0 b1 b2 b3 b4 b5 cI cZ 1 bf pw hs lo lg rt nb (nI fi) (nI fo) (nI en) off cu ma ++ wO oj cJ og)) H := hP.sub [0, 1, 2, 3, 4, 5, 6, 8, 9, 10, 11, 12, 13, 14, 7] rfl
    have hD : va_D A (wC h0 a0 a1 a2 a3 a4 a5 cI cZ bf pw hs lo lg rt nb (nI fi) (nI fo) (nI en) on cu ma ++ (wM g0 b0 b1 b2 b3 b4 b5 cI cZ 1 bf pw hs lo lg rt nb (nI fi) (nI fo) (nI en) off cu ma ++ wO oj cJ og)) := hD.sub [0, 1, 2, 3, 4, 5, 6, 8, 9, 10, 11, 12, 13, 14, 7] (by decide) rfl
    refine lv_iload hx hb dL_law_265 (lv_at hl 1 rfl) ?_
    refine lv_icmp_eq (tgt := 272) hx hb dL_law_267 (by decide) (fun c_267 => ?_) (fun c_267 => absurd (by decide) c_267)
    refine lv_iload hx hb dL_law_272 (lv_at hl 1 rfl) ?_
    refine lv_if_ne (tgt := 289) hx hb dL_law_274 (by decide) (fun c_274 => ?_) (fun c_274 => absurd c_274 (by decide))
    refine lv_goto (tgt := 1176) hx hb dL_law_289 (by decide) ?_
    refine W.widen (k := 15 + (j9 + 1)) (n := 199844 + 6 * (j9 + 1)) (by omega) (by omega) ?_
    refine lv_iinc (v := nI (4 * (j9 + 1))) (lv' := [(4, .int (nI (4 * (j9 + 1)))), (6, .int 0), (5, .int 1), (0, .ref b), (1, .ref h0), (2, .ref g0), (3, .ref oj)]) hx hb dL_law_1176 hl (k := 6) rfl (nI_add (4 * j9) 4) (by decide) rfl (fun ls hl => ?_)
    refine lv_goto (tgt := 23) hx hb dL_law_1179 (by decide) ?_
    exact IH bf pw hs lo lg rt nb fi fo en on off cu ma 1 og _ _ _ hpo (by omega) (by omega) (by omega) hcu hP hD hS (lv_sub hl [3, 4, 5, 6, 0] rfl)
  · have hP : va_P D vwCl (wC h0 a0 a1 a2 a3 a4 a5 cI cZ bf pw hs lo lg rt nb (nI fi) (nI fo) (nI en) on cu ma ++ (wM g0 b0 b1 b2 b3 b4 b5 cI cZ th bf pw hs lo lg rt nb (nI fi) (nI fo) (nI en) off cu ma ++ wO oj cJ og)) H := hP
    have hD : va_D A (wC h0 a0 a1 a2 a3 a4 a5 cI cZ bf pw hs lo lg rt nb (nI fi) (nI fo) (nI en) on cu ma ++ (wM g0 b0 b1 b2 b3 b4 b5 cI cZ th bf pw hs lo lg rt nb (nI fi) (nI fo) (nI en) off cu ma ++ wO oj cJ og)) := hD
    refine lv_aload_n hx hb dL_law_236 rfl (lv_at hl 1 rfl) ?_
    refine lv_aload_n hx hb dL_law_237 rfl (lv_at hl 0 rfl) ?_
    refine lv_iload hx hb dL_law_238 (lv_at hl 4 rfl) ?_
    refine lv_iconst (v := (nI 1)) hx hb dL_law_240 (by decide) ?_
    refine n_iadd hx hb dL_law_241 ?_
    refine n_sld hx hb hX hbl hbA hS (4 * j9 + 1) (by omega) (by omega) ((nI k)) ex dL_law_242 ?_
    refine lv_aload_n hx hb dL_law_243 rfl (lv_at hl 3 rfl) ?_
    refine k_I (wr := wM g0 b0 b1 b2 b3 b4 b5 cI cZ th bf pw hs lo lg rt nb (nI fi) (nI fo) (nI en) off cu ma) hP hD hS hA (vx_runSW (As := [.ref h0, .int (nI k), .ref oj]) (rest := []) ⟨hx, hb, hml, hown, hts⟩ (tL_get_ok hl0 bf pw hs lo lg rt nb fi fo en on cu ma k hk oj og _) (vx_cwSW 3 hts gL_law_L_get rfl rfl rfl (by decide +kernel) ⟨Nat.le_of_ble_eq_true rfl, Nat.le_of_ble_eq_true rfl⟩) (pS_X hP hD hK hS hA hT [0, 1, 2] rfl [0, 1, 2, 3, 4, 5, 6, 14] rfl rfl) rfl rfl hl.1 rfl (lv_room (Nat.le_of_ble_eq_true rfl)) dL_law_244 hc1) [0, 1, 2, 3, 4, 5, 6, 14] [7, 8, 9, 10, 11, 12, 13] rfl rfl rfl (by decide) (fun H locs hP hD hS => ?_)
    have hP : va_P D vwCl (wC h0 a0 a1 a2 a3 a4 a5 cI cZ bf pw hs lo lg rt nb (nI fi) (nI fo) (nI en) on cu ma ++ (wM g0 b0 b1 b2 b3 b4 b5 cI cZ th bf pw hs lo lg rt nb (nI fi) (nI fo) (nI en) off cu ma ++ wO oj cJ (vp_updL og 0 (Int32.toInt64 (bf k))))) H := hP.sub [7, 8, 9, 10, 11, 12, 13, 0, 1, 2, 3, 4, 5, 6, 14] rfl
    have hD : va_D A (wC h0 a0 a1 a2 a3 a4 a5 cI cZ bf pw hs lo lg rt nb (nI fi) (nI fo) (nI en) on cu ma ++ (wM g0 b0 b1 b2 b3 b4 b5 cI cZ th bf pw hs lo lg rt nb (nI fi) (nI fo) (nI en) off cu ma ++ wO oj cJ (vp_updL og 0 (Int32.toInt64 (bf k))))) := hD.sub [7, 8, 9, 10, 11, 12, 13, 0, 1, 2, 3, 4, 5, 6, 14] (by decide) rfl
    refine lv_istore (lv' := [(5, .int 0), (0, .ref b), (1, .ref h0), (2, .ref g0), (3, .ref oj), (4, .int (nI (4 * j9)))]) hx hb dL_law_247 hl (by decide) rfl (fun ls hl => ?_)
    refine lv_aload_n hx hb dL_law_249 rfl (lv_at hl 3 rfl) ?_
    refine lv_aload_n hx hb dL_law_250 rfl (lv_at hl 1 rfl) ?_
    refine lv_iload hx hb dL_law_251 (lv_at hl 5 rfl) ?_
    refine lv_iconst (v := (nI 1)) hx hb dL_law_253 (by decide) ?_
    refine n_iadd hx hb dL_law_254 ?_
    refine n_sld hx hb hX hbl hbA hS (4 * j9 + 1) (by omega) (by omega) ((nI k)) ex dL_law_255 ?_
    refine k_I (wr := wC h0 a0 a1 a2 a3 a4 a5 cI cZ bf pw hs lo lg rt nb (nI fi) (nI fo) (nI en) on cu ma ++ wO oj cJ (vp_updL og 0 (Int32.toInt64 (bf k)))) hP hD hS hA (va_runV (As := [.int (nI k)]) (rest := []) ⟨hx, hb, hml, hown, hts⟩ (tX1_get_ok th bf pw hs lo lg rt nb fi fo en off cu ma k hk _) (cwV 1 hts gL_law_X1_get rfl rfl rfl (by decide +kernel) ⟨Nat.le_of_ble_eq_true rfl, Nat.le_of_ble_eq_true rfl⟩) (pV_B hP hD hK (ci := 1) (q0 := 7) rfl rfl rfl [0, 1] rfl [7, 8, 9, 10, 11, 12, 13] rfl rfl) rfl rfl hl.1 rfl (lv_room (Nat.le_of_ble_eq_true rfl)) dL_law_256 hc9) [7, 8, 9, 10, 11, 12, 13] [0, 1, 2, 3, 4, 5, 6, 14] rfl rfl rfl (by decide) (fun H locs hP hD hS => ?_)
    have hP : va_P D vwCl (wC h0 a0 a1 a2 a3 a4 a5 cI cZ bf pw hs lo lg rt nb (nI fi) (nI fo) (nI en) on cu ma ++ (wM g0 b0 b1 b2 b3 b4 b5 cI cZ 0 bf pw hs lo lg rt nb (nI fi) (nI fo) (nI en) off cu ma ++ wO oj cJ (vp_updL og 0 (Int32.toInt64 (bf k))))) H := hP.sub [0, 1, 2, 3, 4, 5, 6, 8, 9, 10, 11, 12, 13, 14, 7] rfl
    have hD : va_D A (wC h0 a0 a1 a2 a3 a4 a5 cI cZ bf pw hs lo lg rt nb (nI fi) (nI fo) (nI en) on cu ma ++ (wM g0 b0 b1 b2 b3 b4 b5 cI cZ 0 bf pw hs lo lg rt nb (nI fi) (nI fo) (nI en) off cu ma ++ wO oj cJ (vp_updL og 0 (Int32.toInt64 (bf k))))) := hD.sub [0, 1, 2, 3, 4, 5, 6, 8, 9, 10, 11, 12, 13, 14, 7] (by decide) rfl
    refine lv_istore (lv' := [(6, .int (bf k)), (5, .int 0), (0, .ref b), (1, .ref h0), (2, .ref g0), (3, .ref oj), (4, .int (nI (4 * j9)))]) hx hb dL_law_259 hl (by decide) rfl (fun ls hl => ?_)
    refine lv_aload_n hx hb dL_law_261 rfl (lv_at hl 4 rfl) ?_
    refine k_I (wr := wC h0 a0 a1 a2 a3 a4 a5 cI cZ bf pw hs lo lg rt nb (nI fi) (nI fo) (nI en) on cu ma ++ wO oj cJ (vp_updL og 0 (Int32.toInt64 (bf k)))) hP hD hS hA (va_runV (As := []) (rest := []) ⟨hx, hb, hml, hown, hts⟩ (tX1_thrown 0 bf pw hs lo lg rt nb fi fo en off cu ma _) (cwV 0 hts gL_law_X1_thrown rfl rfl rfl (by decide +kernel) ⟨Nat.le_of_ble_eq_true rfl, Nat.le_of_ble_eq_true rfl⟩) (pV_B hP hD hK (ci := 1) (q0 := 7) rfl rfl rfl [0, 1] rfl [7, 8, 9, 10, 11, 12, 13] rfl rfl) rfl rfl hl.1 rfl (lv_room (Nat.le_of_ble_eq_true rfl)) dL_law_262 hc9) [7, 8, 9, 10, 11, 12, 13] [0, 1, 2, 3, 4, 5, 6, 14] rfl rfl rfl (by decide) (fun H locs hP hD hS => ?_)
    have hP : va_P D vwCl (wC h0 a0 a1 a2 a3 a4 a5 cI cZ bf pw hs lo lg rt nb (nI fi) (nI fo) (nI en) on cu ma ++ (wM g0 b0 b1 b2 b3 b4 b5 cI cZ 0 bf pw hs lo lg rt nb (nI fi) (nI fo) (nI en) off cu ma ++ wO oj cJ (vp_updL og 0 (Int32.toInt64 (bf k))))) H := hP.sub [0, 1, 2, 3, 4, 5, 6, 8, 9, 10, 11, 12, 13, 14, 7] rfl
    have hD : va_D A (wC h0 a0 a1 a2 a3 a4 a5 cI cZ bf pw hs lo lg rt nb (nI fi) (nI fo) (nI en) on cu ma ++ (wM g0 b0 b1 b2 b3 b4 b5 cI cZ 0 bf pw hs lo lg rt nb (nI fi) (nI fo) (nI en) off cu ma ++ wO oj cJ (vp_updL og 0 (Int32.toInt64 (bf k))))) := hD.sub [0, 1, 2, 3, 4, 5, 6, 8, 9, 10, 11, 12, 13, 14, 7] (by decide) rfl
    refine lv_iload hx hb dL_law_265 (lv_at hl 1 rfl) ?_
    refine lv_icmp_eq (tgt := 272) hx hb dL_law_267 (by decide) (fun c_267 => ?_) (fun c_267 => absurd (by decide) c_267)
    refine lv_iload hx hb dL_law_272 (lv_at hl 1 rfl) ?_
    refine lv_if_ne (tgt := 289) hx hb dL_law_274 (by decide) (fun c_274 => absurd (by decide) c_274) (fun c_274 => ?_)
    refine lv_aload_n hx hb dL_law_277 rfl (lv_at hl 5 rfl) ?_
    refine lv_iconst (v := (nI 0)) hx hb dL_law_278 (by decide) ?_
    refine n_lald hx hb hK hP 14 2 rfl rfl 0 (by omega) (by omega) dL_law_279 ?_
    refine lv_iload hx hb dL_law_280 (lv_at hl 0 rfl) ?_
    refine lv_i2l (v := Int32.toInt64 (bf k)) hx hb dL_law_282 rfl ?_
    refine W.lcmp hx hb dL_law_283 ?_
    refine lv_if_eq (tgt := 289) hx hb dL_law_284 (by decide) (fun c_284 => ?_) (fun c_284 => absurd (by rw [pk_uLs]; exact lg_self _) c_284)
    refine lv_goto (tgt := 1176) hx hb dL_law_289 (by decide) ?_
    refine W.widen (k := 15 + (j9 + 1)) (n := 199844 + 6 * (j9 + 1)) (by omega) (by omega) ?_
    refine lv_iinc (v := nI (4 * (j9 + 1))) (lv' := [(4, .int (nI (4 * (j9 + 1)))), (6, .int (bf k)), (5, .int 0), (0, .ref b), (1, .ref h0), (2, .ref g0), (3, .ref oj)]) hx hb dL_law_1176 hl (k := 6) rfl (nI_add (4 * j9) 4) (by decide) rfl (fun ls hl => ?_)
    refine lv_goto (tgt := 23) hx hb dL_law_1179 (by decide) ?_
    exact IH bf pw hs lo lg rt nb fi fo en on off cu ma 0 (vp_updL og 0 (Int32.toInt64 (bf k))) _ _ _ hpo (by omega) (by omega) (by omega) hcu hP hD hS (lv_sub hl [3, 4, 5, 6, 0] rfl)
set_option maxHeartbeats 4000000 in
set_option maxRecDepth 100000 in
theorem lo_sum {p : Program} {l : Launch} {e : Env} {s : State} {m : MethodId} {below : List Frame} {meth : Method} {c : Code} {Q : State → Prop} {D : va_G} {A : Nat → Prop} {cI cZ cJ : ClassId} {b L : Nat} {xs : Nat → Int32} {h0 a0 a1 a2 a3 a4 a5 g0 b0 b1 b2 b3 b4 b5 oj : Nat} (hl0 : l.stackTraces = false) (hx : p.tables.exec = Jvm.exec) (hb : c.code = code) (hml : c.maxLocals = 7) (hown : s.vm.findClass RL = some m.cls) (hts : ∀ w ∈ wsL_law, w.before #[Value.ref b] s = true) (hX : va_X b L xs s s.heap) (hbl : b < s.heap.size) (hbA : ¬ A b) (hA : ∀ q : Nat, s.heap.size ≤ q → A q) (hK : va_K D vwCl (tyL cI cZ cJ) s) (hT : xT A s s.heap) (hL : L ≤ 2048) (j9 : Nat) (hj : 4 * j9 + 4 ≤ L)
    (IH : lgW p l e s m below meth c Q D A cI cZ cJ b h0 a0 a1 a2 a3 a4 a5 g0 b0 b1 b2 b3 b4 b5 oj (j9 + 1))
    (bf pw hs lo lg rt : Nat → Int32) (nb : Int32) (fi fo en : Nat) (on off cu ma th : Int32) (og : Nat → Int64) (H : Heap) (locs : List Loc) (ls : Array Slot) (hpo : (on = 0 ∧ off = 1) ∨ (on = 1 ∧ off = 0)) (hi1 : fi ≤ fo) (hi2 : fo ≤ en) (hi3 : en ≤ 64 * j9) (hcu : -1 ≤ cu)
    (hP : va_P D vwCl (wA h0 a0 a1 a2 a3 a4 a5 g0 b0 b1 b2 b3 b4 b5 oj cI cZ cJ bf pw hs lo lg rt nb fi fo en on off cu ma th og) H) (hD : va_D A (wA h0 a0 a1 a2 a3 a4 a5 g0 b0 b1 b2 b3 b4 b5 oj cI cZ cJ bf pw hs lo lg rt nb fi fo en on off cu ma th og)) (hS : va_S A s.heap H locs) (hl : lv_has ls 7 [(0, .ref b), (1, .ref h0), (2, .ref g0), (3, .ref oj), (4, .int (nI (4 * j9)))]) :
    W p l e room_1 s m #[Value.ref b] below meth c H locs (15 + j9) (199844 + 6 * j9) Q (F0 m 292 ls []) := by
  have he : en ≤ 60000 := by omega
  have hc0 : 15 + j9 + 0 ≤ room_1.cells ∧ 199844 + 6 * j9 + 0 ≤ room_1.slots := ⟨show 15 + j9 + 0 ≤ 601024 by omega, show 199844 + 6 * j9 + 0 ≤ 7293034 by omega⟩
  have hc1 : 15 + j9 + 1 ≤ room_1.cells ∧ 199844 + 6 * j9 + 6 ≤ room_1.slots := ⟨show 15 + j9 + 1 ≤ 601024 by omega, show 199844 + 6 * j9 + 6 ≤ 7293034 by omega⟩
  have hc9 : 15 + j9 + 1 + 0 ≤ room_1.cells ∧ 199844 + 6 * j9 + 6 + 0 ≤ room_1.slots := hc1
  have hP : va_P D vwCl (wC h0 a0 a1 a2 a3 a4 a5 cI cZ bf pw hs lo lg rt nb (nI fi) (nI fo) (nI en) on cu ma ++ (wM g0 b0 b1 b2 b3 b4 b5 cI cZ th bf pw hs lo lg rt nb (nI fi) (nI fo) (nI en) off cu ma ++ wO oj cJ og)) H := hP
  have hD : va_D A (wC h0 a0 a1 a2 a3 a4 a5 cI cZ bf pw hs lo lg rt nb (nI fi) (nI fo) (nI en) on cu ma ++ (wM g0 b0 b1 b2 b3 b4 b5 cI cZ th bf pw hs lo lg rt nb (nI fi) (nI fo) (nI en) off cu ma ++ wO oj cJ og)) := hD
  refine lv_aload_n hx hb dL_law_292 rfl (lv_at hl 1 rfl) ?_
  refine k_I (wr := wM g0 b0 b1 b2 b3 b4 b5 cI cZ th bf pw hs lo lg rt nb (nI fi) (nI fo) (nI en) off cu ma ++ wO oj cJ og) hP hD hS hA (va_runV (As := []) (rest := []) ⟨hx, hb, hml, hown, hts⟩ (tX0_sum_ok bf pw hs lo lg rt nb fi fo en on cu ma _) (cwV 0 hts gL_law_X0_sum rfl rfl rfl (by decide +kernel) ⟨Nat.le_of_ble_eq_true rfl, Nat.le_of_ble_eq_true rfl⟩) (pV_B hP hD hK (ci := 0) (q0 := 0) rfl rfl rfl [0, 1] rfl [0, 1, 2, 3, 4, 5, 6] rfl rfl) rfl rfl hl.1 rfl (lv_room (Nat.le_of_ble_eq_true rfl)) dL_law_293 hc0) [0, 1, 2, 3, 4, 5, 6] [7, 8, 9, 10, 11, 12, 13, 14] rfl rfl rfl (by decide) (fun H locs hP hD hS => ?_)
  have hP : va_P D vwCl (wC h0 a0 a1 a2 a3 a4 a5 cI cZ bf pw hs lo lg rt nb (nI fi) (nI fo) (nI en) on cu ma ++ (wM g0 b0 b1 b2 b3 b4 b5 cI cZ th bf pw hs lo lg rt nb (nI fi) (nI fo) (nI en) off cu ma ++ wO oj cJ og)) H := hP.sub [8, 9, 10, 11, 12, 13, 14, 0, 1, 2, 3, 4, 5, 6, 7] rfl
  have hD : va_D A (wC h0 a0 a1 a2 a3 a4 a5 cI cZ bf pw hs lo lg rt nb (nI fi) (nI fo) (nI en) on cu ma ++ (wM g0 b0 b1 b2 b3 b4 b5 cI cZ th bf pw hs lo lg rt nb (nI fi) (nI fo) (nI en) off cu ma ++ wO oj cJ og)) := hD.sub [8, 9, 10, 11, 12, 13, 14, 0, 1, 2, 3, 4, 5, 6, 7] (by decide) rfl
  refine lv_aload_n hx hb dL_law_296 rfl (lv_at hl 2 rfl) ?_
  refine k_I (wr := wC h0 a0 a1 a2 a3 a4 a5 cI cZ bf pw hs lo lg rt nb (nI fi) (nI fo) (nI en) on cu ma ++ wO oj cJ og) hP hD hS hA (va_runV (As := []) (rest := [.int (sp_sum bf 64)]) ⟨hx, hb, hml, hown, hts⟩ (tX1_sum_ok th bf pw hs lo lg rt nb fi fo en off cu ma _) (cwV 0 hts gL_law_X1_sum rfl rfl rfl (by decide +kernel) ⟨Nat.le_of_ble_eq_true rfl, Nat.le_of_ble_eq_true rfl⟩) (pV_B hP hD hK (ci := 1) (q0 := 7) rfl rfl rfl [0, 1] rfl [7, 8, 9, 10, 11, 12, 13] rfl rfl) rfl rfl hl.1 rfl (lv_room (Nat.le_of_ble_eq_true rfl)) dL_law_297 hc0) [7, 8, 9, 10, 11, 12, 13] [0, 1, 2, 3, 4, 5, 6, 14] rfl rfl rfl (by decide) (fun H locs hP hD hS => ?_)
  have hP : va_P D vwCl (wC h0 a0 a1 a2 a3 a4 a5 cI cZ bf pw hs lo lg rt nb (nI fi) (nI fo) (nI en) on cu ma ++ (wM g0 b0 b1 b2 b3 b4 b5 cI cZ 0 bf pw hs lo lg rt nb (nI fi) (nI fo) (nI en) off cu ma ++ wO oj cJ og)) H := hP.sub [0, 1, 2, 3, 4, 5, 6, 8, 9, 10, 11, 12, 13, 14, 7] rfl
  have hD : va_D A (wC h0 a0 a1 a2 a3 a4 a5 cI cZ bf pw hs lo lg rt nb (nI fi) (nI fo) (nI en) on cu ma ++ (wM g0 b0 b1 b2 b3 b4 b5 cI cZ 0 bf pw hs lo lg rt nb (nI fi) (nI fo) (nI en) off cu ma ++ wO oj cJ og)) := hD.sub [0, 1, 2, 3, 4, 5, 6, 8, 9, 10, 11, 12, 13, 14, 7] (by decide) rfl
  refine lv_icmp_eq (tgt := 1176) hx hb dL_law_300 (by decide) (fun c_300 => ?_) (fun c_300 => absurd (rfl) c_300)
  refine W.widen (k := 15 + (j9 + 1)) (n := 199844 + 6 * (j9 + 1)) (by omega) (by omega) ?_
  refine lv_iinc (v := nI (4 * (j9 + 1))) (lv' := [(4, .int (nI (4 * (j9 + 1)))), (0, .ref b), (1, .ref h0), (2, .ref g0), (3, .ref oj)]) hx hb dL_law_1176 hl (k := 4) rfl (nI_add (4 * j9) 4) (by decide) rfl (fun ls hl => ?_)
  refine lv_goto (tgt := 23) hx hb dL_law_1179 (by decide) ?_
  exact IH bf pw hs lo lg rt nb fi fo en on off cu ma 0 og _ _ _ hpo (by omega) (by omega) (by omega) hcu hP hD hS (lv_sub hl [1, 2, 3, 4, 0] rfl)
set_option maxHeartbeats 4000000 in
set_option maxRecDepth 100000 in
theorem lo_write {p : Program} {l : Launch} {e : Env} {s : State} {m : MethodId} {below : List Frame} {meth : Method} {c : Code} {Q : State → Prop} {D : va_G} {A : Nat → Prop} {cI cZ cJ : ClassId} {b L : Nat} {xs : Nat → Int32} {h0 a0 a1 a2 a3 a4 a5 g0 b0 b1 b2 b3 b4 b5 oj : Nat} (hl0 : l.stackTraces = false) (hx : p.tables.exec = Jvm.exec) (hb : c.code = code) (hml : c.maxLocals = 7) (hown : s.vm.findClass RL = some m.cls) (hts : ∀ w ∈ wsL_law, w.before #[Value.ref b] s = true) (hX : va_X b L xs s s.heap) (hbl : b < s.heap.size) (hbA : ¬ A b) (hA : ∀ q : Nat, s.heap.size ≤ q → A q) (hK : va_K D vwCl (tyL cI cZ cJ) s) (hT : xT A s s.heap) (hL : L ≤ 2048) (j9 : Nat) (hj : 4 * j9 + 4 ≤ L)
    (IH : lgW p l e s m below meth c Q D A cI cZ cJ b h0 a0 a1 a2 a3 a4 a5 g0 b0 b1 b2 b3 b4 b5 oj (j9 + 1))
    (bf pw hs lo lg rt : Nat → Int32) (nb : Int32) (fi fo en : Nat) (on off cu ma th : Int32) (og : Nat → Int64) (H : Heap) (locs : List Loc) (ls : Array Slot) (hpo : (on = 0 ∧ off = 1) ∨ (on = 1 ∧ off = 0)) (hi1 : fi ≤ fo) (hi2 : fo ≤ en) (hi3 : en ≤ 64 * j9) (hcu : -1 ≤ cu)
    (hP : va_P D vwCl (wA h0 a0 a1 a2 a3 a4 a5 g0 b0 b1 b2 b3 b4 b5 oj cI cZ cJ bf pw hs lo lg rt nb fi fo en on off cu ma th og) H) (hD : va_D A (wA h0 a0 a1 a2 a3 a4 a5 g0 b0 b1 b2 b3 b4 b5 oj cI cZ cJ bf pw hs lo lg rt nb fi fo en on off cu ma th og)) (hS : va_S A s.heap H locs) (hl : lv_has ls 7 [(0, .ref b), (1, .ref h0), (2, .ref g0), (3, .ref oj), (4, .int (nI (4 * j9)))]) :
    W p l e room_1 s m #[Value.ref b] below meth c H locs (15 + j9) (199844 + 6 * j9) Q (F0 m 305 ls []) := by
  have he : en ≤ 60000 := by omega
  have hc0 : 15 + j9 + 0 ≤ room_1.cells ∧ 199844 + 6 * j9 + 0 ≤ room_1.slots := ⟨show 15 + j9 + 0 ≤ 601024 by omega, show 199844 + 6 * j9 + 0 ≤ 7293034 by omega⟩
  have hc1 : 15 + j9 + 1 ≤ room_1.cells ∧ 199844 + 6 * j9 + 6 ≤ room_1.slots := ⟨show 15 + j9 + 1 ≤ 601024 by omega, show 199844 + 6 * j9 + 6 ≤ 7293034 by omega⟩
  have hc9 : 15 + j9 + 1 + 0 ≤ room_1.cells ∧ 199844 + 6 * j9 + 6 + 0 ≤ room_1.slots := hc1
  obtain ⟨x, ex⟩ : ∃ z9, xs (4 * j9 + 1) = z9 := ⟨_, rfl⟩
  obtain ⟨y, ey⟩ : ∃ z9, xs (4 * j9 + 2) = z9 := ⟨_, rfl⟩
  rcases hpo with ⟨rfl, rfl⟩ | ⟨rfl, rfl⟩
  · have hP : va_P D vwCl (wC h0 a0 a1 a2 a3 a4 a5 cI cZ bf pw hs lo lg rt nb (nI fi) (nI fo) (nI en) 0 cu ma ++ (wM g0 b0 b1 b2 b3 b4 b5 cI cZ th bf pw hs lo lg rt nb (nI fi) (nI fo) (nI en) 1 cu ma ++ wO oj cJ og)) H := hP
    have hD : va_D A (wC h0 a0 a1 a2 a3 a4 a5 cI cZ bf pw hs lo lg rt nb (nI fi) (nI fo) (nI en) 0 cu ma ++ (wM g0 b0 b1 b2 b3 b4 b5 cI cZ th bf pw hs lo lg rt nb (nI fi) (nI fo) (nI en) 1 cu ma ++ wO oj cJ og)) := hD
    refine lv_aload_n hx hb dL_law_305 rfl (lv_at hl 1 rfl) ?_
    refine lv_aload_n hx hb dL_law_306 rfl (lv_at hl 0 rfl) ?_
    refine lv_iload hx hb dL_law_307 (lv_at hl 4 rfl) ?_
    refine lv_iconst (v := (nI 1)) hx hb dL_law_309 (by decide) ?_
    refine n_iadd hx hb dL_law_310 ?_
    refine n_sld hx hb hX hbl hbA hS (4 * j9 + 1) (by omega) (by omega) (x) ex dL_law_311 ?_
    refine lv_aload_n hx hb dL_law_312 rfl (lv_at hl 0 rfl) ?_
    refine lv_iload hx hb dL_law_313 (lv_at hl 4 rfl) ?_
    refine lv_iconst (v := (nI 2)) hx hb dL_law_315 (by decide) ?_
    refine n_iadd hx hb dL_law_316 ?_
    refine n_sld hx hb hX hbl hbA hS (4 * j9 + 2) (by omega) (by omega) (y) ey dL_law_317 ?_
    refine lv_aload_n hx hb dL_law_318 rfl (lv_at hl 3 rfl) ?_
    refine k_I (wr := wM g0 b0 b1 b2 b3 b4 b5 cI cZ th bf pw hs lo lg rt nb (nI fi) (nI fo) (nI en) 1 cu ma) hP hD hS hA (vx_runSW (As := [.ref h0, .int x, .int y, .ref oj]) (rest := []) ⟨hx, hb, hml, hown, hts⟩ (tL_write_x0 hl0 bf pw hs lo lg rt nb fi fo en cu ma x y oj og _) (vx_cwSW 4 hts gL_law_L_write rfl rfl rfl (by decide +kernel) ⟨Nat.le_of_ble_eq_true rfl, Nat.le_of_ble_eq_true rfl⟩) (pS_X hP hD hK hS hA hT [0, 1, 2] rfl [0, 1, 2, 3, 4, 5, 6, 14] rfl rfl) rfl rfl hl.1 rfl (lv_room (Nat.le_of_ble_eq_true rfl)) dL_law_319 hc1) [0, 1, 2, 3, 4, 5, 6, 14] [7, 8, 9, 10, 11, 12, 13] rfl rfl rfl (by decide) (fun H locs hP hD hS => ?_)
    have hP : va_P D vwCl (wC h0 a0 a1 a2 a3 a4 a5 cI cZ bf pw hs lo lg rt nb (nI fi) (nI fo) (nI en) 0 cu ma ++ (wM g0 b0 b1 b2 b3 b4 b5 cI cZ th bf pw hs lo lg rt nb (nI fi) (nI fo) (nI en) 1 cu ma ++ wO oj cJ og)) H := hP.sub [7, 8, 9, 10, 11, 12, 13, 0, 1, 2, 3, 4, 5, 6, 14] rfl
    have hD : va_D A (wC h0 a0 a1 a2 a3 a4 a5 cI cZ bf pw hs lo lg rt nb (nI fi) (nI fo) (nI en) 0 cu ma ++ (wM g0 b0 b1 b2 b3 b4 b5 cI cZ th bf pw hs lo lg rt nb (nI fi) (nI fo) (nI en) 1 cu ma ++ wO oj cJ og)) := hD.sub [7, 8, 9, 10, 11, 12, 13, 0, 1, 2, 3, 4, 5, 6, 14] (by decide) rfl
    refine lv_istore (lv' := [(5, .int 1), (0, .ref b), (1, .ref h0), (2, .ref g0), (3, .ref oj), (4, .int (nI (4 * j9)))]) hx hb dL_law_322 hl (by decide) rfl (fun ls hl => ?_)
    refine lv_aload_n hx hb dL_law_324 rfl (lv_at hl 3 rfl) ?_
    refine lv_aload_n hx hb dL_law_325 rfl (lv_at hl 1 rfl) ?_
    refine lv_iload hx hb dL_law_326 (lv_at hl 5 rfl) ?_
    refine lv_iconst (v := (nI 1)) hx hb dL_law_328 (by decide) ?_
    refine n_iadd hx hb dL_law_329 ?_
    refine n_sld hx hb hX hbl hbA hS (4 * j9 + 1) (by omega) (by omega) (x) ex dL_law_330 ?_
    refine lv_aload_n hx hb dL_law_331 rfl (lv_at hl 1 rfl) ?_
    refine lv_iload hx hb dL_law_332 (lv_at hl 5 rfl) ?_
    refine lv_iconst (v := (nI 2)) hx hb dL_law_334 (by decide) ?_
    refine n_iadd hx hb dL_law_335 ?_
    refine n_sld hx hb hX hbl hbA hS (4 * j9 + 2) (by omega) (by omega) (y) ey dL_law_336 ?_
    refine k_I (wr := wC h0 a0 a1 a2 a3 a4 a5 cI cZ bf pw hs lo lg rt nb (nI fi) (nI fo) (nI en) 0 cu ma ++ wO oj cJ og) hP hD hS hA (va_runV (As := [.int x, .int y]) (rest := []) ⟨hx, hb, hml, hown, hts⟩ (tX1_write_x0 th bf pw hs lo lg rt nb fi fo en cu ma x y _) (cwV 2 hts gL_law_X1_write rfl rfl rfl (by decide +kernel) ⟨Nat.le_of_ble_eq_true rfl, Nat.le_of_ble_eq_true rfl⟩) (pV_B hP hD hK (ci := 1) (q0 := 7) rfl rfl rfl [0, 1] rfl [7, 8, 9, 10, 11, 12, 13] rfl rfl) rfl rfl hl.1 rfl (lv_room (Nat.le_of_ble_eq_true rfl)) dL_law_337 hc9) [7, 8, 9, 10, 11, 12, 13] [0, 1, 2, 3, 4, 5, 6, 14] rfl rfl rfl (by decide) (fun H locs hP hD hS => ?_)
    have hP : va_P D vwCl (wC h0 a0 a1 a2 a3 a4 a5 cI cZ bf pw hs lo lg rt nb (nI fi) (nI fo) (nI en) 0 cu ma ++ (wM g0 b0 b1 b2 b3 b4 b5 cI cZ 1 bf pw hs lo lg rt nb (nI fi) (nI fo) (nI en) 1 cu ma ++ wO oj cJ og)) H := hP.sub [0, 1, 2, 3, 4, 5, 6, 8, 9, 10, 11, 12, 13, 14, 7] rfl
    have hD : va_D A (wC h0 a0 a1 a2 a3 a4 a5 cI cZ bf pw hs lo lg rt nb (nI fi) (nI fo) (nI en) 0 cu ma ++ (wM g0 b0 b1 b2 b3 b4 b5 cI cZ 1 bf pw hs lo lg rt nb (nI fi) (nI fo) (nI en) 1 cu ma ++ wO oj cJ og)) := hD.sub [0, 1, 2, 3, 4, 5, 6, 8, 9, 10, 11, 12, 13, 14, 7] (by decide) rfl
    refine lv_istore (lv' := [(6, .int 0), (5, .int 1), (0, .ref b), (1, .ref h0), (2, .ref g0), (3, .ref oj), (4, .int (nI (4 * j9)))]) hx hb dL_law_340 hl (by decide) rfl (fun ls hl => ?_)
    refine lv_aload_n hx hb dL_law_342 rfl (lv_at hl 4 rfl) ?_
    refine k_I (wr := wC h0 a0 a1 a2 a3 a4 a5 cI cZ bf pw hs lo lg rt nb (nI fi) (nI fo) (nI en) 0 cu ma ++ wO oj cJ og) hP hD hS hA (va_runV (As := []) (rest := []) ⟨hx, hb, hml, hown, hts⟩ (tX1_thrown 1 bf pw hs lo lg rt nb fi fo en 1 cu ma _) (cwV 0 hts gL_law_X1_thrown rfl rfl rfl (by decide +kernel) ⟨Nat.le_of_ble_eq_true rfl, Nat.le_of_ble_eq_true rfl⟩) (pV_B hP hD hK (ci := 1) (q0 := 7) rfl rfl rfl [0, 1] rfl [7, 8, 9, 10, 11, 12, 13] rfl rfl) rfl rfl hl.1 rfl (lv_room (Nat.le_of_ble_eq_true rfl)) dL_law_343 hc9) [7, 8, 9, 10, 11, 12, 13] [0, 1, 2, 3, 4, 5, 6, 14] rfl rfl rfl (by decide) (fun H locs hP hD hS => ?_)
    have hP : va_P D vwCl (wC h0 a0 a1 a2 a3 a4 a5 cI cZ bf pw hs lo lg rt nb (nI fi) (nI fo) (nI en) 0 cu ma ++ (wM g0 b0 b1 b2 b3 b4 b5 cI cZ 1 bf pw hs lo lg rt nb (nI fi) (nI fo) (nI en) 1 cu ma ++ wO oj cJ og)) H := hP.sub [0, 1, 2, 3, 4, 5, 6, 8, 9, 10, 11, 12, 13, 14, 7] rfl
    have hD : va_D A (wC h0 a0 a1 a2 a3 a4 a5 cI cZ bf pw hs lo lg rt nb (nI fi) (nI fo) (nI en) 0 cu ma ++ (wM g0 b0 b1 b2 b3 b4 b5 cI cZ 1 bf pw hs lo lg rt nb (nI fi) (nI fo) (nI en) 1 cu ma ++ wO oj cJ og)) := hD.sub [0, 1, 2, 3, 4, 5, 6, 8, 9, 10, 11, 12, 13, 14, 7] (by decide) rfl
    refine lv_iload hx hb dL_law_346 (lv_at hl 1 rfl) ?_
    refine lv_icmp_eq (tgt := 353) hx hb dL_law_348 (by decide) (fun c_348 => ?_) (fun c_348 => absurd (by decide) c_348)
    refine lv_iload hx hb dL_law_353 (lv_at hl 1 rfl) ?_
    refine lv_if_ne (tgt := 370) hx hb dL_law_355 (by decide) (fun c_355 => ?_) (fun c_355 => absurd c_355 (by decide))
    refine lv_goto (tgt := 1176) hx hb dL_law_370 (by decide) ?_
    refine W.widen (k := 15 + (j9 + 1)) (n := 199844 + 6 * (j9 + 1)) (by omega) (by omega) ?_
    refine lv_iinc (v := nI (4 * (j9 + 1))) (lv' := [(4, .int (nI (4 * (j9 + 1)))), (6, .int 0), (5, .int 1), (0, .ref b), (1, .ref h0), (2, .ref g0), (3, .ref oj)]) hx hb dL_law_1176 hl (k := 6) rfl (nI_add (4 * j9) 4) (by decide) rfl (fun ls hl => ?_)
    refine lv_goto (tgt := 23) hx hb dL_law_1179 (by decide) ?_
    exact IH bf pw hs lo lg rt nb fi fo en 0 1 cu ma 1 og _ _ _ (Or.inl ⟨rfl, rfl⟩) (by omega) (by omega) (by omega) hcu hP hD hS (lv_sub hl [3, 4, 5, 6, 0] rfl)
  · rcases pg_cases x y with h | ⟨ar, pg, h1, h2, rfl, rfl⟩
    · have hP : va_P D vwCl (wC h0 a0 a1 a2 a3 a4 a5 cI cZ bf pw hs lo lg rt nb (nI fi) (nI fo) (nI en) 1 cu ma ++ (wM g0 b0 b1 b2 b3 b4 b5 cI cZ th bf pw hs lo lg rt nb (nI fi) (nI fo) (nI en) 0 cu ma ++ wO oj cJ og)) H := hP
      have hD : va_D A (wC h0 a0 a1 a2 a3 a4 a5 cI cZ bf pw hs lo lg rt nb (nI fi) (nI fo) (nI en) 1 cu ma ++ (wM g0 b0 b1 b2 b3 b4 b5 cI cZ th bf pw hs lo lg rt nb (nI fi) (nI fo) (nI en) 0 cu ma ++ wO oj cJ og)) := hD
      refine lv_aload_n hx hb dL_law_305 rfl (lv_at hl 1 rfl) ?_
      refine lv_aload_n hx hb dL_law_306 rfl (lv_at hl 0 rfl) ?_
      refine lv_iload hx hb dL_law_307 (lv_at hl 4 rfl) ?_
      refine lv_iconst (v := (nI 1)) hx hb dL_law_309 (by decide) ?_
      refine n_iadd hx hb dL_law_310 ?_
      refine n_sld hx hb hX hbl hbA hS (4 * j9 + 1) (by omega) (by omega) (x) ex dL_law_311 ?_
      refine lv_aload_n hx hb dL_law_312 rfl (lv_at hl 0 rfl) ?_
      refine lv_iload hx hb dL_law_313 (lv_at hl 4 rfl) ?_
      refine lv_iconst (v := (nI 2)) hx hb dL_law_315 (by decide) ?_
      refine n_iadd hx hb dL_law_316 ?_
      refine n_sld hx hb hX hbl hbA hS (4 * j9 + 2) (by omega) (by omega) (y) ey dL_law_317 ?_
      refine lv_aload_n hx hb dL_law_318 rfl (lv_at hl 3 rfl) ?_
      refine k_I (wr := wM g0 b0 b1 b2 b3 b4 b5 cI cZ th bf pw hs lo lg rt nb (nI fi) (nI fo) (nI en) 0 cu ma) hP hD hS hA (vx_runSW (As := [.ref h0, .int x, .int y, .ref oj]) (rest := []) ⟨hx, hb, hml, hown, hts⟩ (tL_write_xb hl0 bf pw hs lo lg rt nb fi fo en cu ma x y h oj og _) (vx_cwSW 4 hts gL_law_L_write rfl rfl rfl (by decide +kernel) ⟨Nat.le_of_ble_eq_true rfl, Nat.le_of_ble_eq_true rfl⟩) (pS_X hP hD hK hS hA hT [0, 1, 2] rfl [0, 1, 2, 3, 4, 5, 6, 14] rfl rfl) rfl rfl hl.1 rfl (lv_room (Nat.le_of_ble_eq_true rfl)) dL_law_319 hc1) [0, 1, 2, 3, 4, 5, 6, 14] [7, 8, 9, 10, 11, 12, 13] rfl rfl rfl (by decide) (fun H locs hP hD hS => ?_)
      have hP : va_P D vwCl (wC h0 a0 a1 a2 a3 a4 a5 cI cZ bf pw hs lo lg rt nb (nI fi) (nI fo) (nI en) 1 cu ma ++ (wM g0 b0 b1 b2 b3 b4 b5 cI cZ th bf pw hs lo lg rt nb (nI fi) (nI fo) (nI en) 0 cu ma ++ wO oj cJ og)) H := hP.sub [7, 8, 9, 10, 11, 12, 13, 0, 1, 2, 3, 4, 5, 6, 14] rfl
      have hD : va_D A (wC h0 a0 a1 a2 a3 a4 a5 cI cZ bf pw hs lo lg rt nb (nI fi) (nI fo) (nI en) 1 cu ma ++ (wM g0 b0 b1 b2 b3 b4 b5 cI cZ th bf pw hs lo lg rt nb (nI fi) (nI fo) (nI en) 0 cu ma ++ wO oj cJ og)) := hD.sub [7, 8, 9, 10, 11, 12, 13, 0, 1, 2, 3, 4, 5, 6, 14] (by decide) rfl
      refine lv_istore (lv' := [(5, .int 2), (0, .ref b), (1, .ref h0), (2, .ref g0), (3, .ref oj), (4, .int (nI (4 * j9)))]) hx hb dL_law_322 hl (by decide) rfl (fun ls hl => ?_)
      refine lv_aload_n hx hb dL_law_324 rfl (lv_at hl 3 rfl) ?_
      refine lv_aload_n hx hb dL_law_325 rfl (lv_at hl 1 rfl) ?_
      refine lv_iload hx hb dL_law_326 (lv_at hl 5 rfl) ?_
      refine lv_iconst (v := (nI 1)) hx hb dL_law_328 (by decide) ?_
      refine n_iadd hx hb dL_law_329 ?_
      refine n_sld hx hb hX hbl hbA hS (4 * j9 + 1) (by omega) (by omega) (x) ex dL_law_330 ?_
      refine lv_aload_n hx hb dL_law_331 rfl (lv_at hl 1 rfl) ?_
      refine lv_iload hx hb dL_law_332 (lv_at hl 5 rfl) ?_
      refine lv_iconst (v := (nI 2)) hx hb dL_law_334 (by decide) ?_
      refine n_iadd hx hb dL_law_335 ?_
      refine n_sld hx hb hX hbl hbA hS (4 * j9 + 2) (by omega) (by omega) (y) ey dL_law_336 ?_
      refine k_I (wr := wC h0 a0 a1 a2 a3 a4 a5 cI cZ bf pw hs lo lg rt nb (nI fi) (nI fo) (nI en) 1 cu ma ++ wO oj cJ og) hP hD hS hA (va_runV (As := [.int x, .int y]) (rest := []) ⟨hx, hb, hml, hown, hts⟩ (tX1_write_xb th bf pw hs lo lg rt nb fi fo en cu ma x y h _) (cwV 2 hts gL_law_X1_write rfl rfl rfl (by decide +kernel) ⟨Nat.le_of_ble_eq_true rfl, Nat.le_of_ble_eq_true rfl⟩) (pV_B hP hD hK (ci := 1) (q0 := 7) rfl rfl rfl [0, 1] rfl [7, 8, 9, 10, 11, 12, 13] rfl rfl) rfl rfl hl.1 rfl (lv_room (Nat.le_of_ble_eq_true rfl)) dL_law_337 hc9) [7, 8, 9, 10, 11, 12, 13] [0, 1, 2, 3, 4, 5, 6, 14] rfl rfl rfl (by decide) (fun H locs hP hD hS => ?_)
      have hP : va_P D vwCl (wC h0 a0 a1 a2 a3 a4 a5 cI cZ bf pw hs lo lg rt nb (nI fi) (nI fo) (nI en) 1 cu ma ++ (wM g0 b0 b1 b2 b3 b4 b5 cI cZ 2 bf pw hs lo lg rt nb (nI fi) (nI fo) (nI en) 0 cu ma ++ wO oj cJ og)) H := hP.sub [0, 1, 2, 3, 4, 5, 6, 8, 9, 10, 11, 12, 13, 14, 7] rfl
      have hD : va_D A (wC h0 a0 a1 a2 a3 a4 a5 cI cZ bf pw hs lo lg rt nb (nI fi) (nI fo) (nI en) 1 cu ma ++ (wM g0 b0 b1 b2 b3 b4 b5 cI cZ 2 bf pw hs lo lg rt nb (nI fi) (nI fo) (nI en) 0 cu ma ++ wO oj cJ og)) := hD.sub [0, 1, 2, 3, 4, 5, 6, 8, 9, 10, 11, 12, 13, 14, 7] (by decide) rfl
      refine lv_istore (lv' := [(6, .int 0), (5, .int 2), (0, .ref b), (1, .ref h0), (2, .ref g0), (3, .ref oj), (4, .int (nI (4 * j9)))]) hx hb dL_law_340 hl (by decide) rfl (fun ls hl => ?_)
      refine lv_aload_n hx hb dL_law_342 rfl (lv_at hl 4 rfl) ?_
      refine k_I (wr := wC h0 a0 a1 a2 a3 a4 a5 cI cZ bf pw hs lo lg rt nb (nI fi) (nI fo) (nI en) 1 cu ma ++ wO oj cJ og) hP hD hS hA (va_runV (As := []) (rest := []) ⟨hx, hb, hml, hown, hts⟩ (tX1_thrown 2 bf pw hs lo lg rt nb fi fo en 0 cu ma _) (cwV 0 hts gL_law_X1_thrown rfl rfl rfl (by decide +kernel) ⟨Nat.le_of_ble_eq_true rfl, Nat.le_of_ble_eq_true rfl⟩) (pV_B hP hD hK (ci := 1) (q0 := 7) rfl rfl rfl [0, 1] rfl [7, 8, 9, 10, 11, 12, 13] rfl rfl) rfl rfl hl.1 rfl (lv_room (Nat.le_of_ble_eq_true rfl)) dL_law_343 hc9) [7, 8, 9, 10, 11, 12, 13] [0, 1, 2, 3, 4, 5, 6, 14] rfl rfl rfl (by decide) (fun H locs hP hD hS => ?_)
      have hP : va_P D vwCl (wC h0 a0 a1 a2 a3 a4 a5 cI cZ bf pw hs lo lg rt nb (nI fi) (nI fo) (nI en) 1 cu ma ++ (wM g0 b0 b1 b2 b3 b4 b5 cI cZ 2 bf pw hs lo lg rt nb (nI fi) (nI fo) (nI en) 0 cu ma ++ wO oj cJ og)) H := hP.sub [0, 1, 2, 3, 4, 5, 6, 8, 9, 10, 11, 12, 13, 14, 7] rfl
      have hD : va_D A (wC h0 a0 a1 a2 a3 a4 a5 cI cZ bf pw hs lo lg rt nb (nI fi) (nI fo) (nI en) 1 cu ma ++ (wM g0 b0 b1 b2 b3 b4 b5 cI cZ 2 bf pw hs lo lg rt nb (nI fi) (nI fo) (nI en) 0 cu ma ++ wO oj cJ og)) := hD.sub [0, 1, 2, 3, 4, 5, 6, 8, 9, 10, 11, 12, 13, 14, 7] (by decide) rfl
      refine lv_iload hx hb dL_law_346 (lv_at hl 1 rfl) ?_
      refine lv_icmp_eq (tgt := 353) hx hb dL_law_348 (by decide) (fun c_348 => ?_) (fun c_348 => absurd (by decide) c_348)
      refine lv_iload hx hb dL_law_353 (lv_at hl 1 rfl) ?_
      refine lv_if_ne (tgt := 370) hx hb dL_law_355 (by decide) (fun c_355 => ?_) (fun c_355 => absurd c_355 (by decide))
      refine lv_goto (tgt := 1176) hx hb dL_law_370 (by decide) ?_
      refine W.widen (k := 15 + (j9 + 1)) (n := 199844 + 6 * (j9 + 1)) (by omega) (by omega) ?_
      refine lv_iinc (v := nI (4 * (j9 + 1))) (lv' := [(4, .int (nI (4 * (j9 + 1)))), (6, .int 0), (5, .int 2), (0, .ref b), (1, .ref h0), (2, .ref g0), (3, .ref oj)]) hx hb dL_law_1176 hl (k := 6) rfl (nI_add (4 * j9) 4) (by decide) rfl (fun ls hl => ?_)
      refine lv_goto (tgt := 23) hx hb dL_law_1179 (by decide) ?_
      exact IH bf pw hs lo lg rt nb fi fo en 1 0 cu ma 2 og _ _ _ (Or.inr ⟨rfl, rfl⟩) (by omega) (by omega) (by omega) hcu hP hD hS (lv_sub hl [3, 4, 5, 6, 0] rfl)
    · by_cases h : cu = 0
      · have hP : va_P D vwCl (wC h0 a0 a1 a2 a3 a4 a5 cI cZ bf pw hs lo lg rt nb (nI fi) (nI fo) (nI en) 1 cu ma ++ (wM g0 b0 b1 b2 b3 b4 b5 cI cZ th bf pw hs lo lg rt nb (nI fi) (nI fo) (nI en) 0 cu ma ++ wO oj cJ og)) H := hP
        have hD : va_D A (wC h0 a0 a1 a2 a3 a4 a5 cI cZ bf pw hs lo lg rt nb (nI fi) (nI fo) (nI en) 1 cu ma ++ (wM g0 b0 b1 b2 b3 b4 b5 cI cZ th bf pw hs lo lg rt nb (nI fi) (nI fo) (nI en) 0 cu ma ++ wO oj cJ og)) := hD
        refine lv_aload_n hx hb dL_law_305 rfl (lv_at hl 1 rfl) ?_
        refine lv_aload_n hx hb dL_law_306 rfl (lv_at hl 0 rfl) ?_
        refine lv_iload hx hb dL_law_307 (lv_at hl 4 rfl) ?_
        refine lv_iconst (v := (nI 1)) hx hb dL_law_309 (by decide) ?_
        refine n_iadd hx hb dL_law_310 ?_
        refine n_sld hx hb hX hbl hbA hS (4 * j9 + 1) (by omega) (by omega) ((nI ar)) ex dL_law_311 ?_
        refine lv_aload_n hx hb dL_law_312 rfl (lv_at hl 0 rfl) ?_
        refine lv_iload hx hb dL_law_313 (lv_at hl 4 rfl) ?_
        refine lv_iconst (v := (nI 2)) hx hb dL_law_315 (by decide) ?_
        refine n_iadd hx hb dL_law_316 ?_
        refine n_sld hx hb hX hbl hbA hS (4 * j9 + 2) (by omega) (by omega) ((nI pg)) ey dL_law_317 ?_
        refine lv_aload_n hx hb dL_law_318 rfl (lv_at hl 3 rfl) ?_
        refine k_I (wr := wM g0 b0 b1 b2 b3 b4 b5 cI cZ th bf pw hs lo lg rt nb (nI fi) (nI fo) (nI en) 0 cu ma) hP hD hS hA (vx_runSW (As := [.ref h0, .int (nI ar), .int (nI pg), .ref oj]) (rest := []) ⟨hx, hb, hml, hown, hts⟩ (tL_write_ok0 hl0 bf pw hs lo lg rt nb fi fo en cu ma ar pg h1 h2 h oj og _) (vx_cwSW 4 hts gL_law_L_write rfl rfl rfl (by decide +kernel) ⟨Nat.le_of_ble_eq_true rfl, Nat.le_of_ble_eq_true rfl⟩) (pS_X hP hD hK hS hA hT [0, 1, 2] rfl [0, 1, 2, 3, 4, 5, 6, 14] rfl rfl) rfl rfl hl.1 rfl (lv_room (Nat.le_of_ble_eq_true rfl)) dL_law_319 hc1) [0, 1, 2, 3, 4, 5, 6, 14] [7, 8, 9, 10, 11, 12, 13] rfl rfl rfl (by decide) (fun H locs hP hD hS => ?_)
        have hP : va_P D vwCl (wC h0 a0 a1 a2 a3 a4 a5 cI cZ (zf bf) pw hs lo lg rt (nb + 1) (nI fi) (nI fo) (nI fo) 0 cu ma ++ (wM g0 b0 b1 b2 b3 b4 b5 cI cZ th bf pw hs lo lg rt nb (nI fi) (nI fo) (nI en) 0 cu ma ++ wO oj cJ (vp_updL og 0 (Int32.toInt64 (-1))))) H := hP.sub [7, 8, 9, 10, 11, 12, 13, 0, 1, 2, 3, 4, 5, 6, 14] rfl
        have hD : va_D A (wC h0 a0 a1 a2 a3 a4 a5 cI cZ (zf bf) pw hs lo lg rt (nb + 1) (nI fi) (nI fo) (nI fo) 0 cu ma ++ (wM g0 b0 b1 b2 b3 b4 b5 cI cZ th bf pw hs lo lg rt nb (nI fi) (nI fo) (nI en) 0 cu ma ++ wO oj cJ (vp_updL og 0 (Int32.toInt64 (-1))))) := hD.sub [7, 8, 9, 10, 11, 12, 13, 0, 1, 2, 3, 4, 5, 6, 14] (by decide) rfl
        refine lv_istore (lv' := [(5, .int 0), (0, .ref b), (1, .ref h0), (2, .ref g0), (3, .ref oj), (4, .int (nI (4 * j9)))]) hx hb dL_law_322 hl (by decide) rfl (fun ls hl => ?_)
        refine lv_aload_n hx hb dL_law_324 rfl (lv_at hl 3 rfl) ?_
        refine lv_aload_n hx hb dL_law_325 rfl (lv_at hl 1 rfl) ?_
        refine lv_iload hx hb dL_law_326 (lv_at hl 5 rfl) ?_
        refine lv_iconst (v := (nI 1)) hx hb dL_law_328 (by decide) ?_
        refine n_iadd hx hb dL_law_329 ?_
        refine n_sld hx hb hX hbl hbA hS (4 * j9 + 1) (by omega) (by omega) ((nI ar)) ex dL_law_330 ?_
        refine lv_aload_n hx hb dL_law_331 rfl (lv_at hl 1 rfl) ?_
        refine lv_iload hx hb dL_law_332 (lv_at hl 5 rfl) ?_
        refine lv_iconst (v := (nI 2)) hx hb dL_law_334 (by decide) ?_
        refine n_iadd hx hb dL_law_335 ?_
        refine n_sld hx hb hX hbl hbA hS (4 * j9 + 2) (by omega) (by omega) ((nI pg)) ey dL_law_336 ?_
        refine k_I (wr := wC h0 a0 a1 a2 a3 a4 a5 cI cZ (zf bf) pw hs lo lg rt (nb + 1) (nI fi) (nI fo) (nI fo) 0 cu ma ++ wO oj cJ (vp_updL og 0 (Int32.toInt64 (-1)))) hP hD hS hA (va_runV (As := [.int (nI ar), .int (nI pg)]) (rest := []) ⟨hx, hb, hml, hown, hts⟩ (tX1_write_ok0 th bf pw hs lo lg rt nb fi fo en cu ma ar pg h1 h2 h _) (cwV 2 hts gL_law_X1_write rfl rfl rfl (by decide +kernel) ⟨Nat.le_of_ble_eq_true rfl, Nat.le_of_ble_eq_true rfl⟩) (pV_B hP hD hK (ci := 1) (q0 := 7) rfl rfl rfl [0, 1] rfl [7, 8, 9, 10, 11, 12, 13] rfl rfl) rfl rfl hl.1 rfl (lv_room (Nat.le_of_ble_eq_true rfl)) dL_law_337 hc9) [7, 8, 9, 10, 11, 12, 13] [0, 1, 2, 3, 4, 5, 6, 14] rfl rfl rfl (by decide) (fun H locs hP hD hS => ?_)
        have hP : va_P D vwCl (wC h0 a0 a1 a2 a3 a4 a5 cI cZ (zf bf) pw hs lo lg rt (nb + 1) (nI fi) (nI fo) (nI fo) 0 cu ma ++ (wM g0 b0 b1 b2 b3 b4 b5 cI cZ 0 (zf bf) pw hs lo lg rt (nb + 1) (nI fi) (nI fo) (nI fo) 1 cu ma ++ wO oj cJ (vp_updL og 0 (Int32.toInt64 (-1))))) H := hP.sub [0, 1, 2, 3, 4, 5, 6, 8, 9, 10, 11, 12, 13, 14, 7] rfl
        have hD : va_D A (wC h0 a0 a1 a2 a3 a4 a5 cI cZ (zf bf) pw hs lo lg rt (nb + 1) (nI fi) (nI fo) (nI fo) 0 cu ma ++ (wM g0 b0 b1 b2 b3 b4 b5 cI cZ 0 (zf bf) pw hs lo lg rt (nb + 1) (nI fi) (nI fo) (nI fo) 1 cu ma ++ wO oj cJ (vp_updL og 0 (Int32.toInt64 (-1))))) := hD.sub [0, 1, 2, 3, 4, 5, 6, 8, 9, 10, 11, 12, 13, 14, 7] (by decide) rfl
        refine lv_istore (lv' := [(6, .int (-1)), (5, .int 0), (0, .ref b), (1, .ref h0), (2, .ref g0), (3, .ref oj), (4, .int (nI (4 * j9)))]) hx hb dL_law_340 hl (by decide) rfl (fun ls hl => ?_)
        refine lv_aload_n hx hb dL_law_342 rfl (lv_at hl 4 rfl) ?_
        refine k_I (wr := wC h0 a0 a1 a2 a3 a4 a5 cI cZ (zf bf) pw hs lo lg rt (nb + 1) (nI fi) (nI fo) (nI fo) 0 cu ma ++ wO oj cJ (vp_updL og 0 (Int32.toInt64 (-1)))) hP hD hS hA (va_runV (As := []) (rest := []) ⟨hx, hb, hml, hown, hts⟩ (tX1_thrown 0 (zf bf) pw hs lo lg rt (nb + 1) fi fo fo 1 cu ma _) (cwV 0 hts gL_law_X1_thrown rfl rfl rfl (by decide +kernel) ⟨Nat.le_of_ble_eq_true rfl, Nat.le_of_ble_eq_true rfl⟩) (pV_B hP hD hK (ci := 1) (q0 := 7) rfl rfl rfl [0, 1] rfl [7, 8, 9, 10, 11, 12, 13] rfl rfl) rfl rfl hl.1 rfl (lv_room (Nat.le_of_ble_eq_true rfl)) dL_law_343 hc9) [7, 8, 9, 10, 11, 12, 13] [0, 1, 2, 3, 4, 5, 6, 14] rfl rfl rfl (by decide) (fun H locs hP hD hS => ?_)
        have hP : va_P D vwCl (wC h0 a0 a1 a2 a3 a4 a5 cI cZ (zf bf) pw hs lo lg rt (nb + 1) (nI fi) (nI fo) (nI fo) 0 cu ma ++ (wM g0 b0 b1 b2 b3 b4 b5 cI cZ 0 (zf bf) pw hs lo lg rt (nb + 1) (nI fi) (nI fo) (nI fo) 1 cu ma ++ wO oj cJ (vp_updL og 0 (Int32.toInt64 (-1))))) H := hP.sub [0, 1, 2, 3, 4, 5, 6, 8, 9, 10, 11, 12, 13, 14, 7] rfl
        have hD : va_D A (wC h0 a0 a1 a2 a3 a4 a5 cI cZ (zf bf) pw hs lo lg rt (nb + 1) (nI fi) (nI fo) (nI fo) 0 cu ma ++ (wM g0 b0 b1 b2 b3 b4 b5 cI cZ 0 (zf bf) pw hs lo lg rt (nb + 1) (nI fi) (nI fo) (nI fo) 1 cu ma ++ wO oj cJ (vp_updL og 0 (Int32.toInt64 (-1))))) := hD.sub [0, 1, 2, 3, 4, 5, 6, 8, 9, 10, 11, 12, 13, 14, 7] (by decide) rfl
        refine lv_iload hx hb dL_law_346 (lv_at hl 1 rfl) ?_
        refine lv_icmp_eq (tgt := 353) hx hb dL_law_348 (by decide) (fun c_348 => ?_) (fun c_348 => absurd (by decide) c_348)
        refine lv_iload hx hb dL_law_353 (lv_at hl 1 rfl) ?_
        refine lv_if_ne (tgt := 370) hx hb dL_law_355 (by decide) (fun c_355 => absurd (by decide) c_355) (fun c_355 => ?_)
        refine lv_aload_n hx hb dL_law_358 rfl (lv_at hl 5 rfl) ?_
        refine lv_iconst (v := (nI 0)) hx hb dL_law_359 (by decide) ?_
        refine n_lald hx hb hK hP 14 2 rfl rfl 0 (by omega) (by omega) dL_law_360 ?_
        refine lv_iload hx hb dL_law_361 (lv_at hl 0 rfl) ?_
        refine lv_i2l (v := Int32.toInt64 (-1)) hx hb dL_law_363 rfl ?_
        refine W.lcmp hx hb dL_law_364 ?_
        refine lv_if_eq (tgt := 370) hx hb dL_law_365 (by decide) (fun c_365 => ?_) (fun c_365 => absurd (by rw [pk_uLs]; exact lg_self _) c_365)
        refine lv_goto (tgt := 1176) hx hb dL_law_370 (by decide) ?_
        refine W.widen (k := 15 + (j9 + 1)) (n := 199844 + 6 * (j9 + 1)) (by omega) (by omega) ?_
        refine lv_iinc (v := nI (4 * (j9 + 1))) (lv' := [(4, .int (nI (4 * (j9 + 1)))), (6, .int (-1)), (5, .int 0), (0, .ref b), (1, .ref h0), (2, .ref g0), (3, .ref oj)]) hx hb dL_law_1176 hl (k := 6) rfl (nI_add (4 * j9) 4) (by decide) rfl (fun ls hl => ?_)
        refine lv_goto (tgt := 23) hx hb dL_law_1179 (by decide) ?_
        exact IH (zf bf) pw hs lo lg rt (nb + 1) fi fo fo 0 1 cu ma 0 (vp_updL og 0 (Int32.toInt64 (-1))) _ _ _ (Or.inl ⟨rfl, rfl⟩) (by omega) (by omega) (by omega) hcu hP hD hS (lv_sub hl [3, 4, 5, 6, 0] rfl)
      · by_cases hd : dcu cu = 0
        · have hP : va_P D vwCl (wC h0 a0 a1 a2 a3 a4 a5 cI cZ bf pw hs lo lg rt nb (nI fi) (nI fo) (nI en) 1 cu ma ++ (wM g0 b0 b1 b2 b3 b4 b5 cI cZ th bf pw hs lo lg rt nb (nI fi) (nI fo) (nI en) 0 cu ma ++ wO oj cJ og)) H := hP
          have hD : va_D A (wC h0 a0 a1 a2 a3 a4 a5 cI cZ bf pw hs lo lg rt nb (nI fi) (nI fo) (nI en) 1 cu ma ++ (wM g0 b0 b1 b2 b3 b4 b5 cI cZ th bf pw hs lo lg rt nb (nI fi) (nI fo) (nI en) 0 cu ma ++ wO oj cJ og)) := hD
          refine lv_aload_n hx hb dL_law_305 rfl (lv_at hl 1 rfl) ?_
          refine lv_aload_n hx hb dL_law_306 rfl (lv_at hl 0 rfl) ?_
          refine lv_iload hx hb dL_law_307 (lv_at hl 4 rfl) ?_
          refine lv_iconst (v := (nI 1)) hx hb dL_law_309 (by decide) ?_
          refine n_iadd hx hb dL_law_310 ?_
          refine n_sld hx hb hX hbl hbA hS (4 * j9 + 1) (by omega) (by omega) ((nI ar)) ex dL_law_311 ?_
          refine lv_aload_n hx hb dL_law_312 rfl (lv_at hl 0 rfl) ?_
          refine lv_iload hx hb dL_law_313 (lv_at hl 4 rfl) ?_
          refine lv_iconst (v := (nI 2)) hx hb dL_law_315 (by decide) ?_
          refine n_iadd hx hb dL_law_316 ?_
          refine n_sld hx hb hX hbl hbA hS (4 * j9 + 2) (by omega) (by omega) ((nI pg)) ey dL_law_317 ?_
          refine lv_aload_n hx hb dL_law_318 rfl (lv_at hl 3 rfl) ?_
          refine k_I (wr := wM g0 b0 b1 b2 b3 b4 b5 cI cZ th bf pw hs lo lg rt nb (nI fi) (nI fo) (nI en) 0 cu ma) hP hD hS hA (vx_runSW (As := [.ref h0, .int (nI ar), .int (nI pg), .ref oj]) (rest := []) ⟨hx, hb, hml, hown, hts⟩ (tL_write_ok1 hl0 bf pw hs lo lg rt nb fi fo en cu ma ar pg h1 h2 h hd oj og _) (vx_cwSW 4 hts gL_law_L_write rfl rfl rfl (by decide +kernel) ⟨Nat.le_of_ble_eq_true rfl, Nat.le_of_ble_eq_true rfl⟩) (pS_X hP hD hK hS hA hT [0, 1, 2] rfl [0, 1, 2, 3, 4, 5, 6, 14] rfl rfl) rfl rfl hl.1 rfl (lv_room (Nat.le_of_ble_eq_true rfl)) dL_law_319 hc1) [0, 1, 2, 3, 4, 5, 6, 14] [7, 8, 9, 10, 11, 12, 13] rfl rfl rfl (by decide) (fun H locs hP hD hS => ?_)
          have hP : va_P D vwCl (wC h0 a0 a1 a2 a3 a4 a5 cI cZ (zf bf) (va_cpy bf pw 0 ((ar * 256 + pg) * 64) 32) (upd hs ((ar * 256 + pg) * 2) (nb + 1)) lo lg rt (nb + 1) (nI fi) (nI fo) (nI fo) 0 (dcu cu) (ma + 1) ++ (wM g0 b0 b1 b2 b3 b4 b5 cI cZ th bf pw hs lo lg rt nb (nI fi) (nI fo) (nI en) 0 cu ma ++ wO oj cJ (vp_updL og 0 (Int32.toInt64 (-1))))) H := hP.sub [7, 8, 9, 10, 11, 12, 13, 0, 1, 2, 3, 4, 5, 6, 14] rfl
          have hD : va_D A (wC h0 a0 a1 a2 a3 a4 a5 cI cZ (zf bf) (va_cpy bf pw 0 ((ar * 256 + pg) * 64) 32) (upd hs ((ar * 256 + pg) * 2) (nb + 1)) lo lg rt (nb + 1) (nI fi) (nI fo) (nI fo) 0 (dcu cu) (ma + 1) ++ (wM g0 b0 b1 b2 b3 b4 b5 cI cZ th bf pw hs lo lg rt nb (nI fi) (nI fo) (nI en) 0 cu ma ++ wO oj cJ (vp_updL og 0 (Int32.toInt64 (-1))))) := hD.sub [7, 8, 9, 10, 11, 12, 13, 0, 1, 2, 3, 4, 5, 6, 14] (by decide) rfl
          refine lv_istore (lv' := [(5, .int 0), (0, .ref b), (1, .ref h0), (2, .ref g0), (3, .ref oj), (4, .int (nI (4 * j9)))]) hx hb dL_law_322 hl (by decide) rfl (fun ls hl => ?_)
          refine lv_aload_n hx hb dL_law_324 rfl (lv_at hl 3 rfl) ?_
          refine lv_aload_n hx hb dL_law_325 rfl (lv_at hl 1 rfl) ?_
          refine lv_iload hx hb dL_law_326 (lv_at hl 5 rfl) ?_
          refine lv_iconst (v := (nI 1)) hx hb dL_law_328 (by decide) ?_
          refine n_iadd hx hb dL_law_329 ?_
          refine n_sld hx hb hX hbl hbA hS (4 * j9 + 1) (by omega) (by omega) ((nI ar)) ex dL_law_330 ?_
          refine lv_aload_n hx hb dL_law_331 rfl (lv_at hl 1 rfl) ?_
          refine lv_iload hx hb dL_law_332 (lv_at hl 5 rfl) ?_
          refine lv_iconst (v := (nI 2)) hx hb dL_law_334 (by decide) ?_
          refine n_iadd hx hb dL_law_335 ?_
          refine n_sld hx hb hX hbl hbA hS (4 * j9 + 2) (by omega) (by omega) ((nI pg)) ey dL_law_336 ?_
          refine k_I (wr := wC h0 a0 a1 a2 a3 a4 a5 cI cZ (zf bf) (va_cpy bf pw 0 ((ar * 256 + pg) * 64) 32) (upd hs ((ar * 256 + pg) * 2) (nb + 1)) lo lg rt (nb + 1) (nI fi) (nI fo) (nI fo) 0 (dcu cu) (ma + 1) ++ wO oj cJ (vp_updL og 0 (Int32.toInt64 (-1)))) hP hD hS hA (va_runV (As := [.int (nI ar), .int (nI pg)]) (rest := []) ⟨hx, hb, hml, hown, hts⟩ (tX1_write_ok1 th bf pw hs lo lg rt nb fi fo en cu ma ar pg h1 h2 hcu h hd _) (cwV 2 hts gL_law_X1_write rfl rfl rfl (by decide +kernel) ⟨Nat.le_of_ble_eq_true rfl, Nat.le_of_ble_eq_true rfl⟩) (pV_B hP hD hK (ci := 1) (q0 := 7) rfl rfl rfl [0, 1] rfl [7, 8, 9, 10, 11, 12, 13] rfl rfl) rfl rfl hl.1 rfl (lv_room (Nat.le_of_ble_eq_true rfl)) dL_law_337 hc9) [7, 8, 9, 10, 11, 12, 13] [0, 1, 2, 3, 4, 5, 6, 14] rfl rfl rfl (by decide) (fun H locs hP hD hS => ?_)
          have hP : va_P D vwCl (wC h0 a0 a1 a2 a3 a4 a5 cI cZ (zf bf) (va_cpy bf pw 0 ((ar * 256 + pg) * 64) 32) (upd hs ((ar * 256 + pg) * 2) (nb + 1)) lo lg rt (nb + 1) (nI fi) (nI fo) (nI fo) 0 (dcu cu) (ma + 1) ++ (wM g0 b0 b1 b2 b3 b4 b5 cI cZ 0 (zf bf) (va_cpy bf pw 0 ((ar * 256 + pg) * 64) 32) (upd hs ((ar * 256 + pg) * 2) (nb + 1)) lo lg rt (nb + 1) (nI fi) (nI fo) (nI fo) 1 (dcu cu) (ma + 1) ++ wO oj cJ (vp_updL og 0 (Int32.toInt64 (-1))))) H := hP.sub [0, 1, 2, 3, 4, 5, 6, 8, 9, 10, 11, 12, 13, 14, 7] rfl
          have hD : va_D A (wC h0 a0 a1 a2 a3 a4 a5 cI cZ (zf bf) (va_cpy bf pw 0 ((ar * 256 + pg) * 64) 32) (upd hs ((ar * 256 + pg) * 2) (nb + 1)) lo lg rt (nb + 1) (nI fi) (nI fo) (nI fo) 0 (dcu cu) (ma + 1) ++ (wM g0 b0 b1 b2 b3 b4 b5 cI cZ 0 (zf bf) (va_cpy bf pw 0 ((ar * 256 + pg) * 64) 32) (upd hs ((ar * 256 + pg) * 2) (nb + 1)) lo lg rt (nb + 1) (nI fi) (nI fo) (nI fo) 1 (dcu cu) (ma + 1) ++ wO oj cJ (vp_updL og 0 (Int32.toInt64 (-1))))) := hD.sub [0, 1, 2, 3, 4, 5, 6, 8, 9, 10, 11, 12, 13, 14, 7] (by decide) rfl
          refine lv_istore (lv' := [(6, .int (-1)), (5, .int 0), (0, .ref b), (1, .ref h0), (2, .ref g0), (3, .ref oj), (4, .int (nI (4 * j9)))]) hx hb dL_law_340 hl (by decide) rfl (fun ls hl => ?_)
          refine lv_aload_n hx hb dL_law_342 rfl (lv_at hl 4 rfl) ?_
          refine k_I (wr := wC h0 a0 a1 a2 a3 a4 a5 cI cZ (zf bf) (va_cpy bf pw 0 ((ar * 256 + pg) * 64) 32) (upd hs ((ar * 256 + pg) * 2) (nb + 1)) lo lg rt (nb + 1) (nI fi) (nI fo) (nI fo) 0 (dcu cu) (ma + 1) ++ wO oj cJ (vp_updL og 0 (Int32.toInt64 (-1)))) hP hD hS hA (va_runV (As := []) (rest := []) ⟨hx, hb, hml, hown, hts⟩ (tX1_thrown 0 (zf bf) (va_cpy bf pw 0 ((ar * 256 + pg) * 64) 32) (upd hs ((ar * 256 + pg) * 2) (nb + 1)) lo lg rt (nb + 1) fi fo fo 1 (dcu cu) (ma + 1) _) (cwV 0 hts gL_law_X1_thrown rfl rfl rfl (by decide +kernel) ⟨Nat.le_of_ble_eq_true rfl, Nat.le_of_ble_eq_true rfl⟩) (pV_B hP hD hK (ci := 1) (q0 := 7) rfl rfl rfl [0, 1] rfl [7, 8, 9, 10, 11, 12, 13] rfl rfl) rfl rfl hl.1 rfl (lv_room (Nat.le_of_ble_eq_true rfl)) dL_law_343 hc9) [7, 8, 9, 10, 11, 12, 13] [0, 1, 2, 3, 4, 5, 6, 14] rfl rfl rfl (by decide) (fun H locs hP hD hS => ?_)
          have hP : va_P D vwCl (wC h0 a0 a1 a2 a3 a4 a5 cI cZ (zf bf) (va_cpy bf pw 0 ((ar * 256 + pg) * 64) 32) (upd hs ((ar * 256 + pg) * 2) (nb + 1)) lo lg rt (nb + 1) (nI fi) (nI fo) (nI fo) 0 (dcu cu) (ma + 1) ++ (wM g0 b0 b1 b2 b3 b4 b5 cI cZ 0 (zf bf) (va_cpy bf pw 0 ((ar * 256 + pg) * 64) 32) (upd hs ((ar * 256 + pg) * 2) (nb + 1)) lo lg rt (nb + 1) (nI fi) (nI fo) (nI fo) 1 (dcu cu) (ma + 1) ++ wO oj cJ (vp_updL og 0 (Int32.toInt64 (-1))))) H := hP.sub [0, 1, 2, 3, 4, 5, 6, 8, 9, 10, 11, 12, 13, 14, 7] rfl
          have hD : va_D A (wC h0 a0 a1 a2 a3 a4 a5 cI cZ (zf bf) (va_cpy bf pw 0 ((ar * 256 + pg) * 64) 32) (upd hs ((ar * 256 + pg) * 2) (nb + 1)) lo lg rt (nb + 1) (nI fi) (nI fo) (nI fo) 0 (dcu cu) (ma + 1) ++ (wM g0 b0 b1 b2 b3 b4 b5 cI cZ 0 (zf bf) (va_cpy bf pw 0 ((ar * 256 + pg) * 64) 32) (upd hs ((ar * 256 + pg) * 2) (nb + 1)) lo lg rt (nb + 1) (nI fi) (nI fo) (nI fo) 1 (dcu cu) (ma + 1) ++ wO oj cJ (vp_updL og 0 (Int32.toInt64 (-1))))) := hD.sub [0, 1, 2, 3, 4, 5, 6, 8, 9, 10, 11, 12, 13, 14, 7] (by decide) rfl
          refine lv_iload hx hb dL_law_346 (lv_at hl 1 rfl) ?_
          refine lv_icmp_eq (tgt := 353) hx hb dL_law_348 (by decide) (fun c_348 => ?_) (fun c_348 => absurd (by decide) c_348)
          refine lv_iload hx hb dL_law_353 (lv_at hl 1 rfl) ?_
          refine lv_if_ne (tgt := 370) hx hb dL_law_355 (by decide) (fun c_355 => absurd (by decide) c_355) (fun c_355 => ?_)
          refine lv_aload_n hx hb dL_law_358 rfl (lv_at hl 5 rfl) ?_
          refine lv_iconst (v := (nI 0)) hx hb dL_law_359 (by decide) ?_
          refine n_lald hx hb hK hP 14 2 rfl rfl 0 (by omega) (by omega) dL_law_360 ?_
          refine lv_iload hx hb dL_law_361 (lv_at hl 0 rfl) ?_
          refine lv_i2l (v := Int32.toInt64 (-1)) hx hb dL_law_363 rfl ?_
          refine W.lcmp hx hb dL_law_364 ?_
          refine lv_if_eq (tgt := 370) hx hb dL_law_365 (by decide) (fun c_365 => ?_) (fun c_365 => absurd (by rw [pk_uLs]; exact lg_self _) c_365)
          refine lv_goto (tgt := 1176) hx hb dL_law_370 (by decide) ?_
          refine W.widen (k := 15 + (j9 + 1)) (n := 199844 + 6 * (j9 + 1)) (by omega) (by omega) ?_
          refine lv_iinc (v := nI (4 * (j9 + 1))) (lv' := [(4, .int (nI (4 * (j9 + 1)))), (6, .int (-1)), (5, .int 0), (0, .ref b), (1, .ref h0), (2, .ref g0), (3, .ref oj)]) hx hb dL_law_1176 hl (k := 6) rfl (nI_add (4 * j9) 4) (by decide) rfl (fun ls hl => ?_)
          refine lv_goto (tgt := 23) hx hb dL_law_1179 (by decide) ?_
          exact IH (zf bf) (va_cpy bf pw 0 ((ar * 256 + pg) * 64) 32) (upd hs ((ar * 256 + pg) * 2) (nb + 1)) lo lg rt (nb + 1) fi fo fo 0 1 (dcu cu) (ma + 1) 0 (vp_updL og 0 (Int32.toInt64 (-1))) _ _ _ (Or.inl ⟨rfl, rfl⟩) (by omega) (by omega) (by omega) (dcu_ge h hcu) hP hD hS (lv_sub hl [3, 4, 5, 6, 0] rfl)
        · have hP : va_P D vwCl (wC h0 a0 a1 a2 a3 a4 a5 cI cZ bf pw hs lo lg rt nb (nI fi) (nI fo) (nI en) 1 cu ma ++ (wM g0 b0 b1 b2 b3 b4 b5 cI cZ th bf pw hs lo lg rt nb (nI fi) (nI fo) (nI en) 0 cu ma ++ wO oj cJ og)) H := hP
          have hD : va_D A (wC h0 a0 a1 a2 a3 a4 a5 cI cZ bf pw hs lo lg rt nb (nI fi) (nI fo) (nI en) 1 cu ma ++ (wM g0 b0 b1 b2 b3 b4 b5 cI cZ th bf pw hs lo lg rt nb (nI fi) (nI fo) (nI en) 0 cu ma ++ wO oj cJ og)) := hD
          refine lv_aload_n hx hb dL_law_305 rfl (lv_at hl 1 rfl) ?_
          refine lv_aload_n hx hb dL_law_306 rfl (lv_at hl 0 rfl) ?_
          refine lv_iload hx hb dL_law_307 (lv_at hl 4 rfl) ?_
          refine lv_iconst (v := (nI 1)) hx hb dL_law_309 (by decide) ?_
          refine n_iadd hx hb dL_law_310 ?_
          refine n_sld hx hb hX hbl hbA hS (4 * j9 + 1) (by omega) (by omega) ((nI ar)) ex dL_law_311 ?_
          refine lv_aload_n hx hb dL_law_312 rfl (lv_at hl 0 rfl) ?_
          refine lv_iload hx hb dL_law_313 (lv_at hl 4 rfl) ?_
          refine lv_iconst (v := (nI 2)) hx hb dL_law_315 (by decide) ?_
          refine n_iadd hx hb dL_law_316 ?_
          refine n_sld hx hb hX hbl hbA hS (4 * j9 + 2) (by omega) (by omega) ((nI pg)) ey dL_law_317 ?_
          refine lv_aload_n hx hb dL_law_318 rfl (lv_at hl 3 rfl) ?_
          refine k_I (wr := wM g0 b0 b1 b2 b3 b4 b5 cI cZ th bf pw hs lo lg rt nb (nI fi) (nI fo) (nI en) 0 cu ma) hP hD hS hA (vx_runSW (As := [.ref h0, .int (nI ar), .int (nI pg), .ref oj]) (rest := []) ⟨hx, hb, hml, hown, hts⟩ (tL_write_ok2 hl0 bf pw hs lo lg rt nb fi fo en cu ma ar pg h1 h2 h hd oj og _) (vx_cwSW 4 hts gL_law_L_write rfl rfl rfl (by decide +kernel) ⟨Nat.le_of_ble_eq_true rfl, Nat.le_of_ble_eq_true rfl⟩) (pS_X hP hD hK hS hA hT [0, 1, 2] rfl [0, 1, 2, 3, 4, 5, 6, 14] rfl rfl) rfl rfl hl.1 rfl (lv_room (Nat.le_of_ble_eq_true rfl)) dL_law_319 hc1) [0, 1, 2, 3, 4, 5, 6, 14] [7, 8, 9, 10, 11, 12, 13] rfl rfl rfl (by decide) (fun H locs hP hD hS => ?_)
          have hP : va_P D vwCl (wC h0 a0 a1 a2 a3 a4 a5 cI cZ bf (va_cpy bf (va_cpy bf pw 0 ((ar * 256 + pg) * 64) 32) 32 ((ar * 256 + pg) * 64 + 32) 32) (upd (upd hs ((ar * 256 + pg) * 2) (nb + 1)) ((ar * 256 + pg) * 2 + 1) (nb + 1)) (upd lo (ar * 256 + pg) 0) lg rt (nb + 1) (nI fi) (nI fo) (nI en) 1 (dcu (dcu cu)) (ma + 1 + 1) ++ (wM g0 b0 b1 b2 b3 b4 b5 cI cZ th bf pw hs lo lg rt nb (nI fi) (nI fo) (nI en) 0 cu ma ++ wO oj cJ (vp_updL og 0 (Int32.toInt64 (nb + 1))))) H := hP.sub [7, 8, 9, 10, 11, 12, 13, 0, 1, 2, 3, 4, 5, 6, 14] rfl
          have hD : va_D A (wC h0 a0 a1 a2 a3 a4 a5 cI cZ bf (va_cpy bf (va_cpy bf pw 0 ((ar * 256 + pg) * 64) 32) 32 ((ar * 256 + pg) * 64 + 32) 32) (upd (upd hs ((ar * 256 + pg) * 2) (nb + 1)) ((ar * 256 + pg) * 2 + 1) (nb + 1)) (upd lo (ar * 256 + pg) 0) lg rt (nb + 1) (nI fi) (nI fo) (nI en) 1 (dcu (dcu cu)) (ma + 1 + 1) ++ (wM g0 b0 b1 b2 b3 b4 b5 cI cZ th bf pw hs lo lg rt nb (nI fi) (nI fo) (nI en) 0 cu ma ++ wO oj cJ (vp_updL og 0 (Int32.toInt64 (nb + 1))))) := hD.sub [7, 8, 9, 10, 11, 12, 13, 0, 1, 2, 3, 4, 5, 6, 14] (by decide) rfl
          refine lv_istore (lv' := [(5, .int 0), (0, .ref b), (1, .ref h0), (2, .ref g0), (3, .ref oj), (4, .int (nI (4 * j9)))]) hx hb dL_law_322 hl (by decide) rfl (fun ls hl => ?_)
          refine lv_aload_n hx hb dL_law_324 rfl (lv_at hl 3 rfl) ?_
          refine lv_aload_n hx hb dL_law_325 rfl (lv_at hl 1 rfl) ?_
          refine lv_iload hx hb dL_law_326 (lv_at hl 5 rfl) ?_
          refine lv_iconst (v := (nI 1)) hx hb dL_law_328 (by decide) ?_
          refine n_iadd hx hb dL_law_329 ?_
          refine n_sld hx hb hX hbl hbA hS (4 * j9 + 1) (by omega) (by omega) ((nI ar)) ex dL_law_330 ?_
          refine lv_aload_n hx hb dL_law_331 rfl (lv_at hl 1 rfl) ?_
          refine lv_iload hx hb dL_law_332 (lv_at hl 5 rfl) ?_
          refine lv_iconst (v := (nI 2)) hx hb dL_law_334 (by decide) ?_
          refine n_iadd hx hb dL_law_335 ?_
          refine n_sld hx hb hX hbl hbA hS (4 * j9 + 2) (by omega) (by omega) ((nI pg)) ey dL_law_336 ?_
          refine k_I (wr := wC h0 a0 a1 a2 a3 a4 a5 cI cZ bf (va_cpy bf (va_cpy bf pw 0 ((ar * 256 + pg) * 64) 32) 32 ((ar * 256 + pg) * 64 + 32) 32) (upd (upd hs ((ar * 256 + pg) * 2) (nb + 1)) ((ar * 256 + pg) * 2 + 1) (nb + 1)) (upd lo (ar * 256 + pg) 0) lg rt (nb + 1) (nI fi) (nI fo) (nI en) 1 (dcu (dcu cu)) (ma + 1 + 1) ++ wO oj cJ (vp_updL og 0 (Int32.toInt64 (nb + 1)))) hP hD hS hA (va_runV (As := [.int (nI ar), .int (nI pg)]) (rest := []) ⟨hx, hb, hml, hown, hts⟩ (tX1_write_ok2 th bf pw hs lo lg rt nb fi fo en cu ma ar pg h1 h2 hcu h hd _) (cwV 2 hts gL_law_X1_write rfl rfl rfl (by decide +kernel) ⟨Nat.le_of_ble_eq_true rfl, Nat.le_of_ble_eq_true rfl⟩) (pV_B hP hD hK (ci := 1) (q0 := 7) rfl rfl rfl [0, 1] rfl [7, 8, 9, 10, 11, 12, 13] rfl rfl) rfl rfl hl.1 rfl (lv_room (Nat.le_of_ble_eq_true rfl)) dL_law_337 hc9) [7, 8, 9, 10, 11, 12, 13] [0, 1, 2, 3, 4, 5, 6, 14] rfl rfl rfl (by decide) (fun H locs hP hD hS => ?_)
          have hP : va_P D vwCl (wC h0 a0 a1 a2 a3 a4 a5 cI cZ bf (va_cpy bf (va_cpy bf pw 0 ((ar * 256 + pg) * 64) 32) 32 ((ar * 256 + pg) * 64 + 32) 32) (upd (upd hs ((ar * 256 + pg) * 2) (nb + 1)) ((ar * 256 + pg) * 2 + 1) (nb + 1)) (upd lo (ar * 256 + pg) 0) lg rt (nb + 1) (nI fi) (nI fo) (nI en) 1 (dcu (dcu cu)) (ma + 1 + 1) ++ (wM g0 b0 b1 b2 b3 b4 b5 cI cZ 0 bf (va_cpy bf (va_cpy bf pw 0 ((ar * 256 + pg) * 64) 32) 32 ((ar * 256 + pg) * 64 + 32) 32) (upd (upd hs ((ar * 256 + pg) * 2) (nb + 1)) ((ar * 256 + pg) * 2 + 1) (nb + 1)) (upd lo (ar * 256 + pg) 0) lg rt (nb + 1) (nI fi) (nI fo) (nI en) 0 (dcu (dcu cu)) (ma + 1 + 1) ++ wO oj cJ (vp_updL og 0 (Int32.toInt64 (nb + 1))))) H := hP.sub [0, 1, 2, 3, 4, 5, 6, 8, 9, 10, 11, 12, 13, 14, 7] rfl
          have hD : va_D A (wC h0 a0 a1 a2 a3 a4 a5 cI cZ bf (va_cpy bf (va_cpy bf pw 0 ((ar * 256 + pg) * 64) 32) 32 ((ar * 256 + pg) * 64 + 32) 32) (upd (upd hs ((ar * 256 + pg) * 2) (nb + 1)) ((ar * 256 + pg) * 2 + 1) (nb + 1)) (upd lo (ar * 256 + pg) 0) lg rt (nb + 1) (nI fi) (nI fo) (nI en) 1 (dcu (dcu cu)) (ma + 1 + 1) ++ (wM g0 b0 b1 b2 b3 b4 b5 cI cZ 0 bf (va_cpy bf (va_cpy bf pw 0 ((ar * 256 + pg) * 64) 32) 32 ((ar * 256 + pg) * 64 + 32) 32) (upd (upd hs ((ar * 256 + pg) * 2) (nb + 1)) ((ar * 256 + pg) * 2 + 1) (nb + 1)) (upd lo (ar * 256 + pg) 0) lg rt (nb + 1) (nI fi) (nI fo) (nI en) 0 (dcu (dcu cu)) (ma + 1 + 1) ++ wO oj cJ (vp_updL og 0 (Int32.toInt64 (nb + 1))))) := hD.sub [0, 1, 2, 3, 4, 5, 6, 8, 9, 10, 11, 12, 13, 14, 7] (by decide) rfl
          refine lv_istore (lv' := [(6, .int (nb + 1)), (5, .int 0), (0, .ref b), (1, .ref h0), (2, .ref g0), (3, .ref oj), (4, .int (nI (4 * j9)))]) hx hb dL_law_340 hl (by decide) rfl (fun ls hl => ?_)
          refine lv_aload_n hx hb dL_law_342 rfl (lv_at hl 4 rfl) ?_
          refine k_I (wr := wC h0 a0 a1 a2 a3 a4 a5 cI cZ bf (va_cpy bf (va_cpy bf pw 0 ((ar * 256 + pg) * 64) 32) 32 ((ar * 256 + pg) * 64 + 32) 32) (upd (upd hs ((ar * 256 + pg) * 2) (nb + 1)) ((ar * 256 + pg) * 2 + 1) (nb + 1)) (upd lo (ar * 256 + pg) 0) lg rt (nb + 1) (nI fi) (nI fo) (nI en) 1 (dcu (dcu cu)) (ma + 1 + 1) ++ wO oj cJ (vp_updL og 0 (Int32.toInt64 (nb + 1)))) hP hD hS hA (va_runV (As := []) (rest := []) ⟨hx, hb, hml, hown, hts⟩ (tX1_thrown 0 bf (va_cpy bf (va_cpy bf pw 0 ((ar * 256 + pg) * 64) 32) 32 ((ar * 256 + pg) * 64 + 32) 32) (upd (upd hs ((ar * 256 + pg) * 2) (nb + 1)) ((ar * 256 + pg) * 2 + 1) (nb + 1)) (upd lo (ar * 256 + pg) 0) lg rt (nb + 1) fi fo en 0 (dcu (dcu cu)) (ma + 1 + 1) _) (cwV 0 hts gL_law_X1_thrown rfl rfl rfl (by decide +kernel) ⟨Nat.le_of_ble_eq_true rfl, Nat.le_of_ble_eq_true rfl⟩) (pV_B hP hD hK (ci := 1) (q0 := 7) rfl rfl rfl [0, 1] rfl [7, 8, 9, 10, 11, 12, 13] rfl rfl) rfl rfl hl.1 rfl (lv_room (Nat.le_of_ble_eq_true rfl)) dL_law_343 hc9) [7, 8, 9, 10, 11, 12, 13] [0, 1, 2, 3, 4, 5, 6, 14] rfl rfl rfl (by decide) (fun H locs hP hD hS => ?_)
          have hP : va_P D vwCl (wC h0 a0 a1 a2 a3 a4 a5 cI cZ bf (va_cpy bf (va_cpy bf pw 0 ((ar * 256 + pg) * 64) 32) 32 ((ar * 256 + pg) * 64 + 32) 32) (upd (upd hs ((ar * 256 + pg) * 2) (nb + 1)) ((ar * 256 + pg) * 2 + 1) (nb + 1)) (upd lo (ar * 256 + pg) 0) lg rt (nb + 1) (nI fi) (nI fo) (nI en) 1 (dcu (dcu cu)) (ma + 1 + 1) ++ (wM g0 b0 b1 b2 b3 b4 b5 cI cZ 0 bf (va_cpy bf (va_cpy bf pw 0 ((ar * 256 + pg) * 64) 32) 32 ((ar * 256 + pg) * 64 + 32) 32) (upd (upd hs ((ar * 256 + pg) * 2) (nb + 1)) ((ar * 256 + pg) * 2 + 1) (nb + 1)) (upd lo (ar * 256 + pg) 0) lg rt (nb + 1) (nI fi) (nI fo) (nI en) 0 (dcu (dcu cu)) (ma + 1 + 1) ++ wO oj cJ (vp_updL og 0 (Int32.toInt64 (nb + 1))))) H := hP.sub [0, 1, 2, 3, 4, 5, 6, 8, 9, 10, 11, 12, 13, 14, 7] rfl
          have hD : va_D A (wC h0 a0 a1 a2 a3 a4 a5 cI cZ bf (va_cpy bf (va_cpy bf pw 0 ((ar * 256 + pg) * 64) 32) 32 ((ar * 256 + pg) * 64 + 32) 32) (upd (upd hs ((ar * 256 + pg) * 2) (nb + 1)) ((ar * 256 + pg) * 2 + 1) (nb + 1)) (upd lo (ar * 256 + pg) 0) lg rt (nb + 1) (nI fi) (nI fo) (nI en) 1 (dcu (dcu cu)) (ma + 1 + 1) ++ (wM g0 b0 b1 b2 b3 b4 b5 cI cZ 0 bf (va_cpy bf (va_cpy bf pw 0 ((ar * 256 + pg) * 64) 32) 32 ((ar * 256 + pg) * 64 + 32) 32) (upd (upd hs ((ar * 256 + pg) * 2) (nb + 1)) ((ar * 256 + pg) * 2 + 1) (nb + 1)) (upd lo (ar * 256 + pg) 0) lg rt (nb + 1) (nI fi) (nI fo) (nI en) 0 (dcu (dcu cu)) (ma + 1 + 1) ++ wO oj cJ (vp_updL og 0 (Int32.toInt64 (nb + 1))))) := hD.sub [0, 1, 2, 3, 4, 5, 6, 8, 9, 10, 11, 12, 13, 14, 7] (by decide) rfl
          refine lv_iload hx hb dL_law_346 (lv_at hl 1 rfl) ?_
          refine lv_icmp_eq (tgt := 353) hx hb dL_law_348 (by decide) (fun c_348 => ?_) (fun c_348 => absurd (by decide) c_348)
          refine lv_iload hx hb dL_law_353 (lv_at hl 1 rfl) ?_
          refine lv_if_ne (tgt := 370) hx hb dL_law_355 (by decide) (fun c_355 => absurd (by decide) c_355) (fun c_355 => ?_)
          refine lv_aload_n hx hb dL_law_358 rfl (lv_at hl 5 rfl) ?_
          refine lv_iconst (v := (nI 0)) hx hb dL_law_359 (by decide) ?_
          refine n_lald hx hb hK hP 14 2 rfl rfl 0 (by omega) (by omega) dL_law_360 ?_
          refine lv_iload hx hb dL_law_361 (lv_at hl 0 rfl) ?_
          refine lv_i2l (v := Int32.toInt64 (nb + 1)) hx hb dL_law_363 rfl ?_
          refine W.lcmp hx hb dL_law_364 ?_
          refine lv_if_eq (tgt := 370) hx hb dL_law_365 (by decide) (fun c_365 => ?_) (fun c_365 => absurd (by rw [pk_uLs]; exact lg_self _) c_365)
          refine lv_goto (tgt := 1176) hx hb dL_law_370 (by decide) ?_
          refine W.widen (k := 15 + (j9 + 1)) (n := 199844 + 6 * (j9 + 1)) (by omega) (by omega) ?_
          refine lv_iinc (v := nI (4 * (j9 + 1))) (lv' := [(4, .int (nI (4 * (j9 + 1)))), (6, .int (nb + 1)), (5, .int 0), (0, .ref b), (1, .ref h0), (2, .ref g0), (3, .ref oj)]) hx hb dL_law_1176 hl (k := 6) rfl (nI_add (4 * j9) 4) (by decide) rfl (fun ls hl => ?_)
          refine lv_goto (tgt := 23) hx hb dL_law_1179 (by decide) ?_
          exact IH bf (va_cpy bf (va_cpy bf pw 0 ((ar * 256 + pg) * 64) 32) 32 ((ar * 256 + pg) * 64 + 32) 32) (upd (upd hs ((ar * 256 + pg) * 2) (nb + 1)) ((ar * 256 + pg) * 2 + 1) (nb + 1)) (upd lo (ar * 256 + pg) 0) lg rt (nb + 1) fi fo en 1 0 (dcu (dcu cu)) (ma + 1 + 1) 0 (vp_updL og 0 (Int32.toInt64 (nb + 1))) _ _ _ (Or.inr ⟨rfl, rfl⟩) (by omega) (by omega) (by omega) (dcu_ge hd (dcu_ge h hcu)) hP hD hS (lv_sub hl [3, 4, 5, 6, 0] rfl)
set_option maxHeartbeats 4000000 in
set_option maxRecDepth 100000 in
theorem lo_read {p : Program} {l : Launch} {e : Env} {s : State} {m : MethodId} {below : List Frame} {meth : Method} {c : Code} {Q : State → Prop} {D : va_G} {A : Nat → Prop} {cI cZ cJ : ClassId} {b L : Nat} {xs : Nat → Int32} {h0 a0 a1 a2 a3 a4 a5 g0 b0 b1 b2 b3 b4 b5 oj : Nat} (hl0 : l.stackTraces = false) (hx : p.tables.exec = Jvm.exec) (hb : c.code = code) (hml : c.maxLocals = 7) (hown : s.vm.findClass RL = some m.cls) (hts : ∀ w ∈ wsL_law, w.before #[Value.ref b] s = true) (hX : va_X b L xs s s.heap) (hbl : b < s.heap.size) (hbA : ¬ A b) (hA : ∀ q : Nat, s.heap.size ≤ q → A q) (hK : va_K D vwCl (tyL cI cZ cJ) s) (hT : xT A s s.heap) (hL : L ≤ 2048) (j9 : Nat) (hj : 4 * j9 + 4 ≤ L)
    (IH : lgW p l e s m below meth c Q D A cI cZ cJ b h0 a0 a1 a2 a3 a4 a5 g0 b0 b1 b2 b3 b4 b5 oj (j9 + 1))
    (bf pw hs lo lg rt : Nat → Int32) (nb : Int32) (fi fo en : Nat) (on off cu ma th : Int32) (og : Nat → Int64) (H : Heap) (locs : List Loc) (ls : Array Slot) (hpo : (on = 0 ∧ off = 1) ∨ (on = 1 ∧ off = 0)) (hi1 : fi ≤ fo) (hi2 : fo ≤ en) (hi3 : en ≤ 64 * j9) (hcu : -1 ≤ cu)
    (hP : va_P D vwCl (wA h0 a0 a1 a2 a3 a4 a5 g0 b0 b1 b2 b3 b4 b5 oj cI cZ cJ bf pw hs lo lg rt nb fi fo en on off cu ma th og) H) (hD : va_D A (wA h0 a0 a1 a2 a3 a4 a5 g0 b0 b1 b2 b3 b4 b5 oj cI cZ cJ bf pw hs lo lg rt nb fi fo en on off cu ma th og)) (hS : va_S A s.heap H locs) (hl : lv_has ls 7 [(0, .ref b), (1, .ref h0), (2, .ref g0), (3, .ref oj), (4, .int (nI (4 * j9)))]) :
    W p l e room_1 s m #[Value.ref b] below meth c H locs (15 + j9) (199844 + 6 * j9) Q (F0 m 373 ls []) := by
  have he : en ≤ 60000 := by omega
  have hc0 : 15 + j9 + 0 ≤ room_1.cells ∧ 199844 + 6 * j9 + 0 ≤ room_1.slots := ⟨show 15 + j9 + 0 ≤ 601024 by omega, show 199844 + 6 * j9 + 0 ≤ 7293034 by omega⟩
  have hc1 : 15 + j9 + 1 ≤ room_1.cells ∧ 199844 + 6 * j9 + 6 ≤ room_1.slots := ⟨show 15 + j9 + 1 ≤ 601024 by omega, show 199844 + 6 * j9 + 6 ≤ 7293034 by omega⟩
  have hc9 : 15 + j9 + 1 + 0 ≤ room_1.cells ∧ 199844 + 6 * j9 + 6 + 0 ≤ room_1.slots := hc1
  obtain ⟨x, ex⟩ : ∃ z9, xs (4 * j9 + 1) = z9 := ⟨_, rfl⟩
  obtain ⟨y, ey⟩ : ∃ z9, xs (4 * j9 + 2) = z9 := ⟨_, rfl⟩
  rcases hpo with ⟨rfl, rfl⟩ | ⟨rfl, rfl⟩
  · have hP : va_P D vwCl (wC h0 a0 a1 a2 a3 a4 a5 cI cZ bf pw hs lo lg rt nb (nI fi) (nI fo) (nI en) 0 cu ma ++ (wM g0 b0 b1 b2 b3 b4 b5 cI cZ th bf pw hs lo lg rt nb (nI fi) (nI fo) (nI en) 1 cu ma ++ wO oj cJ og)) H := hP
    have hD : va_D A (wC h0 a0 a1 a2 a3 a4 a5 cI cZ bf pw hs lo lg rt nb (nI fi) (nI fo) (nI en) 0 cu ma ++ (wM g0 b0 b1 b2 b3 b4 b5 cI cZ th bf pw hs lo lg rt nb (nI fi) (nI fo) (nI en) 1 cu ma ++ wO oj cJ og)) := hD
    refine lv_aload_n hx hb dL_law_373 rfl (lv_at hl 1 rfl) ?_
    refine lv_aload_n hx hb dL_law_374 rfl (lv_at hl 0 rfl) ?_
    refine lv_iload hx hb dL_law_375 (lv_at hl 4 rfl) ?_
    refine lv_iconst (v := (nI 1)) hx hb dL_law_377 (by decide) ?_
    refine n_iadd hx hb dL_law_378 ?_
    refine n_sld hx hb hX hbl hbA hS (4 * j9 + 1) (by omega) (by omega) (x) ex dL_law_379 ?_
    refine lv_aload_n hx hb dL_law_380 rfl (lv_at hl 0 rfl) ?_
    refine lv_iload hx hb dL_law_381 (lv_at hl 4 rfl) ?_
    refine lv_iconst (v := (nI 2)) hx hb dL_law_383 (by decide) ?_
    refine n_iadd hx hb dL_law_384 ?_
    refine n_sld hx hb hX hbl hbA hS (4 * j9 + 2) (by omega) (by omega) (y) ey dL_law_385 ?_
    refine lv_aload_n hx hb dL_law_386 rfl (lv_at hl 3 rfl) ?_
    refine k_I (wr := wM g0 b0 b1 b2 b3 b4 b5 cI cZ th bf pw hs lo lg rt nb (nI fi) (nI fo) (nI en) 1 cu ma) hP hD hS hA (vx_runSW (As := [.ref h0, .int x, .int y, .ref oj]) (rest := []) ⟨hx, hb, hml, hown, hts⟩ (tL_read_x0 hl0 bf pw hs lo lg rt nb fi fo en cu ma x y oj og _) (vx_cwSW 4 hts gL_law_L_read rfl rfl rfl (by decide +kernel) ⟨Nat.le_of_ble_eq_true rfl, Nat.le_of_ble_eq_true rfl⟩) (pS_X hP hD hK hS hA hT [0, 1, 2] rfl [0, 1, 2, 3, 4, 5, 6, 14] rfl rfl) rfl rfl hl.1 rfl (lv_room (Nat.le_of_ble_eq_true rfl)) dL_law_387 hc1) [0, 1, 2, 3, 4, 5, 6, 14] [7, 8, 9, 10, 11, 12, 13] rfl rfl rfl (by decide) (fun H locs hP hD hS => ?_)
    have hP : va_P D vwCl (wC h0 a0 a1 a2 a3 a4 a5 cI cZ bf pw hs lo lg rt nb (nI fi) (nI fo) (nI en) 0 cu ma ++ (wM g0 b0 b1 b2 b3 b4 b5 cI cZ th bf pw hs lo lg rt nb (nI fi) (nI fo) (nI en) 1 cu ma ++ wO oj cJ og)) H := hP.sub [7, 8, 9, 10, 11, 12, 13, 0, 1, 2, 3, 4, 5, 6, 14] rfl
    have hD : va_D A (wC h0 a0 a1 a2 a3 a4 a5 cI cZ bf pw hs lo lg rt nb (nI fi) (nI fo) (nI en) 0 cu ma ++ (wM g0 b0 b1 b2 b3 b4 b5 cI cZ th bf pw hs lo lg rt nb (nI fi) (nI fo) (nI en) 1 cu ma ++ wO oj cJ og)) := hD.sub [7, 8, 9, 10, 11, 12, 13, 0, 1, 2, 3, 4, 5, 6, 14] (by decide) rfl
    refine lv_istore (lv' := [(5, .int 1), (0, .ref b), (1, .ref h0), (2, .ref g0), (3, .ref oj), (4, .int (nI (4 * j9)))]) hx hb dL_law_390 hl (by decide) rfl (fun ls hl => ?_)
    refine lv_aload_n hx hb dL_law_392 rfl (lv_at hl 3 rfl) ?_
    refine lv_aload_n hx hb dL_law_393 rfl (lv_at hl 1 rfl) ?_
    refine lv_iload hx hb dL_law_394 (lv_at hl 5 rfl) ?_
    refine lv_iconst (v := (nI 1)) hx hb dL_law_396 (by decide) ?_
    refine n_iadd hx hb dL_law_397 ?_
    refine n_sld hx hb hX hbl hbA hS (4 * j9 + 1) (by omega) (by omega) (x) ex dL_law_398 ?_
    refine lv_aload_n hx hb dL_law_399 rfl (lv_at hl 1 rfl) ?_
    refine lv_iload hx hb dL_law_400 (lv_at hl 5 rfl) ?_
    refine lv_iconst (v := (nI 2)) hx hb dL_law_402 (by decide) ?_
    refine n_iadd hx hb dL_law_403 ?_
    refine n_sld hx hb hX hbl hbA hS (4 * j9 + 2) (by omega) (by omega) (y) ey dL_law_404 ?_
    refine k_I (wr := wC h0 a0 a1 a2 a3 a4 a5 cI cZ bf pw hs lo lg rt nb (nI fi) (nI fo) (nI en) 0 cu ma ++ wO oj cJ og) hP hD hS hA (va_runV (As := [.int x, .int y]) (rest := []) ⟨hx, hb, hml, hown, hts⟩ (tX1_read_x0 th bf pw hs lo lg rt nb fi fo en cu ma x y _) (cwV 2 hts gL_law_X1_read rfl rfl rfl (by decide +kernel) ⟨Nat.le_of_ble_eq_true rfl, Nat.le_of_ble_eq_true rfl⟩) (pV_B hP hD hK (ci := 1) (q0 := 7) rfl rfl rfl [0, 1] rfl [7, 8, 9, 10, 11, 12, 13] rfl rfl) rfl rfl hl.1 rfl (lv_room (Nat.le_of_ble_eq_true rfl)) dL_law_405 hc9) [7, 8, 9, 10, 11, 12, 13] [0, 1, 2, 3, 4, 5, 6, 14] rfl rfl rfl (by decide) (fun H locs hP hD hS => ?_)
    have hP : va_P D vwCl (wC h0 a0 a1 a2 a3 a4 a5 cI cZ bf pw hs lo lg rt nb (nI fi) (nI fo) (nI en) 0 cu ma ++ (wM g0 b0 b1 b2 b3 b4 b5 cI cZ 1 bf pw hs lo lg rt nb (nI fi) (nI fo) (nI en) 1 cu ma ++ wO oj cJ og)) H := hP.sub [0, 1, 2, 3, 4, 5, 6, 8, 9, 10, 11, 12, 13, 14, 7] rfl
    have hD : va_D A (wC h0 a0 a1 a2 a3 a4 a5 cI cZ bf pw hs lo lg rt nb (nI fi) (nI fo) (nI en) 0 cu ma ++ (wM g0 b0 b1 b2 b3 b4 b5 cI cZ 1 bf pw hs lo lg rt nb (nI fi) (nI fo) (nI en) 1 cu ma ++ wO oj cJ og)) := hD.sub [0, 1, 2, 3, 4, 5, 6, 8, 9, 10, 11, 12, 13, 14, 7] (by decide) rfl
    refine lv_istore (lv' := [(6, .int 0), (5, .int 1), (0, .ref b), (1, .ref h0), (2, .ref g0), (3, .ref oj), (4, .int (nI (4 * j9)))]) hx hb dL_law_408 hl (by decide) rfl (fun ls hl => ?_)
    refine lv_aload_n hx hb dL_law_410 rfl (lv_at hl 4 rfl) ?_
    refine k_I (wr := wC h0 a0 a1 a2 a3 a4 a5 cI cZ bf pw hs lo lg rt nb (nI fi) (nI fo) (nI en) 0 cu ma ++ wO oj cJ og) hP hD hS hA (va_runV (As := []) (rest := []) ⟨hx, hb, hml, hown, hts⟩ (tX1_thrown 1 bf pw hs lo lg rt nb fi fo en 1 cu ma _) (cwV 0 hts gL_law_X1_thrown rfl rfl rfl (by decide +kernel) ⟨Nat.le_of_ble_eq_true rfl, Nat.le_of_ble_eq_true rfl⟩) (pV_B hP hD hK (ci := 1) (q0 := 7) rfl rfl rfl [0, 1] rfl [7, 8, 9, 10, 11, 12, 13] rfl rfl) rfl rfl hl.1 rfl (lv_room (Nat.le_of_ble_eq_true rfl)) dL_law_411 hc9) [7, 8, 9, 10, 11, 12, 13] [0, 1, 2, 3, 4, 5, 6, 14] rfl rfl rfl (by decide) (fun H locs hP hD hS => ?_)
    have hP : va_P D vwCl (wC h0 a0 a1 a2 a3 a4 a5 cI cZ bf pw hs lo lg rt nb (nI fi) (nI fo) (nI en) 0 cu ma ++ (wM g0 b0 b1 b2 b3 b4 b5 cI cZ 1 bf pw hs lo lg rt nb (nI fi) (nI fo) (nI en) 1 cu ma ++ wO oj cJ og)) H := hP.sub [0, 1, 2, 3, 4, 5, 6, 8, 9, 10, 11, 12, 13, 14, 7] rfl
    have hD : va_D A (wC h0 a0 a1 a2 a3 a4 a5 cI cZ bf pw hs lo lg rt nb (nI fi) (nI fo) (nI en) 0 cu ma ++ (wM g0 b0 b1 b2 b3 b4 b5 cI cZ 1 bf pw hs lo lg rt nb (nI fi) (nI fo) (nI en) 1 cu ma ++ wO oj cJ og)) := hD.sub [0, 1, 2, 3, 4, 5, 6, 8, 9, 10, 11, 12, 13, 14, 7] (by decide) rfl
    refine lv_iload hx hb dL_law_414 (lv_at hl 1 rfl) ?_
    refine lv_icmp_eq (tgt := 421) hx hb dL_law_416 (by decide) (fun c_416 => ?_) (fun c_416 => absurd (by decide) c_416)
    refine lv_iload hx hb dL_law_421 (lv_at hl 1 rfl) ?_
    refine lv_if_ne (tgt := 438) hx hb dL_law_423 (by decide) (fun c_423 => ?_) (fun c_423 => absurd c_423 (by decide))
    refine lv_goto (tgt := 1176) hx hb dL_law_438 (by decide) ?_
    refine W.widen (k := 15 + (j9 + 1)) (n := 199844 + 6 * (j9 + 1)) (by omega) (by omega) ?_
    refine lv_iinc (v := nI (4 * (j9 + 1))) (lv' := [(4, .int (nI (4 * (j9 + 1)))), (6, .int 0), (5, .int 1), (0, .ref b), (1, .ref h0), (2, .ref g0), (3, .ref oj)]) hx hb dL_law_1176 hl (k := 6) rfl (nI_add (4 * j9) 4) (by decide) rfl (fun ls hl => ?_)
    refine lv_goto (tgt := 23) hx hb dL_law_1179 (by decide) ?_
    exact IH bf pw hs lo lg rt nb fi fo en 0 1 cu ma 1 og _ _ _ (Or.inl ⟨rfl, rfl⟩) (by omega) (by omega) (by omega) hcu hP hD hS (lv_sub hl [3, 4, 5, 6, 0] rfl)
  · rcases pg_cases x y with h | ⟨ar, pg, h1, h2, rfl, rfl⟩
    · have hP : va_P D vwCl (wC h0 a0 a1 a2 a3 a4 a5 cI cZ bf pw hs lo lg rt nb (nI fi) (nI fo) (nI en) 1 cu ma ++ (wM g0 b0 b1 b2 b3 b4 b5 cI cZ th bf pw hs lo lg rt nb (nI fi) (nI fo) (nI en) 0 cu ma ++ wO oj cJ og)) H := hP
      have hD : va_D A (wC h0 a0 a1 a2 a3 a4 a5 cI cZ bf pw hs lo lg rt nb (nI fi) (nI fo) (nI en) 1 cu ma ++ (wM g0 b0 b1 b2 b3 b4 b5 cI cZ th bf pw hs lo lg rt nb (nI fi) (nI fo) (nI en) 0 cu ma ++ wO oj cJ og)) := hD
      refine lv_aload_n hx hb dL_law_373 rfl (lv_at hl 1 rfl) ?_
      refine lv_aload_n hx hb dL_law_374 rfl (lv_at hl 0 rfl) ?_
      refine lv_iload hx hb dL_law_375 (lv_at hl 4 rfl) ?_
      refine lv_iconst (v := (nI 1)) hx hb dL_law_377 (by decide) ?_
      refine n_iadd hx hb dL_law_378 ?_
      refine n_sld hx hb hX hbl hbA hS (4 * j9 + 1) (by omega) (by omega) (x) ex dL_law_379 ?_
      refine lv_aload_n hx hb dL_law_380 rfl (lv_at hl 0 rfl) ?_
      refine lv_iload hx hb dL_law_381 (lv_at hl 4 rfl) ?_
      refine lv_iconst (v := (nI 2)) hx hb dL_law_383 (by decide) ?_
      refine n_iadd hx hb dL_law_384 ?_
      refine n_sld hx hb hX hbl hbA hS (4 * j9 + 2) (by omega) (by omega) (y) ey dL_law_385 ?_
      refine lv_aload_n hx hb dL_law_386 rfl (lv_at hl 3 rfl) ?_
      refine k_I (wr := wM g0 b0 b1 b2 b3 b4 b5 cI cZ th bf pw hs lo lg rt nb (nI fi) (nI fo) (nI en) 0 cu ma) hP hD hS hA (vx_runSW (As := [.ref h0, .int x, .int y, .ref oj]) (rest := []) ⟨hx, hb, hml, hown, hts⟩ (tL_read_xb hl0 bf pw hs lo lg rt nb fi fo en cu ma x y h oj og _) (vx_cwSW 4 hts gL_law_L_read rfl rfl rfl (by decide +kernel) ⟨Nat.le_of_ble_eq_true rfl, Nat.le_of_ble_eq_true rfl⟩) (pS_X hP hD hK hS hA hT [0, 1, 2] rfl [0, 1, 2, 3, 4, 5, 6, 14] rfl rfl) rfl rfl hl.1 rfl (lv_room (Nat.le_of_ble_eq_true rfl)) dL_law_387 hc1) [0, 1, 2, 3, 4, 5, 6, 14] [7, 8, 9, 10, 11, 12, 13] rfl rfl rfl (by decide) (fun H locs hP hD hS => ?_)
      have hP : va_P D vwCl (wC h0 a0 a1 a2 a3 a4 a5 cI cZ bf pw hs lo lg rt nb (nI fi) (nI fo) (nI en) 1 cu ma ++ (wM g0 b0 b1 b2 b3 b4 b5 cI cZ th bf pw hs lo lg rt nb (nI fi) (nI fo) (nI en) 0 cu ma ++ wO oj cJ og)) H := hP.sub [7, 8, 9, 10, 11, 12, 13, 0, 1, 2, 3, 4, 5, 6, 14] rfl
      have hD : va_D A (wC h0 a0 a1 a2 a3 a4 a5 cI cZ bf pw hs lo lg rt nb (nI fi) (nI fo) (nI en) 1 cu ma ++ (wM g0 b0 b1 b2 b3 b4 b5 cI cZ th bf pw hs lo lg rt nb (nI fi) (nI fo) (nI en) 0 cu ma ++ wO oj cJ og)) := hD.sub [7, 8, 9, 10, 11, 12, 13, 0, 1, 2, 3, 4, 5, 6, 14] (by decide) rfl
      refine lv_istore (lv' := [(5, .int 2), (0, .ref b), (1, .ref h0), (2, .ref g0), (3, .ref oj), (4, .int (nI (4 * j9)))]) hx hb dL_law_390 hl (by decide) rfl (fun ls hl => ?_)
      refine lv_aload_n hx hb dL_law_392 rfl (lv_at hl 3 rfl) ?_
      refine lv_aload_n hx hb dL_law_393 rfl (lv_at hl 1 rfl) ?_
      refine lv_iload hx hb dL_law_394 (lv_at hl 5 rfl) ?_
      refine lv_iconst (v := (nI 1)) hx hb dL_law_396 (by decide) ?_
      refine n_iadd hx hb dL_law_397 ?_
      refine n_sld hx hb hX hbl hbA hS (4 * j9 + 1) (by omega) (by omega) (x) ex dL_law_398 ?_
      refine lv_aload_n hx hb dL_law_399 rfl (lv_at hl 1 rfl) ?_
      refine lv_iload hx hb dL_law_400 (lv_at hl 5 rfl) ?_
      refine lv_iconst (v := (nI 2)) hx hb dL_law_402 (by decide) ?_
      refine n_iadd hx hb dL_law_403 ?_
      refine n_sld hx hb hX hbl hbA hS (4 * j9 + 2) (by omega) (by omega) (y) ey dL_law_404 ?_
      refine k_I (wr := wC h0 a0 a1 a2 a3 a4 a5 cI cZ bf pw hs lo lg rt nb (nI fi) (nI fo) (nI en) 1 cu ma ++ wO oj cJ og) hP hD hS hA (va_runV (As := [.int x, .int y]) (rest := []) ⟨hx, hb, hml, hown, hts⟩ (tX1_read_xb th bf pw hs lo lg rt nb fi fo en cu ma x y h _) (cwV 2 hts gL_law_X1_read rfl rfl rfl (by decide +kernel) ⟨Nat.le_of_ble_eq_true rfl, Nat.le_of_ble_eq_true rfl⟩) (pV_B hP hD hK (ci := 1) (q0 := 7) rfl rfl rfl [0, 1] rfl [7, 8, 9, 10, 11, 12, 13] rfl rfl) rfl rfl hl.1 rfl (lv_room (Nat.le_of_ble_eq_true rfl)) dL_law_405 hc9) [7, 8, 9, 10, 11, 12, 13] [0, 1, 2, 3, 4, 5, 6, 14] rfl rfl rfl (by decide) (fun H locs hP hD hS => ?_)
      have hP : va_P D vwCl (wC h0 a0 a1 a2 a3 a4 a5 cI cZ bf pw hs lo lg rt nb (nI fi) (nI fo) (nI en) 1 cu ma ++ (wM g0 b0 b1 b2 b3 b4 b5 cI cZ 2 bf pw hs lo lg rt nb (nI fi) (nI fo) (nI en) 0 cu ma ++ wO oj cJ og)) H := hP.sub [0, 1, 2, 3, 4, 5, 6, 8, 9, 10, 11, 12, 13, 14, 7] rfl
      have hD : va_D A (wC h0 a0 a1 a2 a3 a4 a5 cI cZ bf pw hs lo lg rt nb (nI fi) (nI fo) (nI en) 1 cu ma ++ (wM g0 b0 b1 b2 b3 b4 b5 cI cZ 2 bf pw hs lo lg rt nb (nI fi) (nI fo) (nI en) 0 cu ma ++ wO oj cJ og)) := hD.sub [0, 1, 2, 3, 4, 5, 6, 8, 9, 10, 11, 12, 13, 14, 7] (by decide) rfl
      refine lv_istore (lv' := [(6, .int 0), (5, .int 2), (0, .ref b), (1, .ref h0), (2, .ref g0), (3, .ref oj), (4, .int (nI (4 * j9)))]) hx hb dL_law_408 hl (by decide) rfl (fun ls hl => ?_)
      refine lv_aload_n hx hb dL_law_410 rfl (lv_at hl 4 rfl) ?_
      refine k_I (wr := wC h0 a0 a1 a2 a3 a4 a5 cI cZ bf pw hs lo lg rt nb (nI fi) (nI fo) (nI en) 1 cu ma ++ wO oj cJ og) hP hD hS hA (va_runV (As := []) (rest := []) ⟨hx, hb, hml, hown, hts⟩ (tX1_thrown 2 bf pw hs lo lg rt nb fi fo en 0 cu ma _) (cwV 0 hts gL_law_X1_thrown rfl rfl rfl (by decide +kernel) ⟨Nat.le_of_ble_eq_true rfl, Nat.le_of_ble_eq_true rfl⟩) (pV_B hP hD hK (ci := 1) (q0 := 7) rfl rfl rfl [0, 1] rfl [7, 8, 9, 10, 11, 12, 13] rfl rfl) rfl rfl hl.1 rfl (lv_room (Nat.le_of_ble_eq_true rfl)) dL_law_411 hc9) [7, 8, 9, 10, 11, 12, 13] [0, 1, 2, 3, 4, 5, 6, 14] rfl rfl rfl (by decide) (fun H locs hP hD hS => ?_)
      have hP : va_P D vwCl (wC h0 a0 a1 a2 a3 a4 a5 cI cZ bf pw hs lo lg rt nb (nI fi) (nI fo) (nI en) 1 cu ma ++ (wM g0 b0 b1 b2 b3 b4 b5 cI cZ 2 bf pw hs lo lg rt nb (nI fi) (nI fo) (nI en) 0 cu ma ++ wO oj cJ og)) H := hP.sub [0, 1, 2, 3, 4, 5, 6, 8, 9, 10, 11, 12, 13, 14, 7] rfl
      have hD : va_D A (wC h0 a0 a1 a2 a3 a4 a5 cI cZ bf pw hs lo lg rt nb (nI fi) (nI fo) (nI en) 1 cu ma ++ (wM g0 b0 b1 b2 b3 b4 b5 cI cZ 2 bf pw hs lo lg rt nb (nI fi) (nI fo) (nI en) 0 cu ma ++ wO oj cJ og)) := hD.sub [0, 1, 2, 3, 4, 5, 6, 8, 9, 10, 11, 12, 13, 14, 7] (by decide) rfl
      refine lv_iload hx hb dL_law_414 (lv_at hl 1 rfl) ?_
      refine lv_icmp_eq (tgt := 421) hx hb dL_law_416 (by decide) (fun c_416 => ?_) (fun c_416 => absurd (by decide) c_416)
      refine lv_iload hx hb dL_law_421 (lv_at hl 1 rfl) ?_
      refine lv_if_ne (tgt := 438) hx hb dL_law_423 (by decide) (fun c_423 => ?_) (fun c_423 => absurd c_423 (by decide))
      refine lv_goto (tgt := 1176) hx hb dL_law_438 (by decide) ?_
      refine W.widen (k := 15 + (j9 + 1)) (n := 199844 + 6 * (j9 + 1)) (by omega) (by omega) ?_
      refine lv_iinc (v := nI (4 * (j9 + 1))) (lv' := [(4, .int (nI (4 * (j9 + 1)))), (6, .int 0), (5, .int 2), (0, .ref b), (1, .ref h0), (2, .ref g0), (3, .ref oj)]) hx hb dL_law_1176 hl (k := 6) rfl (nI_add (4 * j9) 4) (by decide) rfl (fun ls hl => ?_)
      refine lv_goto (tgt := 23) hx hb dL_law_1179 (by decide) ?_
      exact IH bf pw hs lo lg rt nb fi fo en 1 0 cu ma 2 og _ _ _ (Or.inr ⟨rfl, rfl⟩) (by omega) (by omega) (by omega) hcu hP hD hS (lv_sub hl [3, 4, 5, 6, 0] rfl)
    · by_cases h : lo (ar * 256 + pg) = 0
      · have hP : va_P D vwCl (wC h0 a0 a1 a2 a3 a4 a5 cI cZ bf pw hs lo lg rt nb (nI fi) (nI fo) (nI en) 1 cu ma ++ (wM g0 b0 b1 b2 b3 b4 b5 cI cZ th bf pw hs lo lg rt nb (nI fi) (nI fo) (nI en) 0 cu ma ++ wO oj cJ og)) H := hP
        have hD : va_D A (wC h0 a0 a1 a2 a3 a4 a5 cI cZ bf pw hs lo lg rt nb (nI fi) (nI fo) (nI en) 1 cu ma ++ (wM g0 b0 b1 b2 b3 b4 b5 cI cZ th bf pw hs lo lg rt nb (nI fi) (nI fo) (nI en) 0 cu ma ++ wO oj cJ og)) := hD
        refine lv_aload_n hx hb dL_law_373 rfl (lv_at hl 1 rfl) ?_
        refine lv_aload_n hx hb dL_law_374 rfl (lv_at hl 0 rfl) ?_
        refine lv_iload hx hb dL_law_375 (lv_at hl 4 rfl) ?_
        refine lv_iconst (v := (nI 1)) hx hb dL_law_377 (by decide) ?_
        refine n_iadd hx hb dL_law_378 ?_
        refine n_sld hx hb hX hbl hbA hS (4 * j9 + 1) (by omega) (by omega) ((nI ar)) ex dL_law_379 ?_
        refine lv_aload_n hx hb dL_law_380 rfl (lv_at hl 0 rfl) ?_
        refine lv_iload hx hb dL_law_381 (lv_at hl 4 rfl) ?_
        refine lv_iconst (v := (nI 2)) hx hb dL_law_383 (by decide) ?_
        refine n_iadd hx hb dL_law_384 ?_
        refine n_sld hx hb hX hbl hbA hS (4 * j9 + 2) (by omega) (by omega) ((nI pg)) ey dL_law_385 ?_
        refine lv_aload_n hx hb dL_law_386 rfl (lv_at hl 3 rfl) ?_
        refine k_I (wr := wM g0 b0 b1 b2 b3 b4 b5 cI cZ th bf pw hs lo lg rt nb (nI fi) (nI fo) (nI en) 0 cu ma) hP hD hS hA (vx_runSW (As := [.ref h0, .int (nI ar), .int (nI pg), .ref oj]) (rest := []) ⟨hx, hb, hml, hown, hts⟩ (tL_read_okn hl0 bf pw hs lo lg rt nb fi fo en cu ma ar pg h1 h2 h oj og _) (vx_cwSW 4 hts gL_law_L_read rfl rfl rfl (by decide +kernel) ⟨Nat.le_of_ble_eq_true rfl, Nat.le_of_ble_eq_true rfl⟩) (pS_X hP hD hK hS hA hT [0, 1, 2] rfl [0, 1, 2, 3, 4, 5, 6, 14] rfl rfl) rfl rfl hl.1 rfl (lv_room (Nat.le_of_ble_eq_true rfl)) dL_law_387 hc1) [0, 1, 2, 3, 4, 5, 6, 14] [7, 8, 9, 10, 11, 12, 13] rfl rfl rfl (by decide) (fun H locs hP hD hS => ?_)
        have hP : va_P D vwCl (wC h0 a0 a1 a2 a3 a4 a5 cI cZ (fl (fun j => pw ((ar * 256 + pg) * 64 + j)) 64 bf) pw hs lo lg rt nb (nI fi) (nI fo) (nI en) 1 cu ma ++ (wM g0 b0 b1 b2 b3 b4 b5 cI cZ th bf pw hs lo lg rt nb (nI fi) (nI fo) (nI en) 0 cu ma ++ wO oj cJ (vp_updL og 0 (Int32.toInt64 (sp_ps lo hs (ar * 256 + pg)))))) H := hP.sub [7, 8, 9, 10, 11, 12, 13, 0, 1, 2, 3, 4, 5, 6, 14] rfl
        have hD : va_D A (wC h0 a0 a1 a2 a3 a4 a5 cI cZ (fl (fun j => pw ((ar * 256 + pg) * 64 + j)) 64 bf) pw hs lo lg rt nb (nI fi) (nI fo) (nI en) 1 cu ma ++ (wM g0 b0 b1 b2 b3 b4 b5 cI cZ th bf pw hs lo lg rt nb (nI fi) (nI fo) (nI en) 0 cu ma ++ wO oj cJ (vp_updL og 0 (Int32.toInt64 (sp_ps lo hs (ar * 256 + pg)))))) := hD.sub [7, 8, 9, 10, 11, 12, 13, 0, 1, 2, 3, 4, 5, 6, 14] (by decide) rfl
        refine lv_istore (lv' := [(5, .int 0), (0, .ref b), (1, .ref h0), (2, .ref g0), (3, .ref oj), (4, .int (nI (4 * j9)))]) hx hb dL_law_390 hl (by decide) rfl (fun ls hl => ?_)
        refine lv_aload_n hx hb dL_law_392 rfl (lv_at hl 3 rfl) ?_
        refine lv_aload_n hx hb dL_law_393 rfl (lv_at hl 1 rfl) ?_
        refine lv_iload hx hb dL_law_394 (lv_at hl 5 rfl) ?_
        refine lv_iconst (v := (nI 1)) hx hb dL_law_396 (by decide) ?_
        refine n_iadd hx hb dL_law_397 ?_
        refine n_sld hx hb hX hbl hbA hS (4 * j9 + 1) (by omega) (by omega) ((nI ar)) ex dL_law_398 ?_
        refine lv_aload_n hx hb dL_law_399 rfl (lv_at hl 1 rfl) ?_
        refine lv_iload hx hb dL_law_400 (lv_at hl 5 rfl) ?_
        refine lv_iconst (v := (nI 2)) hx hb dL_law_402 (by decide) ?_
        refine n_iadd hx hb dL_law_403 ?_
        refine n_sld hx hb hX hbl hbA hS (4 * j9 + 2) (by omega) (by omega) ((nI pg)) ey dL_law_404 ?_
        refine k_I (wr := wC h0 a0 a1 a2 a3 a4 a5 cI cZ (fl (fun j => pw ((ar * 256 + pg) * 64 + j)) 64 bf) pw hs lo lg rt nb (nI fi) (nI fo) (nI en) 1 cu ma ++ wO oj cJ (vp_updL og 0 (Int32.toInt64 (sp_ps lo hs (ar * 256 + pg))))) hP hD hS hA (va_runV (As := [.int (nI ar), .int (nI pg)]) (rest := []) ⟨hx, hb, hml, hown, hts⟩ (tX1_read_okn th bf pw hs lo lg rt nb fi fo en cu ma ar pg h1 h2 h _) (cwV 2 hts gL_law_X1_read rfl rfl rfl (by decide +kernel) ⟨Nat.le_of_ble_eq_true rfl, Nat.le_of_ble_eq_true rfl⟩) (pV_B hP hD hK (ci := 1) (q0 := 7) rfl rfl rfl [0, 1] rfl [7, 8, 9, 10, 11, 12, 13] rfl rfl) rfl rfl hl.1 rfl (lv_room (Nat.le_of_ble_eq_true rfl)) dL_law_405 hc9) [7, 8, 9, 10, 11, 12, 13] [0, 1, 2, 3, 4, 5, 6, 14] rfl rfl rfl (by decide) (fun H locs hP hD hS => ?_)
        have hP : va_P D vwCl (wC h0 a0 a1 a2 a3 a4 a5 cI cZ (fl (fun j => pw ((ar * 256 + pg) * 64 + j)) 64 bf) pw hs lo lg rt nb (nI fi) (nI fo) (nI en) 1 cu ma ++ (wM g0 b0 b1 b2 b3 b4 b5 cI cZ 0 (fl (fun j => pw ((ar * 256 + pg) * 64 + j)) 64 bf) pw hs lo lg rt nb (nI fi) (nI fo) (nI en) 0 cu ma ++ wO oj cJ (vp_updL og 0 (Int32.toInt64 (sp_ps lo hs (ar * 256 + pg)))))) H := hP.sub [0, 1, 2, 3, 4, 5, 6, 8, 9, 10, 11, 12, 13, 14, 7] rfl
        have hD : va_D A (wC h0 a0 a1 a2 a3 a4 a5 cI cZ (fl (fun j => pw ((ar * 256 + pg) * 64 + j)) 64 bf) pw hs lo lg rt nb (nI fi) (nI fo) (nI en) 1 cu ma ++ (wM g0 b0 b1 b2 b3 b4 b5 cI cZ 0 (fl (fun j => pw ((ar * 256 + pg) * 64 + j)) 64 bf) pw hs lo lg rt nb (nI fi) (nI fo) (nI en) 0 cu ma ++ wO oj cJ (vp_updL og 0 (Int32.toInt64 (sp_ps lo hs (ar * 256 + pg)))))) := hD.sub [0, 1, 2, 3, 4, 5, 6, 8, 9, 10, 11, 12, 13, 14, 7] (by decide) rfl
        refine lv_istore (lv' := [(6, .int (sp_ps lo hs (ar * 256 + pg))), (5, .int 0), (0, .ref b), (1, .ref h0), (2, .ref g0), (3, .ref oj), (4, .int (nI (4 * j9)))]) hx hb dL_law_408 hl (by decide) rfl (fun ls hl => ?_)
        refine lv_aload_n hx hb dL_law_410 rfl (lv_at hl 4 rfl) ?_
        refine k_I (wr := wC h0 a0 a1 a2 a3 a4 a5 cI cZ (fl (fun j => pw ((ar * 256 + pg) * 64 + j)) 64 bf) pw hs lo lg rt nb (nI fi) (nI fo) (nI en) 1 cu ma ++ wO oj cJ (vp_updL og 0 (Int32.toInt64 (sp_ps lo hs (ar * 256 + pg))))) hP hD hS hA (va_runV (As := []) (rest := []) ⟨hx, hb, hml, hown, hts⟩ (tX1_thrown 0 (fl (fun j => pw ((ar * 256 + pg) * 64 + j)) 64 bf) pw hs lo lg rt nb fi fo en 0 cu ma _) (cwV 0 hts gL_law_X1_thrown rfl rfl rfl (by decide +kernel) ⟨Nat.le_of_ble_eq_true rfl, Nat.le_of_ble_eq_true rfl⟩) (pV_B hP hD hK (ci := 1) (q0 := 7) rfl rfl rfl [0, 1] rfl [7, 8, 9, 10, 11, 12, 13] rfl rfl) rfl rfl hl.1 rfl (lv_room (Nat.le_of_ble_eq_true rfl)) dL_law_411 hc9) [7, 8, 9, 10, 11, 12, 13] [0, 1, 2, 3, 4, 5, 6, 14] rfl rfl rfl (by decide) (fun H locs hP hD hS => ?_)
        have hP : va_P D vwCl (wC h0 a0 a1 a2 a3 a4 a5 cI cZ (fl (fun j => pw ((ar * 256 + pg) * 64 + j)) 64 bf) pw hs lo lg rt nb (nI fi) (nI fo) (nI en) 1 cu ma ++ (wM g0 b0 b1 b2 b3 b4 b5 cI cZ 0 (fl (fun j => pw ((ar * 256 + pg) * 64 + j)) 64 bf) pw hs lo lg rt nb (nI fi) (nI fo) (nI en) 0 cu ma ++ wO oj cJ (vp_updL og 0 (Int32.toInt64 (sp_ps lo hs (ar * 256 + pg)))))) H := hP.sub [0, 1, 2, 3, 4, 5, 6, 8, 9, 10, 11, 12, 13, 14, 7] rfl
        have hD : va_D A (wC h0 a0 a1 a2 a3 a4 a5 cI cZ (fl (fun j => pw ((ar * 256 + pg) * 64 + j)) 64 bf) pw hs lo lg rt nb (nI fi) (nI fo) (nI en) 1 cu ma ++ (wM g0 b0 b1 b2 b3 b4 b5 cI cZ 0 (fl (fun j => pw ((ar * 256 + pg) * 64 + j)) 64 bf) pw hs lo lg rt nb (nI fi) (nI fo) (nI en) 0 cu ma ++ wO oj cJ (vp_updL og 0 (Int32.toInt64 (sp_ps lo hs (ar * 256 + pg)))))) := hD.sub [0, 1, 2, 3, 4, 5, 6, 8, 9, 10, 11, 12, 13, 14, 7] (by decide) rfl
        refine lv_iload hx hb dL_law_414 (lv_at hl 1 rfl) ?_
        refine lv_icmp_eq (tgt := 421) hx hb dL_law_416 (by decide) (fun c_416 => ?_) (fun c_416 => absurd (by decide) c_416)
        refine lv_iload hx hb dL_law_421 (lv_at hl 1 rfl) ?_
        refine lv_if_ne (tgt := 438) hx hb dL_law_423 (by decide) (fun c_423 => absurd (by decide) c_423) (fun c_423 => ?_)
        refine lv_aload_n hx hb dL_law_426 rfl (lv_at hl 5 rfl) ?_
        refine lv_iconst (v := (nI 0)) hx hb dL_law_427 (by decide) ?_
        refine n_lald hx hb hK hP 14 2 rfl rfl 0 (by omega) (by omega) dL_law_428 ?_
        refine lv_iload hx hb dL_law_429 (lv_at hl 0 rfl) ?_
        refine lv_i2l (v := Int32.toInt64 (sp_ps lo hs (ar * 256 + pg))) hx hb dL_law_431 rfl ?_
        refine W.lcmp hx hb dL_law_432 ?_
        refine lv_if_eq (tgt := 438) hx hb dL_law_433 (by decide) (fun c_433 => ?_) (fun c_433 => absurd (by rw [pk_uLs]; exact lg_self _) c_433)
        refine lv_goto (tgt := 1176) hx hb dL_law_438 (by decide) ?_
        refine W.widen (k := 15 + (j9 + 1)) (n := 199844 + 6 * (j9 + 1)) (by omega) (by omega) ?_
        refine lv_iinc (v := nI (4 * (j9 + 1))) (lv' := [(4, .int (nI (4 * (j9 + 1)))), (6, .int (sp_ps lo hs (ar * 256 + pg))), (5, .int 0), (0, .ref b), (1, .ref h0), (2, .ref g0), (3, .ref oj)]) hx hb dL_law_1176 hl (k := 6) rfl (nI_add (4 * j9) 4) (by decide) rfl (fun ls hl => ?_)
        refine lv_goto (tgt := 23) hx hb dL_law_1179 (by decide) ?_
        exact IH (fl (fun j => pw ((ar * 256 + pg) * 64 + j)) 64 bf) pw hs lo lg rt nb fi fo en 1 0 cu ma 0 (vp_updL og 0 (Int32.toInt64 (sp_ps lo hs (ar * 256 + pg)))) _ _ _ (Or.inr ⟨rfl, rfl⟩) (by omega) (by omega) (by omega) hcu hP hD hS (lv_sub hl [3, 4, 5, 6, 0] rfl)
      · have hP : va_P D vwCl (wC h0 a0 a1 a2 a3 a4 a5 cI cZ bf pw hs lo lg rt nb (nI fi) (nI fo) (nI en) 1 cu ma ++ (wM g0 b0 b1 b2 b3 b4 b5 cI cZ th bf pw hs lo lg rt nb (nI fi) (nI fo) (nI en) 0 cu ma ++ wO oj cJ og)) H := hP
        have hD : va_D A (wC h0 a0 a1 a2 a3 a4 a5 cI cZ bf pw hs lo lg rt nb (nI fi) (nI fo) (nI en) 1 cu ma ++ (wM g0 b0 b1 b2 b3 b4 b5 cI cZ th bf pw hs lo lg rt nb (nI fi) (nI fo) (nI en) 0 cu ma ++ wO oj cJ og)) := hD
        refine lv_aload_n hx hb dL_law_373 rfl (lv_at hl 1 rfl) ?_
        refine lv_aload_n hx hb dL_law_374 rfl (lv_at hl 0 rfl) ?_
        refine lv_iload hx hb dL_law_375 (lv_at hl 4 rfl) ?_
        refine lv_iconst (v := (nI 1)) hx hb dL_law_377 (by decide) ?_
        refine n_iadd hx hb dL_law_378 ?_
        refine n_sld hx hb hX hbl hbA hS (4 * j9 + 1) (by omega) (by omega) ((nI ar)) ex dL_law_379 ?_
        refine lv_aload_n hx hb dL_law_380 rfl (lv_at hl 0 rfl) ?_
        refine lv_iload hx hb dL_law_381 (lv_at hl 4 rfl) ?_
        refine lv_iconst (v := (nI 2)) hx hb dL_law_383 (by decide) ?_
        refine n_iadd hx hb dL_law_384 ?_
        refine n_sld hx hb hX hbl hbA hS (4 * j9 + 2) (by omega) (by omega) ((nI pg)) ey dL_law_385 ?_
        refine lv_aload_n hx hb dL_law_386 rfl (lv_at hl 3 rfl) ?_
        refine k_I (wr := wM g0 b0 b1 b2 b3 b4 b5 cI cZ th bf pw hs lo lg rt nb (nI fi) (nI fo) (nI en) 0 cu ma) hP hD hS hA (vx_runSW (As := [.ref h0, .int (nI ar), .int (nI pg), .ref oj]) (rest := []) ⟨hx, hb, hml, hown, hts⟩ (tL_read_okl hl0 bf pw hs lo lg rt nb fi fo en cu ma ar pg h1 h2 h oj og _) (vx_cwSW 4 hts gL_law_L_read rfl rfl rfl (by decide +kernel) ⟨Nat.le_of_ble_eq_true rfl, Nat.le_of_ble_eq_true rfl⟩) (pS_X hP hD hK hS hA hT [0, 1, 2] rfl [0, 1, 2, 3, 4, 5, 6, 14] rfl rfl) rfl rfl hl.1 rfl (lv_room (Nat.le_of_ble_eq_true rfl)) dL_law_387 hc1) [0, 1, 2, 3, 4, 5, 6, 14] [7, 8, 9, 10, 11, 12, 13] rfl rfl rfl (by decide) (fun H locs hP hD hS => ?_)
        have hP : va_P D vwCl (wC h0 a0 a1 a2 a3 a4 a5 cI cZ (zf bf) pw hs lo lg rt nb (nI fi) (nI fo) (nI en) 1 cu ma ++ (wM g0 b0 b1 b2 b3 b4 b5 cI cZ th bf pw hs lo lg rt nb (nI fi) (nI fo) (nI en) 0 cu ma ++ wO oj cJ (vp_updL og 0 (Int32.toInt64 (sp_ps lo hs (ar * 256 + pg)))))) H := hP.sub [7, 8, 9, 10, 11, 12, 13, 0, 1, 2, 3, 4, 5, 6, 14] rfl
        have hD : va_D A (wC h0 a0 a1 a2 a3 a4 a5 cI cZ (zf bf) pw hs lo lg rt nb (nI fi) (nI fo) (nI en) 1 cu ma ++ (wM g0 b0 b1 b2 b3 b4 b5 cI cZ th bf pw hs lo lg rt nb (nI fi) (nI fo) (nI en) 0 cu ma ++ wO oj cJ (vp_updL og 0 (Int32.toInt64 (sp_ps lo hs (ar * 256 + pg)))))) := hD.sub [7, 8, 9, 10, 11, 12, 13, 0, 1, 2, 3, 4, 5, 6, 14] (by decide) rfl
        refine lv_istore (lv' := [(5, .int 0), (0, .ref b), (1, .ref h0), (2, .ref g0), (3, .ref oj), (4, .int (nI (4 * j9)))]) hx hb dL_law_390 hl (by decide) rfl (fun ls hl => ?_)
        refine lv_aload_n hx hb dL_law_392 rfl (lv_at hl 3 rfl) ?_
        refine lv_aload_n hx hb dL_law_393 rfl (lv_at hl 1 rfl) ?_
        refine lv_iload hx hb dL_law_394 (lv_at hl 5 rfl) ?_
        refine lv_iconst (v := (nI 1)) hx hb dL_law_396 (by decide) ?_
        refine n_iadd hx hb dL_law_397 ?_
        refine n_sld hx hb hX hbl hbA hS (4 * j9 + 1) (by omega) (by omega) ((nI ar)) ex dL_law_398 ?_
        refine lv_aload_n hx hb dL_law_399 rfl (lv_at hl 1 rfl) ?_
        refine lv_iload hx hb dL_law_400 (lv_at hl 5 rfl) ?_
        refine lv_iconst (v := (nI 2)) hx hb dL_law_402 (by decide) ?_
        refine n_iadd hx hb dL_law_403 ?_
        refine n_sld hx hb hX hbl hbA hS (4 * j9 + 2) (by omega) (by omega) ((nI pg)) ey dL_law_404 ?_
        refine k_I (wr := wC h0 a0 a1 a2 a3 a4 a5 cI cZ (zf bf) pw hs lo lg rt nb (nI fi) (nI fo) (nI en) 1 cu ma ++ wO oj cJ (vp_updL og 0 (Int32.toInt64 (sp_ps lo hs (ar * 256 + pg))))) hP hD hS hA (va_runV (As := [.int (nI ar), .int (nI pg)]) (rest := []) ⟨hx, hb, hml, hown, hts⟩ (tX1_read_okl th bf pw hs lo lg rt nb fi fo en cu ma ar pg h1 h2 h _) (cwV 2 hts gL_law_X1_read rfl rfl rfl (by decide +kernel) ⟨Nat.le_of_ble_eq_true rfl, Nat.le_of_ble_eq_true rfl⟩) (pV_B hP hD hK (ci := 1) (q0 := 7) rfl rfl rfl [0, 1] rfl [7, 8, 9, 10, 11, 12, 13] rfl rfl) rfl rfl hl.1 rfl (lv_room (Nat.le_of_ble_eq_true rfl)) dL_law_405 hc9) [7, 8, 9, 10, 11, 12, 13] [0, 1, 2, 3, 4, 5, 6, 14] rfl rfl rfl (by decide) (fun H locs hP hD hS => ?_)
        have hP : va_P D vwCl (wC h0 a0 a1 a2 a3 a4 a5 cI cZ (zf bf) pw hs lo lg rt nb (nI fi) (nI fo) (nI en) 1 cu ma ++ (wM g0 b0 b1 b2 b3 b4 b5 cI cZ 0 (zf bf) pw hs lo lg rt nb (nI fi) (nI fo) (nI en) 0 cu ma ++ wO oj cJ (vp_updL og 0 (Int32.toInt64 (sp_ps lo hs (ar * 256 + pg)))))) H := hP.sub [0, 1, 2, 3, 4, 5, 6, 8, 9, 10, 11, 12, 13, 14, 7] rfl
        have hD : va_D A (wC h0 a0 a1 a2 a3 a4 a5 cI cZ (zf bf) pw hs lo lg rt nb (nI fi) (nI fo) (nI en) 1 cu ma ++ (wM g0 b0 b1 b2 b3 b4 b5 cI cZ 0 (zf bf) pw hs lo lg rt nb (nI fi) (nI fo) (nI en) 0 cu ma ++ wO oj cJ (vp_updL og 0 (Int32.toInt64 (sp_ps lo hs (ar * 256 + pg)))))) := hD.sub [0, 1, 2, 3, 4, 5, 6, 8, 9, 10, 11, 12, 13, 14, 7] (by decide) rfl
        refine lv_istore (lv' := [(6, .int (sp_ps lo hs (ar * 256 + pg))), (5, .int 0), (0, .ref b), (1, .ref h0), (2, .ref g0), (3, .ref oj), (4, .int (nI (4 * j9)))]) hx hb dL_law_408 hl (by decide) rfl (fun ls hl => ?_)
        refine lv_aload_n hx hb dL_law_410 rfl (lv_at hl 4 rfl) ?_
        refine k_I (wr := wC h0 a0 a1 a2 a3 a4 a5 cI cZ (zf bf) pw hs lo lg rt nb (nI fi) (nI fo) (nI en) 1 cu ma ++ wO oj cJ (vp_updL og 0 (Int32.toInt64 (sp_ps lo hs (ar * 256 + pg))))) hP hD hS hA (va_runV (As := []) (rest := []) ⟨hx, hb, hml, hown, hts⟩ (tX1_thrown 0 (zf bf) pw hs lo lg rt nb fi fo en 0 cu ma _) (cwV 0 hts gL_law_X1_thrown rfl rfl rfl (by decide +kernel) ⟨Nat.le_of_ble_eq_true rfl, Nat.le_of_ble_eq_true rfl⟩) (pV_B hP hD hK (ci := 1) (q0 := 7) rfl rfl rfl [0, 1] rfl [7, 8, 9, 10, 11, 12, 13] rfl rfl) rfl rfl hl.1 rfl (lv_room (Nat.le_of_ble_eq_true rfl)) dL_law_411 hc9) [7, 8, 9, 10, 11, 12, 13] [0, 1, 2, 3, 4, 5, 6, 14] rfl rfl rfl (by decide) (fun H locs hP hD hS => ?_)
        have hP : va_P D vwCl (wC h0 a0 a1 a2 a3 a4 a5 cI cZ (zf bf) pw hs lo lg rt nb (nI fi) (nI fo) (nI en) 1 cu ma ++ (wM g0 b0 b1 b2 b3 b4 b5 cI cZ 0 (zf bf) pw hs lo lg rt nb (nI fi) (nI fo) (nI en) 0 cu ma ++ wO oj cJ (vp_updL og 0 (Int32.toInt64 (sp_ps lo hs (ar * 256 + pg)))))) H := hP.sub [0, 1, 2, 3, 4, 5, 6, 8, 9, 10, 11, 12, 13, 14, 7] rfl
        have hD : va_D A (wC h0 a0 a1 a2 a3 a4 a5 cI cZ (zf bf) pw hs lo lg rt nb (nI fi) (nI fo) (nI en) 1 cu ma ++ (wM g0 b0 b1 b2 b3 b4 b5 cI cZ 0 (zf bf) pw hs lo lg rt nb (nI fi) (nI fo) (nI en) 0 cu ma ++ wO oj cJ (vp_updL og 0 (Int32.toInt64 (sp_ps lo hs (ar * 256 + pg)))))) := hD.sub [0, 1, 2, 3, 4, 5, 6, 8, 9, 10, 11, 12, 13, 14, 7] (by decide) rfl
        refine lv_iload hx hb dL_law_414 (lv_at hl 1 rfl) ?_
        refine lv_icmp_eq (tgt := 421) hx hb dL_law_416 (by decide) (fun c_416 => ?_) (fun c_416 => absurd (by decide) c_416)
        refine lv_iload hx hb dL_law_421 (lv_at hl 1 rfl) ?_
        refine lv_if_ne (tgt := 438) hx hb dL_law_423 (by decide) (fun c_423 => absurd (by decide) c_423) (fun c_423 => ?_)
        refine lv_aload_n hx hb dL_law_426 rfl (lv_at hl 5 rfl) ?_
        refine lv_iconst (v := (nI 0)) hx hb dL_law_427 (by decide) ?_
        refine n_lald hx hb hK hP 14 2 rfl rfl 0 (by omega) (by omega) dL_law_428 ?_
        refine lv_iload hx hb dL_law_429 (lv_at hl 0 rfl) ?_
        refine lv_i2l (v := Int32.toInt64 (sp_ps lo hs (ar * 256 + pg))) hx hb dL_law_431 rfl ?_
        refine W.lcmp hx hb dL_law_432 ?_
        refine lv_if_eq (tgt := 438) hx hb dL_law_433 (by decide) (fun c_433 => ?_) (fun c_433 => absurd (by rw [pk_uLs]; exact lg_self _) c_433)
        refine lv_goto (tgt := 1176) hx hb dL_law_438 (by decide) ?_
        refine W.widen (k := 15 + (j9 + 1)) (n := 199844 + 6 * (j9 + 1)) (by omega) (by omega) ?_
        refine lv_iinc (v := nI (4 * (j9 + 1))) (lv' := [(4, .int (nI (4 * (j9 + 1)))), (6, .int (sp_ps lo hs (ar * 256 + pg))), (5, .int 0), (0, .ref b), (1, .ref h0), (2, .ref g0), (3, .ref oj)]) hx hb dL_law_1176 hl (k := 6) rfl (nI_add (4 * j9) 4) (by decide) rfl (fun ls hl => ?_)
        refine lv_goto (tgt := 23) hx hb dL_law_1179 (by decide) ?_
        exact IH (zf bf) pw hs lo lg rt nb fi fo en 1 0 cu ma 0 (vp_updL og 0 (Int32.toInt64 (sp_ps lo hs (ar * 256 + pg)))) _ _ _ (Or.inr ⟨rfl, rfl⟩) (by omega) (by omega) (by omega) hcu hP hD hS (lv_sub hl [3, 4, 5, 6, 0] rfl)
