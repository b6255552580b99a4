/-! OWN ROWS, by program: the reference, its face, the pages -/
set_option maxHeartbeats 4000000 in
set_option maxRecDepth 100000 in
theorem tX1_set_x0 {l : Launch} {D : va_G} {cI cZ : ClassId} {h0 a0 a1 a2 a3 a4 a5 : Nat} (th : Int32) (bf pw hs lo lg rt : Nat → Int32) (nb : Int32) (fi fo en : Nat) (cu ma : Int32) (x y : Int32) : RV l yX1_set wsX1_set 8 0 0 D (tyC cI cZ) (wM h0 a0 a1 a2 a3 a4 a5 cI cZ th bf pw hs lo lg rt nb (nI fi) (nI fo) (nI en) 1 cu ma) [.ref h0, .int x, .int y] (wM h0 a0 a1 a2 a3 a4 a5 cI cZ 1 bf pw hs lo lg rt nb (nI fi) (nI fo) (nI en) 1 cu ma) := by
  refine st_V (cc := cX1_set) (maxL := 3) (ret := none) (by decide +kernel) rfl (Nat.le_of_ble_eq_true rfl) ?_
  intro p e s m below meth c A hx hb hr hts hown hml hlocks hK hP hD hA hS ls hl
  have hown : s.vm.findClass RX1 = some m.cls := hown
  have hl : lv_has ls 3 [(0, .ref h0), (1, .int x), (2, .int y)] := hl
  refine lv_aload_n hx hb dX1_set_0 rfl (lv_at hl 0 rfl) ?_
  refine lv_aload_n hx hb dX1_set_1 rfl (lv_at hl 0 rfl) ?_
  refine va_get (ci := 1) (v := .int 1) (C := RX1) (T := TX1) (N := 14) hx hb hts inX1_set hown hK hP 0 rfl rfl 12 (by decide) (hts _ flX1_set_45) (fun _ h9 => h9) rfl dX1_set_2 ?_
  refine lv_iload_n hx hb dX1_set_5 rfl (lv_at hl 1 rfl) ?_
  refine lv_iconst (v := (nI 0)) hx hb dX1_set_6 (by decide) ?_
  refine lv_bipush (v := (nI 63)) hx hb dX1_set_7 (by decide) ?_
  refine k_I (wr := wM h0 a0 a1 a2 a3 a4 a5 cI cZ th bf pw hs lo lg rt nb (nI fi) (nI fo) (nI en) 1 cu ma) hP hD hS hA (va_runS (As := [.int x, .int (nI 0), .int (nI 63)]) (rest := [.int 1, .ref h0]) ⟨hx, hb, hml, hown, hts⟩ ((tX1_in_e x (nI 0) (nI 63) (sp_in x (nI 0) (nI 63)) rfl) _) (va_cwS 3 hts gX1_set_X1_in rfl rfl rfl (by decide +kernel) ⟨Nat.le_of_ble_eq_true rfl, Nat.le_of_ble_eq_true rfl⟩) (pS_B hP hD hK [] rfl [] rfl rfl) rfl rfl hl.1 rfl (lv_room (Nat.le_of_ble_eq_true rfl)) dX1_set_9 ⟨Nat.le_of_ble_eq_true rfl, Nat.le_of_ble_eq_true rfl⟩) [] [0, 1, 2, 3, 4, 5, 6] rfl rfl rfl (by decide) (fun H locs hP hD hS => ?_)
  have hP : va_P D vwCl (wM h0 a0 a1 a2 a3 a4 a5 cI cZ th bf pw hs lo lg rt nb (nI fi) (nI fo) (nI en) 1 cu ma) H := hP
  have hD : va_D A (wM h0 a0 a1 a2 a3 a4 a5 cI cZ th bf pw hs lo lg rt nb (nI fi) (nI fo) (nI en) 1 cu ma) := hD
  refine lv_if_ne (tgt := 19) hx hb dX1_set_12 (by decide) (fun c_12 => ?_) (fun c_12 => ?_)
  · refine lv_iconst (v := (0)) hx hb dX1_set_19 (by decide) ?_
    refine k_I (wr := []) hP hD hS hA (va_runV (As := [.int 1, .int 0]) (rest := []) ⟨hx, hb, hml, hown, hts⟩ ((tX1_refused_1 th bf pw hs lo lg rt nb fi fo en 1 cu ma 0) _) (cwV 2 hts gX1_set_X1_refused rfl rfl rfl (by decide +kernel) ⟨Nat.le_of_ble_eq_true rfl, Nat.le_of_ble_eq_true rfl⟩) (pV_B hP hD hK (ci := 1) (q0 := 0) rfl rfl rfl [0, 1] rfl [0, 1, 2, 3, 4, 5, 6] rfl rfl) rfl rfl hl.1 rfl (lv_room (Nat.le_of_ble_eq_true rfl)) dX1_set_20 ⟨Nat.le_of_ble_eq_true rfl, Nat.le_of_ble_eq_true rfl⟩) [0, 1, 2, 3, 4, 5, 6] [] rfl rfl rfl (by decide) (fun H locs hP hD hS => ?_)
    have hP : va_P D vwCl (wM h0 a0 a1 a2 a3 a4 a5 cI cZ 1 bf pw hs lo lg rt nb (nI fi) (nI fo) (nI en) 1 cu ma) H := hP
    have hD : va_D A (wM h0 a0 a1 a2 a3 a4 a5 cI cZ 1 bf pw hs lo lg rt nb (nI fi) (nI fo) (nI en) 1 cu ma) := hD
    refine lv_if_ne (tgt := 33) hx hb dX1_set_23 (by decide) (fun c_23 => ?_) (fun c_23 => absurd c_23 (by decide))
    exact e_V hx hb hr hlocks hP hD hS dX1_set_33
  · refine lv_iconst (v := (1)) hx hb dX1_set_15 (by decide) ?_
    refine lv_goto (tgt := 20) hx hb dX1_set_16 (by decide) ?_
    refine k_I (wr := []) hP hD hS hA (va_runV (As := [.int 1, .int 1]) (rest := []) ⟨hx, hb, hml, hown, hts⟩ ((tX1_refused_1 th bf pw hs lo lg rt nb fi fo en 1 cu ma 1) _) (cwV 2 hts gX1_set_X1_refused rfl rfl rfl (by decide +kernel) ⟨Nat.le_of_ble_eq_true rfl, Nat.le_of_ble_eq_true rfl⟩) (pV_B hP hD hK (ci := 1) (q0 := 0) rfl rfl rfl [0, 1] rfl [0, 1, 2, 3, 4, 5, 6] rfl rfl) rfl rfl hl.1 rfl (lv_room (Nat.le_of_ble_eq_true rfl)) dX1_set_20 ⟨Nat.le_of_ble_eq_true rfl, Nat.le_of_ble_eq_true rfl⟩) [0, 1, 2, 3, 4, 5, 6] [] rfl rfl rfl (by decide) (fun H locs hP hD hS => ?_)
    have hP : va_P D vwCl (wM h0 a0 a1 a2 a3 a4 a5 cI cZ 1 bf pw hs lo lg rt nb (nI fi) (nI fo) (nI en) 1 cu ma) H := hP
    have hD : va_D A (wM h0 a0 a1 a2 a3 a4 a5 cI cZ 1 bf pw hs lo lg rt nb (nI fi) (nI fo) (nI en) 1 cu ma) := hD
    refine lv_if_ne (tgt := 33) hx hb dX1_set_23 (by decide) (fun c_23 => ?_) (fun c_23 => absurd c_23 (by decide))
    exact e_V hx hb hr hlocks hP hD hS dX1_set_33
set_option maxHeartbeats 4000000 in
set_option maxRecDepth 100000 in
theorem tX1_set_xb {l : Launch} {D : va_G} {cI cZ : ClassId} {h0 a0 a1 a2 a3 a4 a5 : Nat} (th : Int32) (bf pw hs lo lg rt : Nat → Int32) (nb : Int32) (fi fo en : Nat) (cu ma : Int32) (x y : Int32) (h : x < 0 ∨ nI 64 ≤ x) : RV l yX1_set wsX1_set 8 0 0 D (tyC cI cZ) (wM h0 a0 a1 a2 a3 a4 a5 cI cZ th bf pw hs lo lg rt nb (nI fi) (nI fo) (nI en) 0 cu ma) [.ref h0, .int x, .int y] (wM h0 a0 a1 a2 a3 a4 a5 cI cZ 2 bf pw hs lo lg rt nb (nI fi) (nI fo) (nI en) 0 cu ma) := by
  refine st_V (cc := cX1_set) (maxL := 3) (ret := none) (by decide +kernel) rfl (Nat.le_of_ble_eq_true rfl) ?_
  intro p e s m below meth c A hx hb hr hts hown hml hlocks hK hP hD hA hS ls hl
  have hown : s.vm.findClass RX1 = some m.cls := hown
  have hl : lv_has ls 3 [(0, .ref h0), (1, .int x), (2, .int y)] := hl
  refine lv_aload_n hx hb dX1_set_0 rfl (lv_at hl 0 rfl) ?_
  refine lv_aload_n hx hb dX1_set_1 rfl (lv_at hl 0 rfl) ?_
  refine va_get (ci := 1) (v := .int 0) (C := RX1) (T := TX1) (N := 14) hx hb hts inX1_set hown hK hP 0 rfl rfl 12 (by decide) (hts _ flX1_set_45) (fun _ h9 => h9) rfl dX1_set_2 ?_
  refine lv_iload_n hx hb dX1_set_5 rfl (lv_at hl 1 rfl) ?_
  refine lv_iconst (v := (nI 0)) hx hb dX1_set_6 (by decide) ?_
  refine lv_bipush (v := (nI 63)) hx hb dX1_set_7 (by decide) ?_
  refine k_I (wr := wM h0 a0 a1 a2 a3 a4 a5 cI cZ th bf pw hs lo lg rt nb (nI fi) (nI fo) (nI en) 0 cu ma) hP hD hS hA (va_runS (As := [.int x, .int (nI 0), .int (nI 63)]) (rest := [.int 0, .ref h0]) ⟨hx, hb, hml, hown, hts⟩ ((tX1_in_e x (nI 0) (nI 63) 0 (sp_in_f (ix_in 63 (by omega) h))) _) (va_cwS 3 hts gX1_set_X1_in rfl rfl rfl (by decide +kernel) ⟨Nat.le_of_ble_eq_true rfl, Nat.le_of_ble_eq_true rfl⟩) (pS_B hP hD hK [] rfl [] rfl rfl) rfl rfl hl.1 rfl (lv_room (Nat.le_of_ble_eq_true rfl)) dX1_set_9 ⟨Nat.le_of_ble_eq_true rfl, Nat.le_of_ble_eq_true rfl⟩) [] [0, 1, 2, 3, 4, 5, 6] rfl rfl rfl (by decide) (fun H locs hP hD hS => ?_)
  have hP : va_P D vwCl (wM h0 a0 a1 a2 a3 a4 a5 cI cZ th bf pw hs lo lg rt nb (nI fi) (nI fo) (nI en) 0 cu ma) H := hP
  have hD : va_D A (wM h0 a0 a1 a2 a3 a4 a5 cI cZ th bf pw hs lo lg rt nb (nI fi) (nI fo) (nI en) 0 cu ma) := hD
  refine lv_if_ne (tgt := 19) hx hb dX1_set_12 (by decide) (fun c_12 => absurd (by decide) c_12) (fun c_12 => ?_)
  refine lv_iconst (v := (1)) hx hb dX1_set_15 (by decide) ?_
  refine lv_goto (tgt := 20) hx hb dX1_set_16 (by decide) ?_
  refine k_I (wr := []) hP hD hS hA (va_runV (As := [.int 0, .int 1]) (rest := []) ⟨hx, hb, hml, hown, hts⟩ ((tX1_refused_2 th bf pw hs lo lg rt nb fi fo en 0 cu ma) _) (cwV 2 hts gX1_set_X1_refused rfl rfl rfl (by decide +kernel) ⟨Nat.le_of_ble_eq_true rfl, Nat.le_of_ble_eq_true rfl⟩) (pV_B hP hD hK (ci := 1) (q0 := 0) rfl rfl rfl [0, 1] rfl [0, 1, 2, 3, 4, 5, 6] rfl rfl) rfl rfl hl.1 rfl (lv_room (Nat.le_of_ble_eq_true rfl)) dX1_set_20 ⟨Nat.le_of_ble_eq_true rfl, Nat.le_of_ble_eq_true rfl⟩) [0, 1, 2, 3, 4, 5, 6] [] rfl rfl rfl (by decide) (fun H locs hP hD hS => ?_)
  have hP : va_P D vwCl (wM h0 a0 a1 a2 a3 a4 a5 cI cZ 2 bf pw hs lo lg rt nb (nI fi) (nI fo) (nI en) 0 cu ma) H := hP
  have hD : va_D A (wM h0 a0 a1 a2 a3 a4 a5 cI cZ 2 bf pw hs lo lg rt nb (nI fi) (nI fo) (nI en) 0 cu ma) := hD
  refine lv_if_ne (tgt := 33) hx hb dX1_set_23 (by decide) (fun c_23 => ?_) (fun c_23 => absurd c_23 (by decide))
  exact e_V hx hb hr hlocks hP hD hS dX1_set_33
set_option maxHeartbeats 4000000 in
set_option maxRecDepth 100000 in
theorem tX1_set_ok {l : Launch} {D : va_G} {cI cZ : ClassId} {h0 a0 a1 a2 a3 a4 a5 : Nat} (th : Int32) (bf pw hs lo lg rt : Nat → Int32) (nb : Int32) (fi fo en : Nat) (cu ma : Int32) (k : Nat) (hk : k < 64) (y : Int32) : RV l yX1_set wsX1_set 8 0 0 D (tyC cI cZ) (wM h0 a0 a1 a2 a3 a4 a5 cI cZ th bf pw hs lo lg rt nb (nI fi) (nI fo) (nI en) 0 cu ma) [.ref h0, .int (nI k), .int y] (wM h0 a0 a1 a2 a3 a4 a5 cI cZ 0 (upd bf k y) pw hs lo lg rt nb (nI fi) (nI fo) (nI en) 0 cu ma) := by
  refine st_V (cc := cX1_set) (maxL := 3) (ret := none) (by decide +kernel) rfl (Nat.le_of_ble_eq_true rfl) ?_
  intro p e s m below meth c A hx hb hr hts hown hml hlocks hK hP hD hA hS ls hl
  have hown : s.vm.findClass RX1 = some m.cls := hown
  have hl : lv_has ls 3 [(0, .ref h0), (1, .int (nI k)), (2, .int y)] := hl
  refine lv_aload_n hx hb dX1_set_0 rfl (lv_at hl 0 rfl) ?_
  refine lv_aload_n hx hb dX1_set_1 rfl (lv_at hl 0 rfl) ?_
  refine va_get (ci := 1) (v := .int 0) (C := RX1) (T := TX1) (N := 14) hx hb hts inX1_set hown hK hP 0 rfl rfl 12 (by decide) (hts _ flX1_set_45) (fun _ h9 => h9) rfl dX1_set_2 ?_
  refine lv_iload_n hx hb dX1_set_5 rfl (lv_at hl 1 rfl) ?_
  refine lv_iconst (v := (nI 0)) hx hb dX1_set_6 (by decide) ?_
  refine lv_bipush (v := (nI 63)) hx hb dX1_set_7 (by decide) ?_
  refine k_I (wr := wM h0 a0 a1 a2 a3 a4 a5 cI cZ th bf pw hs lo lg rt nb (nI fi) (nI fo) (nI en) 0 cu ma) hP hD hS hA (va_runS (As := [.int (nI k), .int (nI 0), .int (nI 63)]) (rest := [.int 0, .ref h0]) ⟨hx, hb, hml, hown, hts⟩ ((tX1_in_e (nI k) (nI 0) (nI 63) 1 (sp_in_t (by omega) (by omega) (by omega))) _) (va_cwS 3 hts gX1_set_X1_in rfl rfl rfl (by decide +kernel) ⟨Nat.le_of_ble_eq_true rfl, Nat.le_of_ble_eq_true rfl⟩) (pS_B hP hD hK [] rfl [] rfl rfl) rfl rfl hl.1 rfl (lv_room (Nat.le_of_ble_eq_true rfl)) dX1_set_9 ⟨Nat.le_of_ble_eq_true rfl, Nat.le_of_ble_eq_true rfl⟩) [] [0, 1, 2, 3, 4, 5, 6] rfl rfl rfl (by decide) (fun H locs hP hD hS => ?_)
  have hP : va_P D vwCl (wM h0 a0 a1 a2 a3 a4 a5 cI cZ th bf pw hs lo lg rt nb (nI fi) (nI fo) (nI en) 0 cu ma) H := hP
  have hD : va_D A (wM h0 a0 a1 a2 a3 a4 a5 cI cZ th bf pw hs lo lg rt nb (nI fi) (nI fo) (nI en) 0 cu ma) := hD
  refine lv_if_ne (tgt := 19) hx hb dX1_set_12 (by decide) (fun c_12 => ?_) (fun c_12 => absurd c_12 (by decide))
  refine lv_iconst (v := (0)) hx hb dX1_set_19 (by decide) ?_
  refine k_I (wr := []) hP hD hS hA (va_runV (As := [.int 0, .int 0]) (rest := []) ⟨hx, hb, hml, hown, hts⟩ ((tX1_refused_0 th bf pw hs lo lg rt nb fi fo en 0 cu ma) _) (cwV 2 hts gX1_set_X1_refused rfl rfl rfl (by decide +kernel) ⟨Nat.le_of_ble_eq_true rfl, Nat.le_of_ble_eq_true rfl⟩) (pV_B hP hD hK (ci := 1) (q0 := 0) rfl rfl rfl [0, 1] rfl [0, 1, 2, 3, 4, 5, 6] rfl rfl) rfl rfl hl.1 rfl (lv_room (Nat.le_of_ble_eq_true rfl)) dX1_set_20 ⟨Nat.le_of_ble_eq_true rfl, Nat.le_of_ble_eq_true rfl⟩) [0, 1, 2, 3, 4, 5, 6] [] rfl rfl rfl (by decide) (fun H locs hP hD hS => ?_)
  have hP : va_P D vwCl (wM h0 a0 a1 a2 a3 a4 a5 cI cZ 0 bf pw hs lo lg rt nb (nI fi) (nI fo) (nI en) 0 cu ma) H := hP
  have hD : va_D A (wM h0 a0 a1 a2 a3 a4 a5 cI cZ 0 bf pw hs lo lg rt nb (nI fi) (nI fo) (nI en) 0 cu ma) := hD
  refine lv_if_ne (tgt := 33) hx hb dX1_set_23 (by decide) (fun c_23 => absurd (by decide) c_23) (fun c_23 => ?_)
  refine lv_aload_n hx hb dX1_set_26 rfl (lv_at hl 0 rfl) ?_
  refine va_get (ci := 1) (v := .ref a0) (C := RX1) (T := TX1) (N := 14) hx hb hts inX1_set hown hK hP 0 rfl rfl 6 (by decide) (hts _ flX1_set_28) (fun _ h9 => h9) rfl dX1_set_27 ?_
  refine lv_iload_n hx hb dX1_set_30 rfl (lv_at hl 1 rfl) ?_
  refine lv_iload_n hx hb dX1_set_31 rfl (lv_at hl 2 rfl) ?_
  refine n_iast hx hb hK hP hD hS 1 0 rfl rfl k (by omega) (by omega) dX1_set_32 (fun H locs hP hD hS => ?_)
  have hP : va_P D vwCl (wM h0 a0 a1 a2 a3 a4 a5 cI cZ 0 (upd bf k y) pw hs lo lg rt nb (nI fi) (nI fo) (nI en) 0 cu ma) H := hP
  have hD : va_D A (wM h0 a0 a1 a2 a3 a4 a5 cI cZ 0 (upd bf k y) pw hs lo lg rt nb (nI fi) (nI fo) (nI en) 0 cu ma) := hD
  exact e_V hx hb hr hlocks hP hD hS dX1_set_33
set_option maxHeartbeats 4000000 in
set_option maxRecDepth 100000 in
theorem tX1_fill_x0 {l : Launch} {D : va_G} {cI cZ : ClassId} {h0 a0 a1 a2 a3 a4 a5 : Nat} (th : Int32) (bf pw hs lo lg rt : Nat → Int32) (nb : Int32) (fi fo en : Nat) (cu ma : Int32) (x y : Int32) : RV l yX1_fill wsX1_fill 8 0 0 D (tyC cI cZ) (wM h0 a0 a1 a2 a3 a4 a5 cI cZ th bf pw hs lo lg rt nb (nI fi) (nI fo) (nI en) 1 cu ma) [.ref h0, .int x, .int y] (wM h0 a0 a1 a2 a3 a4 a5 cI cZ 1 bf pw hs lo lg rt nb (nI fi) (nI fo) (nI en) 1 cu ma) := by
  refine st_V (cc := cX1_fill) (maxL := 4) (ret := none) (by decide +kernel) rfl (Nat.le_of_ble_eq_true rfl) ?_
  intro p e s m below meth c A hx hb hr hts hown hml hlocks hK hP hD hA hS ls hl
  have hown : s.vm.findClass RX1 = some m.cls := hown
  have hl : lv_has ls 4 [(0, .ref h0), (1, .int x), (2, .int y)] := hl
  refine lv_aload_n hx hb dX1_fill_0 rfl (lv_at hl 0 rfl) ?_
  refine lv_aload_n hx hb dX1_fill_1 rfl (lv_at hl 0 rfl) ?_
  refine va_get (ci := 1) (v := .int 1) (C := RX1) (T := TX1) (N := 14) hx hb hts inX1_fill hown hK hP 0 rfl rfl 12 (by decide) (hts _ flX1_fill_45) (fun _ h9 => h9) rfl dX1_fill_2 ?_
  refine lv_iconst (v := (0)) hx hb dX1_fill_5 (by decide) ?_
  refine k_I (wr := []) hP hD hS hA (va_runV (As := [.int 1, .int 0]) (rest := []) ⟨hx, hb, hml, hown, hts⟩ ((tX1_refused_1 th bf pw hs lo lg rt nb fi fo en 1 cu ma 0) _) (cwV 2 hts gX1_fill_X1_refused rfl rfl rfl (by decide +kernel) ⟨Nat.le_of_ble_eq_true rfl, Nat.le_of_ble_eq_true rfl⟩) (pV_B hP hD hK (ci := 1) (q0 := 0) rfl rfl rfl [0, 1] rfl [0, 1, 2, 3, 4, 5, 6] rfl rfl) rfl rfl hl.1 rfl (lv_room (Nat.le_of_ble_eq_true rfl)) dX1_fill_6 ⟨Nat.le_of_ble_eq_true rfl, Nat.le_of_ble_eq_true rfl⟩) [0, 1, 2, 3, 4, 5, 6] [] rfl rfl rfl (by decide) (fun H locs hP hD hS => ?_)
  have hP : va_P D vwCl (wM h0 a0 a1 a2 a3 a4 a5 cI cZ 1 bf pw hs lo lg rt nb (nI fi) (nI fo) (nI en) 1 cu ma) H := hP
  have hD : va_D A (wM h0 a0 a1 a2 a3 a4 a5 cI cZ 1 bf pw hs lo lg rt nb (nI fi) (nI fo) (nI en) 1 cu ma) := hD
  refine lv_if_ne (tgt := 37) hx hb dX1_fill_9 (by decide) (fun c_9 => ?_) (fun c_9 => absurd c_9 (by decide))
  exact e_V hx hb hr hlocks hP hD hS dX1_fill_37
set_option maxHeartbeats 4000000 in
set_option maxRecDepth 100000 in
theorem tX1_fill_ok {l : Launch} {D : va_G} {cI cZ : ClassId} {h0 a0 a1 a2 a3 a4 a5 : Nat} (th : Int32) (bf pw hs lo lg rt : Nat → Int32) (nb : Int32) (fi fo en : Nat) (cu ma : Int32) (x y : Int32) : RV l yX1_fill wsX1_fill 8 0 0 D (tyC cI cZ) (wM h0 a0 a1 a2 a3 a4 a5 cI cZ th bf pw hs lo lg rt nb (nI fi) (nI fo) (nI en) 0 cu ma) [.ref h0, .int x, .int y] (wM h0 a0 a1 a2 a3 a4 a5 cI cZ 0 (fl (fun j => x + nI j * y) 64 bf) pw hs lo lg rt nb (nI fi) (nI fo) (nI en) 0 cu ma) := by
  refine st_V (cc := cX1_fill) (maxL := 4) (ret := none) (by decide +kernel) rfl (Nat.le_of_ble_eq_true rfl) ?_
  intro p e s m below meth c A hx hb hr hts hown hml hlocks hK hP hD hA hS ls hl
  have hown : s.vm.findClass RX1 = some m.cls := hown
  have hl : lv_has ls 4 [(0, .ref h0), (1, .int x), (2, .int y)] := hl
  refine lv_aload_n hx hb dX1_fill_0 rfl (lv_at hl 0 rfl) ?_
  refine lv_aload_n hx hb dX1_fill_1 rfl (lv_at hl 0 rfl) ?_
  refine va_get (ci := 1) (v := .int 0) (C := RX1) (T := TX1) (N := 14) hx hb hts inX1_fill hown hK hP 0 rfl rfl 12 (by decide) (hts _ flX1_fill_45) (fun _ h9 => h9) rfl dX1_fill_2 ?_
  refine lv_iconst (v := (0)) hx hb dX1_fill_5 (by decide) ?_
  refine k_I (wr := []) hP hD hS hA (va_runV (As := [.int 0, .int 0]) (rest := []) ⟨hx, hb, hml, hown, hts⟩ ((tX1_refused_0 th bf pw hs lo lg rt nb fi fo en 0 cu ma) _) (cwV 2 hts gX1_fill_X1_refused rfl rfl rfl (by decide +kernel) ⟨Nat.le_of_ble_eq_true rfl, Nat.le_of_ble_eq_true rfl⟩) (pV_B hP hD hK (ci := 1) (q0 := 0) rfl rfl rfl [0, 1] rfl [0, 1, 2, 3, 4, 5, 6] rfl rfl) rfl rfl hl.1 rfl (lv_room (Nat.le_of_ble_eq_true rfl)) dX1_fill_6 ⟨Nat.le_of_ble_eq_true rfl, Nat.le_of_ble_eq_true rfl⟩) [0, 1, 2, 3, 4, 5, 6] [] rfl rfl rfl (by decide) (fun H locs hP hD hS => ?_)
  have hP : va_P D vwCl (wM h0 a0 a1 a2 a3 a4 a5 cI cZ 0 bf pw hs lo lg rt nb (nI fi) (nI fo) (nI en) 0 cu ma) H := hP
  have hD : va_D A (wM h0 a0 a1 a2 a3 a4 a5 cI cZ 0 bf pw hs lo lg rt nb (nI fi) (nI fo) (nI en) 0 cu ma) := hD
  refine lv_if_ne (tgt := 37) hx hb dX1_fill_9 (by decide) (fun c_9 => absurd (by decide) c_9) (fun c_9 => ?_)
  refine lv_iconst (v := (nI 0)) hx hb dX1_fill_12 (by decide) ?_
  refine lv_istore_n (lv' := [(3, .int (nI 0)), (0, .ref h0), (1, .int x), (2, .int y)]) hx hb dX1_fill_13 rfl hl (by decide) rfl (fun ls hl => ?_)
  have lp_14 : ∀ (n9 i : Nat), i + n9 = 64 → ∀ (H : Heap) (locs : List Loc) (ls : Array Slot), va_P D vwCl (wM h0 a0 a1 a2 a3 a4 a5 cI cZ 0 (fl (fun j => x + nI j * y) i bf) pw hs lo lg rt nb (nI fi) (nI fo) (nI en) 0 cu ma) H → va_D A (wM h0 a0 a1 a2 a3 a4 a5 cI cZ 0 (fl (fun j => x + nI j * y) i bf) pw hs lo lg rt nb (nI fi) (nI fo) (nI en) 0 cu ma) → va_S A s.heap H locs → lv_has ls 4 [(0, .ref h0), (1, .int x), (2, .int y), (3, .int (nI i))] → W p l e (rmL 8 0 0) s m ([.ref h0, .int x, .int y] : List Value).toArray below meth c H locs 0 0 (MQ below (qcV D A (wM h0 a0 a1 a2 a3 a4 a5 cI cZ 0 (fl (fun j => x + nI j * y) 64 bf) pw hs lo lg rt nb (nI fi) (nI fo) (nI en) 0 cu ma)) ([.ref h0, .int x, .int y] : List Value).toArray s 0 0 A) (F0 m 14 ls []) := by
    intro n9
    induction n9 with
    | zero =>
      intro i hi H locs ls hP hD hS hl
      obtain rfl : i = 64 := by omega
      refine lv_iload_n hx hb dX1_fill_14 rfl (lv_at hl 3 rfl) ?_
      refine lv_bipush (v := (nI 64)) hx hb dX1_fill_15 (by decide) ?_
      refine n_ge (tgt := 37) hx hb (by omega) (by omega) dX1_fill_17 (by decide) (fun c_17 => ?_) (fun c_17 => absurd c_17 (by omega))
      exact e_V hx hb hr hlocks hP hD hS dX1_fill_37
    | succ n9 ih =>
      intro i hi H locs ls hP hD hS hl
      refine lv_iload_n hx hb dX1_fill_14 rfl (lv_at hl 3 rfl) ?_
      refine lv_bipush (v := (nI 64)) hx hb dX1_fill_15 (by decide) ?_
      refine n_ge (tgt := 37) hx hb (by omega) (by omega) dX1_fill_17 (by decide) (fun c_17 => absurd c_17 (by omega)) (fun c_17 => ?_)
      refine lv_aload_n hx hb dX1_fill_20 rfl (lv_at hl 0 rfl) ?_
      refine va_get (ci := 1) (v := .ref a0) (C := RX1) (T := TX1) (N := 14) hx hb hts inX1_fill hown hK hP 0 rfl rfl 6 (by decide) (hts _ flX1_fill_28) (fun _ h9 => h9) rfl dX1_fill_21 ?_
      refine lv_iload_n hx hb dX1_fill_24 rfl (lv_at hl 3 rfl) ?_
      refine lv_iload_n hx hb dX1_fill_25 rfl (lv_at hl 1 rfl) ?_
      refine lv_iload_n hx hb dX1_fill_26 rfl (lv_at hl 3 rfl) ?_
      refine lv_iload_n hx hb dX1_fill_27 rfl (lv_at hl 2 rfl) ?_
      refine lv_imul hx hb dX1_fill_28 ?_
      refine lv_iadd hx hb dX1_fill_29 ?_
      refine n_iast hx hb hK hP hD hS 1 0 rfl rfl i (by omega) (by omega) dX1_fill_30 (fun H locs hP hD hS => ?_)
      have hP : va_P D vwCl (wM h0 a0 a1 a2 a3 a4 a5 cI cZ 0 (upd (fl (fun j => x + nI j * y) i bf) i (x + ((nI i) * y))) pw hs lo lg rt nb (nI fi) (nI fo) (nI en) 0 cu ma) H := hP
      have hD : va_D A (wM h0 a0 a1 a2 a3 a4 a5 cI cZ 0 (upd (fl (fun j => x + nI j * y) i bf) i (x + ((nI i) * y))) pw hs lo lg rt nb (nI fi) (nI fo) (nI en) 0 cu ma) := hD
      refine n_iinc (lv' := [(3, .int (nI (i + 1))), (0, .ref h0), (1, .int x), (2, .int y)]) hx hb dX1_fill_31 hl (k := 3) rfl (by decide) rfl (fun ls hl => ?_)
      refine lv_goto (tgt := 14) hx hb dX1_fill_34 (by decide) ?_
      have hP : va_P D vwCl (wM h0 a0 a1 a2 a3 a4 a5 cI cZ 0 (fl (fun j => x + nI j * y) (i + 1) bf) pw hs lo lg rt nb (nI fi) (nI fo) (nI en) 0 cu ma) H := by rw [← fl_s]; exact hP
      have hD : va_D A (wM h0 a0 a1 a2 a3 a4 a5 cI cZ 0 (fl (fun j => x + nI j * y) (i + 1) bf) pw hs lo lg rt nb (nI fi) (nI fo) (nI en) 0 cu ma) := by rw [← fl_s]; exact hD
      exact ih (i + 1) (by omega) _ _ _ hP hD hS (lv_sub hl [1, 2, 3, 0] rfl)
  have hP : va_P D vwCl (wM h0 a0 a1 a2 a3 a4 a5 cI cZ 0 (fl (fun j => x + nI j * y) 0 bf) pw hs lo lg rt nb (nI fi) (nI fo) (nI en) 0 cu ma) H := by rw [fl_0]; exact hP
  have hD : va_D A (wM h0 a0 a1 a2 a3 a4 a5 cI cZ 0 (fl (fun j => x + nI j * y) 0 bf) pw hs lo lg rt nb (nI fi) (nI fo) (nI en) 0 cu ma) := by rw [fl_0]; exact hD
  exact lp_14 64 0 (by omega) _ _ _ hP hD hS (lv_sub hl [1, 2, 3, 0] rfl)
set_option maxHeartbeats 4000000 in
set_option maxRecDepth 100000 in
theorem tX1_get_xb {l : Launch} {D : va_G} {cI cZ : ClassId} {h0 a0 a1 a2 a3 a4 a5 : Nat} (th : Int32) (bf pw hs lo lg rt : Nat → Int32) (nb : Int32) (fi fo en : Nat) (off cu ma : Int32) (x : Int32) (h : x < 0 ∨ nI 64 ≤ x) : RI l yX1_get wsX1_get 8 0 0 D (tyC cI cZ) (wM h0 a0 a1 a2 a3 a4 a5 cI cZ th bf pw hs lo lg rt nb (nI fi) (nI fo) (nI en) off cu ma) [.ref h0, .int x] 0 (wM h0 a0 a1 a2 a3 a4 a5 cI cZ 1 bf pw hs lo lg rt nb (nI fi) (nI fo) (nI en) off cu ma) := by
  refine st_I (cc := cX1_get) (maxL := 2) (ret := (some .int)) (by decide +kernel) rfl (Nat.le_of_ble_eq_true rfl) ?_
  intro p e s m below meth c A hx hb hr hts hown hml hlocks hK hP hD hA hS ls hl
  have hown : s.vm.findClass RX1 = some m.cls := hown
  have hl : lv_has ls 2 [(0, .ref h0), (1, .int x)] := hl
  refine lv_aload_n hx hb dX1_get_0 rfl (lv_at hl 0 rfl) ?_
  refine lv_iload_n hx hb dX1_get_1 rfl (lv_at hl 1 rfl) ?_
  refine lv_iconst (v := (nI 0)) hx hb dX1_get_2 (by decide) ?_
  refine lv_bipush (v := (nI 63)) hx hb dX1_get_3 (by decide) ?_
  refine k_I (wr := wM h0 a0 a1 a2 a3 a4 a5 cI cZ th bf pw hs lo lg rt nb (nI fi) (nI fo) (nI en) off cu ma) hP hD hS hA (va_runS (As := [.int x, .int (nI 0), .int (nI 63)]) (rest := [.ref h0]) ⟨hx, hb, hml, hown, hts⟩ ((tX1_in_e x (nI 0) (nI 63) 0 (sp_in_f (ix_in 63 (by omega) h))) _) (va_cwS 3 hts gX1_get_X1_in rfl rfl rfl (by decide +kernel) ⟨Nat.le_of_ble_eq_true rfl, Nat.le_of_ble_eq_true rfl⟩) (pS_B hP hD hK [] rfl [] rfl rfl) rfl rfl hl.1 rfl (lv_room (Nat.le_of_ble_eq_true rfl)) dX1_get_5 ⟨Nat.le_of_ble_eq_true rfl, Nat.le_of_ble_eq_true rfl⟩) [] [0, 1, 2, 3, 4, 5, 6] rfl rfl rfl (by decide) (fun H locs hP hD hS => ?_)
  have hP : va_P D vwCl (wM h0 a0 a1 a2 a3 a4 a5 cI cZ th bf pw hs lo lg rt nb (nI fi) (nI fo) (nI en) off cu ma) H := hP
  have hD : va_D A (wM h0 a0 a1 a2 a3 a4 a5 cI cZ th bf pw hs lo lg rt nb (nI fi) (nI fo) (nI en) off cu ma) := hD
  refine lv_if_ne (tgt := 15) hx hb dX1_get_8 (by decide) (fun c_8 => absurd (by decide) c_8) (fun c_8 => ?_)
  refine lv_iconst (v := (1)) hx hb dX1_get_11 (by decide) ?_
  refine lv_goto (tgt := 16) hx hb dX1_get_12 (by decide) ?_
  refine lv_iconst (v := (0)) hx hb dX1_get_16 (by decide) ?_
  refine k_I (wr := []) hP hD hS hA (va_runV (As := [.int 1, .int 0]) (rest := []) ⟨hx, hb, hml, hown, hts⟩ ((tX1_refused_1 th bf pw hs lo lg rt nb fi fo en off cu ma 0) _) (cwV 2 hts gX1_get_X1_refused rfl rfl rfl (by decide +kernel) ⟨Nat.le_of_ble_eq_true rfl, Nat.le_of_ble_eq_true rfl⟩) (pV_B hP hD hK (ci := 1) (q0 := 0) rfl rfl rfl [0, 1] rfl [0, 1, 2, 3, 4, 5, 6] rfl rfl) rfl rfl hl.1 rfl (lv_room (Nat.le_of_ble_eq_true rfl)) dX1_get_17 ⟨Nat.le_of_ble_eq_true rfl, Nat.le_of_ble_eq_true rfl⟩) [0, 1, 2, 3, 4, 5, 6] [] rfl rfl rfl (by decide) (fun H locs hP hD hS => ?_)
  have hP : va_P D vwCl (wM h0 a0 a1 a2 a3 a4 a5 cI cZ 1 bf pw hs lo lg rt nb (nI fi) (nI fo) (nI en) off cu ma) H := hP
  have hD : va_D A (wM h0 a0 a1 a2 a3 a4 a5 cI cZ 1 bf pw hs lo lg rt nb (nI fi) (nI fo) (nI en) off cu ma) := hD
  refine lv_if_eq (tgt := 27) hx hb dX1_get_20 (by decide) (fun c_20 => absurd c_20 (by decide)) (fun c_20 => ?_)
  refine lv_iconst (v := (0)) hx hb dX1_get_23 (by decide) ?_
  refine lv_goto (tgt := 33) hx hb dX1_get_24 (by decide) ?_
  exact e_I hx hb hr hlocks hP hD hS rfl dX1_get_33
set_option maxHeartbeats 4000000 in
set_option maxRecDepth 100000 in
theorem tX1_get_ok {l : Launch} {D : va_G} {cI cZ : ClassId} {h0 a0 a1 a2 a3 a4 a5 : Nat} (th : Int32) (bf pw hs lo lg rt : Nat → Int32) (nb : Int32) (fi fo en : Nat) (off cu ma : Int32) (k : Nat) (hk : k < 64) : RI l yX1_get wsX1_get 8 0 0 D (tyC cI cZ) (wM h0 a0 a1 a2 a3 a4 a5 cI cZ th bf pw hs lo lg rt nb (nI fi) (nI fo) (nI en) off cu ma) [.ref h0, .int (nI k)] (bf k) (wM h0 a0 a1 a2 a3 a4 a5 cI cZ 0 bf pw hs lo lg rt nb (nI fi) (nI fo) (nI en) off cu ma) := by
  refine st_I (cc := cX1_get) (maxL := 2) (ret := (some .int)) (by decide +kernel) rfl (Nat.le_of_ble_eq_true rfl) ?_
  intro p e s m below meth c A hx hb hr hts hown hml hlocks hK hP hD hA hS ls hl
  have hown : s.vm.findClass RX1 = some m.cls := hown
  have hl : lv_has ls 2 [(0, .ref h0), (1, .int (nI k))] := hl
  refine lv_aload_n hx hb dX1_get_0 rfl (lv_at hl 0 rfl) ?_
  refine lv_iload_n hx hb dX1_get_1 rfl (lv_at hl 1 rfl) ?_
  refine lv_iconst (v := (nI 0)) hx hb dX1_get_2 (by decide) ?_
  refine lv_bipush (v := (nI 63)) hx hb dX1_get_3 (by decide) ?_
  refine k_I (wr := wM h0 a0 a1 a2 a3 a4 a5 cI cZ th bf pw hs lo lg rt nb (nI fi) (nI fo) (nI en) off cu ma) hP hD hS hA (va_runS (As := [.int (nI k), .int (nI 0), .int (nI 63)]) (rest := [.ref h0]) ⟨hx, hb, hml, hown, hts⟩ ((tX1_in_e (nI k) (nI 0) (nI 63) 1 (sp_in_t (by omega) (by omega) (by omega))) _) (va_cwS 3 hts gX1_get_X1_in rfl rfl rfl (by decide +kernel) ⟨Nat.le_of_ble_eq_true rfl, Nat.le_of_ble_eq_true rfl⟩) (pS_B hP hD hK [] rfl [] rfl rfl) rfl rfl hl.1 rfl (lv_room (Nat.le_of_ble_eq_true rfl)) dX1_get_5 ⟨Nat.le_of_ble_eq_true rfl, Nat.le_of_ble_eq_true rfl⟩) [] [0, 1, 2, 3, 4, 5, 6] rfl rfl rfl (by decide) (fun H locs hP hD hS => ?_)
  have hP : va_P D vwCl (wM h0 a0 a1 a2 a3 a4 a5 cI cZ th bf pw hs lo lg rt nb (nI fi) (nI fo) (nI en) off cu ma) H := hP
  have hD : va_D A (wM h0 a0 a1 a2 a3 a4 a5 cI cZ th bf pw hs lo lg rt nb (nI fi) (nI fo) (nI en) off cu ma) := hD
  refine lv_if_ne (tgt := 15) hx hb dX1_get_8 (by decide) (fun c_8 => ?_) (fun c_8 => absurd c_8 (by decide))
  refine lv_iconst (v := (0)) hx hb dX1_get_15 (by decide) ?_
  refine lv_iconst (v := (0)) hx hb dX1_get_16 (by decide) ?_
  refine k_I (wr := []) hP hD hS hA (va_runV (As := [.int 0, .int 0]) (rest := []) ⟨hx, hb, hml, hown, hts⟩ ((tX1_refused_0 th bf pw hs lo lg rt nb fi fo en off cu ma) _) (cwV 2 hts gX1_get_X1_refused rfl rfl rfl (by decide +kernel) ⟨Nat.le_of_ble_eq_true rfl, Nat.le_of_ble_eq_true rfl⟩) (pV_B hP hD hK (ci := 1) (q0 := 0) rfl rfl rfl [0, 1] rfl [0, 1, 2, 3, 4, 5, 6] rfl rfl) rfl rfl hl.1 rfl (lv_room (Nat.le_of_ble_eq_true rfl)) dX1_get_17 ⟨Nat.le_of_ble_eq_true rfl, Nat.le_of_ble_eq_true rfl⟩) [0, 1, 2, 3, 4, 5, 6] [] rfl rfl rfl (by decide) (fun H locs hP hD hS => ?_)
  have hP : va_P D vwCl (wM h0 a0 a1 a2 a3 a4 a5 cI cZ 0 bf pw hs lo lg rt nb (nI fi) (nI fo) (nI en) off cu ma) H := hP
  have hD : va_D A (wM h0 a0 a1 a2 a3 a4 a5 cI cZ 0 bf pw hs lo lg rt nb (nI fi) (nI fo) (nI en) off cu ma) := hD
  refine lv_if_eq (tgt := 27) hx hb dX1_get_20 (by decide) (fun c_20 => ?_) (fun c_20 => absurd (by decide) c_20)
  refine lv_aload_n hx hb dX1_get_27 rfl (lv_at hl 0 rfl) ?_
  refine va_get (ci := 1) (v := .ref a0) (C := RX1) (T := TX1) (N := 14) hx hb hts inX1_get hown hK hP 0 rfl rfl 6 (by decide) (hts _ flX1_get_28) (fun _ h9 => h9) rfl dX1_get_28 ?_
  refine lv_iload_n hx hb dX1_get_31 rfl (lv_at hl 1 rfl) ?_
  refine n_iald hx hb hK hP 1 0 rfl rfl k (by omega) (by omega) dX1_get_32 ?_
  exact e_I hx hb hr hlocks hP hD hS rfl dX1_get_33
set_option maxHeartbeats 4000000 in
set_option maxRecDepth 100000 in
theorem tX1_sum_ok {l : Launch} {D : va_G} {cI cZ : ClassId} {h0 a0 a1 a2 a3 a4 a5 : Nat} (th : Int32) (bf pw hs lo lg rt : Nat → Int32) (nb : Int32) (fi fo en : Nat) (off cu ma : Int32) : RI l yX1_sum wsX1_sum 8 0 0 D (tyC cI cZ) (wM h0 a0 a1 a2 a3 a4 a5 cI cZ th bf pw hs lo lg rt nb (nI fi) (nI fo) (nI en) off cu ma) [.ref h0] (sp_sum bf 64) (wM h0 a0 a1 a2 a3 a4 a5 cI cZ 0 bf pw hs lo lg rt nb (nI fi) (nI fo) (nI en) off cu ma) := by
  refine st_I (cc := cX1_sum) (maxL := 3) (ret := (some .int)) (by decide +kernel) rfl (Nat.le_of_ble_eq_true rfl) ?_
  intro p e s m below meth c A hx hb hr hts hown hml hlocks hK hP hD hA hS ls hl
  have hown : s.vm.findClass RX1 = some m.cls := hown
  have hl : lv_has ls 3 [(0, .ref h0)] := hl
  refine lv_aload_n hx hb dX1_sum_0 rfl (lv_at hl 0 rfl) ?_
  refine lv_iconst (v := (0)) hx hb dX1_sum_1 (by decide) ?_
  refine va_put (ci := 1) (v := .int 0) (ty := .int) (C := RX1) (T := TX1) (N := 14) hx hb hts inX1_sum tyX1 tyX1_ok nmX1 hown hK hP hD hS 0 rfl rfl 0 (by decide) (hts _ flX1_sum_38) (fun _ h9 => h9) rfl (by decide +kernel) rfl rfl (Nat.le_of_ble_eq_true rfl) dX1_sum_2 (fun H locs hP hD hS => ?_)
  have hP : va_P D vwCl (wM h0 a0 a1 a2 a3 a4 a5 cI cZ 0 bf pw hs lo lg rt nb (nI fi) (nI fo) (nI en) off cu ma) H := hP
  have hD : va_D A (wM h0 a0 a1 a2 a3 a4 a5 cI cZ 0 bf pw hs lo lg rt nb (nI fi) (nI fo) (nI en) off cu ma) := hD
  refine lv_iconst (v := (0)) hx hb dX1_sum_5 (by decide) ?_
  refine lv_istore_n (lv' := [(1, .int 0), (0, .ref h0)]) hx hb dX1_sum_6 rfl hl (by decide) rfl (fun ls hl => ?_)
  refine lv_iconst (v := (nI 0)) hx hb dX1_sum_7 (by decide) ?_
  refine lv_istore_n (lv' := [(2, .int (nI 0)), (1, .int 0), (0, .ref h0)]) hx hb dX1_sum_8 rfl hl (by decide) rfl (fun ls hl => ?_)
  have lp_9 : ∀ (n9 i : Nat), i + n9 = 64 → ∀ (H : Heap) (locs : List Loc) (ls : Array Slot), va_P D vwCl (wM h0 a0 a1 a2 a3 a4 a5 cI cZ 0 bf pw hs lo lg rt nb (nI fi) (nI fo) (nI en) off cu ma) H → va_D A (wM h0 a0 a1 a2 a3 a4 a5 cI cZ 0 bf pw hs lo lg rt nb (nI fi) (nI fo) (nI en) off cu ma) → va_S A s.heap H locs → lv_has ls 3 [(0, .ref h0), (1, .int (sp_sum bf i)), (2, .int (nI i))] → W p l e (rmL 8 0 0) s m ([.ref h0] : List Value).toArray below meth c H locs 0 0 (MQ below (qcI D A (sp_sum bf 64) (wM h0 a0 a1 a2 a3 a4 a5 cI cZ 0 bf pw hs lo lg rt nb (nI fi) (nI fo) (nI en) off cu ma)) ([.ref h0] : List Value).toArray s 0 0 A) (F0 m 9 ls []) := by
    intro n9
    induction n9 with
    | zero =>
      intro i hi H locs ls hP hD hS hl
      obtain rfl : i = 64 := by omega
      refine lv_iload_n hx hb dX1_sum_9 rfl (lv_at hl 2 rfl) ?_
      refine lv_bipush (v := (nI 64)) hx hb dX1_sum_10 (by decide) ?_
      refine n_ge (tgt := 34) hx hb (by omega) (by omega) dX1_sum_12 (by decide) (fun c_12 => ?_) (fun c_12 => absurd c_12 (by omega))
      refine lv_iload_n hx hb dX1_sum_34 rfl (lv_at hl 1 rfl) ?_
      exact e_I hx hb hr hlocks hP hD hS rfl dX1_sum_35
    | succ n9 ih =>
      intro i hi H locs ls hP hD hS hl
      refine lv_iload_n hx hb dX1_sum_9 rfl (lv_at hl 2 rfl) ?_
      refine lv_bipush (v := (nI 64)) hx hb dX1_sum_10 (by decide) ?_
      refine n_ge (tgt := 34) hx hb (by omega) (by omega) dX1_sum_12 (by decide) (fun c_12 => absurd c_12 (by omega)) (fun c_12 => ?_)
      refine lv_iload_n hx hb dX1_sum_15 rfl (lv_at hl 1 rfl) ?_
      refine lv_aload_n hx hb dX1_sum_16 rfl (lv_at hl 0 rfl) ?_
      refine va_get (ci := 1) (v := .ref a0) (C := RX1) (T := TX1) (N := 14) hx hb hts inX1_sum hown hK hP 0 rfl rfl 6 (by decide) (hts _ flX1_sum_28) (fun _ h9 => h9) rfl dX1_sum_17 ?_
      refine lv_iload_n hx hb dX1_sum_20 rfl (lv_at hl 2 rfl) ?_
      refine n_iald hx hb hK hP 1 0 rfl rfl i (by omega) (by omega) dX1_sum_21 ?_
      refine lv_iload_n hx hb dX1_sum_22 rfl (lv_at hl 2 rfl) ?_
      refine lv_iconst (v := (nI 1)) hx hb dX1_sum_23 (by decide) ?_
      refine n_iadd hx hb dX1_sum_24 ?_
      refine lv_imul hx hb dX1_sum_25 ?_
      refine lv_iadd hx hb dX1_sum_26 ?_
      refine lv_istore_n (lv' := [(1, .int ((sp_sum bf i) + ((bf i) * (nI (i + 1))))), (0, .ref h0), (2, .int (nI i))]) hx hb dX1_sum_27 rfl hl (by decide) rfl (fun ls hl => ?_)
      refine n_iinc (lv' := [(2, .int (nI (i + 1))), (1, .int ((sp_sum bf i) + ((bf i) * (nI (i + 1))))), (0, .ref h0)]) hx hb dX1_sum_28 hl (k := 2) rfl (by decide) rfl (fun ls hl => ?_)
      refine lv_goto (tgt := 9) hx hb dX1_sum_31 (by decide) ?_
      have hP : va_P D vwCl (wM h0 a0 a1 a2 a3 a4 a5 cI cZ 0 bf pw hs lo lg rt nb (nI fi) (nI fo) (nI en) off cu ma) H := by skip; exact hP
      have hD : va_D A (wM h0 a0 a1 a2 a3 a4 a5 cI cZ 0 bf pw hs lo lg rt nb (nI fi) (nI fo) (nI en) off cu ma) := by skip; exact hD
      exact ih (i + 1) (by omega) _ _ _ hP hD hS (lv_sub hl [2, 1, 0] rfl)
  have hP : va_P D vwCl (wM h0 a0 a1 a2 a3 a4 a5 cI cZ 0 bf pw hs lo lg rt nb (nI fi) (nI fo) (nI en) off cu ma) H := by skip; exact hP
  have hD : va_D A (wM h0 a0 a1 a2 a3 a4 a5 cI cZ 0 bf pw hs lo lg rt nb (nI fi) (nI fo) (nI en) off cu ma) := by skip; exact hD
  exact lp_9 64 0 (by omega) _ _ _ hP hD hS (lv_sub hl [2, 1, 0] rfl)
set_option maxHeartbeats 4000000 in
set_option maxRecDepth 100000 in
theorem tX1_write_x0 {l : Launch} {D : va_G} {cI cZ : ClassId} {h0 a0 a1 a2 a3 a4 a5 : Nat} (th : Int32) (bf pw hs lo lg rt : Nat → Int32) (nb : Int32) (fi fo en : Nat) (cu ma : Int32) (x y : Int32) : RI l yX1_write wsX1_write 8 0 0 D (tyC cI cZ) (wM h0 a0 a1 a2 a3 a4 a5 cI cZ th bf pw hs lo lg rt nb (nI fi) (nI fo) (nI en) 1 cu ma) [.ref h0, .int x, .int y] 0 (wM h0 a0 a1 a2 a3 a4 a5 cI cZ 1 bf pw hs lo lg rt nb (nI fi) (nI fo) (nI en) 1 cu ma) := by
  refine st_I (cc := cX1_write) (maxL := 3) (ret := (some .int)) (by decide +kernel) rfl (Nat.le_of_ble_eq_true rfl) ?_
  intro p e s m below meth c A hx hb hr hts hown hml hlocks hK hP hD hA hS ls hl
  have hown : s.vm.findClass RX1 = some m.cls := hown
  have hl : lv_has ls 3 [(0, .ref h0), (1, .int x), (2, .int y)] := hl
  refine lv_aload_n hx hb dX1_write_0 rfl (lv_at hl 0 rfl) ?_
  refine lv_aload_n hx hb dX1_write_1 rfl (lv_at hl 0 rfl) ?_
  refine va_get (ci := 1) (v := .int 1) (C := RX1) (T := TX1) (N := 14) hx hb hts inX1_write hown hK hP 0 rfl rfl 12 (by decide) (hts _ flX1_write_45) (fun _ h9 => h9) rfl dX1_write_2 ?_
  refine lv_iload_n hx hb dX1_write_5 rfl (lv_at hl 1 rfl) ?_
  refine lv_iload_n hx hb dX1_write_6 rfl (lv_at hl 2 rfl) ?_
  refine k_I (wr := wM h0 a0 a1 a2 a3 a4 a5 cI cZ th bf pw hs lo lg rt nb (nI fi) (nI fo) (nI en) 1 cu ma) hP hD hS hA (va_runS (As := [.int x, .int y]) (rest := [.int 1, .ref h0]) ⟨hx, hb, hml, hown, hts⟩ ((tX1_isPage_e x y (sp_pg x y) rfl) _) (va_cwS 2 hts gX1_write_X1_isPage rfl rfl rfl (by decide +kernel) ⟨Nat.le_of_ble_eq_true rfl, Nat.le_of_ble_eq_true rfl⟩) (pS_B hP hD hK [] rfl [] rfl rfl) rfl rfl hl.1 rfl (lv_room (Nat.le_of_ble_eq_true rfl)) dX1_write_7 ⟨Nat.le_of_ble_eq_true rfl, Nat.le_of_ble_eq_true rfl⟩) [] [0, 1, 2, 3, 4, 5, 6] rfl rfl rfl (by decide) (fun H locs hP hD hS => ?_)
  have hP : va_P D vwCl (wM h0 a0 a1 a2 a3 a4 a5 cI cZ th bf pw hs lo lg rt nb (nI fi) (nI fo) (nI en) 1 cu ma) H := hP
  have hD : va_D A (wM h0 a0 a1 a2 a3 a4 a5 cI cZ th bf pw hs lo lg rt nb (nI fi) (nI fo) (nI en) 1 cu ma) := hD
  refine lv_if_ne (tgt := 17) hx hb dX1_write_10 (by decide) (fun c_10 => ?_) (fun c_10 => ?_)
  · refine lv_iconst (v := (0)) hx hb dX1_write_17 (by decide) ?_
    refine k_I (wr := []) hP hD hS hA (va_runV (As := [.int 1, .int 0]) (rest := []) ⟨hx, hb, hml, hown, hts⟩ ((tX1_refused_1 th bf pw hs lo lg rt nb fi fo en 1 cu ma 0) _) (cwV 2 hts gX1_write_X1_refused rfl rfl rfl (by decide +kernel) ⟨Nat.le_of_ble_eq_true rfl, Nat.le_of_ble_eq_true rfl⟩) (pV_B hP hD hK (ci := 1) (q0 := 0) rfl rfl rfl [0, 1] rfl [0, 1, 2, 3, 4, 5, 6] rfl rfl) rfl rfl hl.1 rfl (lv_room (Nat.le_of_ble_eq_true rfl)) dX1_write_18 ⟨Nat.le_of_ble_eq_true rfl, Nat.le_of_ble_eq_true rfl⟩) [0, 1, 2, 3, 4, 5, 6] [] rfl rfl rfl (by decide) (fun H locs hP hD hS => ?_)
    have hP : va_P D vwCl (wM h0 a0 a1 a2 a3 a4 a5 cI cZ 1 bf pw hs lo lg rt nb (nI fi) (nI fo) (nI en) 1 cu ma) H := hP
    have hD : va_D A (wM h0 a0 a1 a2 a3 a4 a5 cI cZ 1 bf pw hs lo lg rt nb (nI fi) (nI fo) (nI en) 1 cu ma) := hD
    refine lv_if_eq (tgt := 26) hx hb dX1_write_21 (by decide) (fun c_21 => absurd c_21 (by decide)) (fun c_21 => ?_)
    refine lv_iconst (v := (0)) hx hb dX1_write_24 (by decide) ?_
    exact e_I hx hb hr hlocks hP hD hS rfl dX1_write_25
  · refine lv_iconst (v := (1)) hx hb dX1_write_13 (by decide) ?_
    refine lv_goto (tgt := 18) hx hb dX1_write_14 (by decide) ?_
    refine k_I (wr := []) hP hD hS hA (va_runV (As := [.int 1, .int 1]) (rest := []) ⟨hx, hb, hml, hown, hts⟩ ((tX1_refused_1 th bf pw hs lo lg rt nb fi fo en 1 cu ma 1) _) (cwV 2 hts gX1_write_X1_refused rfl rfl rfl (by decide +kernel) ⟨Nat.le_of_ble_eq_true rfl, Nat.le_of_ble_eq_true rfl⟩) (pV_B hP hD hK (ci := 1) (q0 := 0) rfl rfl rfl [0, 1] rfl [0, 1, 2, 3, 4, 5, 6] rfl rfl) rfl rfl hl.1 rfl (lv_room (Nat.le_of_ble_eq_true rfl)) dX1_write_18 ⟨Nat.le_of_ble_eq_true rfl, Nat.le_of_ble_eq_true rfl⟩) [0, 1, 2, 3, 4, 5, 6] [] rfl rfl rfl (by decide) (fun H locs hP hD hS => ?_)
    have hP : va_P D vwCl (wM h0 a0 a1 a2 a3 a4 a5 cI cZ 1 bf pw hs lo lg rt nb (nI fi) (nI fo) (nI en) 1 cu ma) H := hP
    have hD : va_D A (wM h0 a0 a1 a2 a3 a4 a5 cI cZ 1 bf pw hs lo lg rt nb (nI fi) (nI fo) (nI en) 1 cu ma) := hD
    refine lv_if_eq (tgt := 26) hx hb dX1_write_21 (by decide) (fun c_21 => absurd c_21 (by decide)) (fun c_21 => ?_)
    refine lv_iconst (v := (0)) hx hb dX1_write_24 (by decide) ?_
    exact e_I hx hb hr hlocks hP hD hS rfl dX1_write_25
set_option maxHeartbeats 4000000 in
set_option maxRecDepth 100000 in
theorem tX1_write_xb {l : Launch} {D : va_G} {cI cZ : ClassId} {h0 a0 a1 a2 a3 a4 a5 : Nat} (th : Int32) (bf pw hs lo lg rt : Nat → Int32) (nb : Int32) (fi fo en : Nat) (cu ma : Int32) (x y : Int32) (h : badP x y) : RI l yX1_write wsX1_write 8 0 0 D (tyC cI cZ) (wM h0 a0 a1 a2 a3 a4 a5 cI cZ th bf pw hs lo lg rt nb (nI fi) (nI fo) (nI en) 0 cu ma) [.ref h0, .int x, .int y] 0 (wM h0 a0 a1 a2 a3 a4 a5 cI cZ 2 bf pw hs lo lg rt nb (nI fi) (nI fo) (nI en) 0 cu ma) := by
  refine st_I (cc := cX1_write) (maxL := 3) (ret := (some .int)) (by decide +kernel) rfl (Nat.le_of_ble_eq_true rfl) ?_
  intro p e s m below meth c A hx hb hr hts hown hml hlocks hK hP hD hA hS ls hl
  have hown : s.vm.findClass RX1 = some m.cls := hown
  have hl : lv_has ls 3 [(0, .ref h0), (1, .int x), (2, .int y)] := hl
  refine lv_aload_n hx hb dX1_write_0 rfl (lv_at hl 0 rfl) ?_
  refine lv_aload_n hx hb dX1_write_1 rfl (lv_at hl 0 rfl) ?_
  refine va_get (ci := 1) (v := .int 0) (C := RX1) (T := TX1) (N := 14) hx hb hts inX1_write hown hK hP 0 rfl rfl 12 (by decide) (hts _ flX1_write_45) (fun _ h9 => h9) rfl dX1_write_2 ?_
  refine lv_iload_n hx hb dX1_write_5 rfl (lv_at hl 1 rfl) ?_
  refine lv_iload_n hx hb dX1_write_6 rfl (lv_at hl 2 rfl) ?_
  refine k_I (wr := wM h0 a0 a1 a2 a3 a4 a5 cI cZ th bf pw hs lo lg rt nb (nI fi) (nI fo) (nI en) 0 cu ma) hP hD hS hA (va_runS (As := [.int x, .int y]) (rest := [.int 0, .ref h0]) ⟨hx, hb, hml, hown, hts⟩ ((tX1_isPage_e x y 0 (sp_pg_f h)) _) (va_cwS 2 hts gX1_write_X1_isPage rfl rfl rfl (by decide +kernel) ⟨Nat.le_of_ble_eq_true rfl, Nat.le_of_ble_eq_true rfl⟩) (pS_B hP hD hK [] rfl [] rfl rfl) rfl rfl hl.1 rfl (lv_room (Nat.le_of_ble_eq_true rfl)) dX1_write_7 ⟨Nat.le_of_ble_eq_true rfl, Nat.le_of_ble_eq_true rfl⟩) [] [0, 1, 2, 3, 4, 5, 6] rfl rfl rfl (by decide) (fun H locs hP hD hS => ?_)
  have hP : va_P D vwCl (wM h0 a0 a1 a2 a3 a4 a5 cI cZ th bf pw hs lo lg rt nb (nI fi) (nI fo) (nI en) 0 cu ma) H := hP
  have hD : va_D A (wM h0 a0 a1 a2 a3 a4 a5 cI cZ th bf pw hs lo lg rt nb (nI fi) (nI fo) (nI en) 0 cu ma) := hD
  refine lv_if_ne (tgt := 17) hx hb dX1_write_10 (by decide) (fun c_10 => absurd (by decide) c_10) (fun c_10 => ?_)
  refine lv_iconst (v := (1)) hx hb dX1_write_13 (by decide) ?_
  refine lv_goto (tgt := 18) hx hb dX1_write_14 (by decide) ?_
  refine k_I (wr := []) hP hD hS hA (va_runV (As := [.int 0, .int 1]) (rest := []) ⟨hx, hb, hml, hown, hts⟩ ((tX1_refused_2 th bf pw hs lo lg rt nb fi fo en 0 cu ma) _) (cwV 2 hts gX1_write_X1_refused rfl rfl rfl (by decide +kernel) ⟨Nat.le_of_ble_eq_true rfl, Nat.le_of_ble_eq_true rfl⟩) (pV_B hP hD hK (ci := 1) (q0 := 0) rfl rfl rfl [0, 1] rfl [0, 1, 2, 3, 4, 5, 6] rfl rfl) rfl rfl hl.1 rfl (lv_room (Nat.le_of_ble_eq_true rfl)) dX1_write_18 ⟨Nat.le_of_ble_eq_true rfl, Nat.le_of_ble_eq_true rfl⟩) [0, 1, 2, 3, 4, 5, 6] [] rfl rfl rfl (by decide) (fun H locs hP hD hS => ?_)
  have hP : va_P D vwCl (wM h0 a0 a1 a2 a3 a4 a5 cI cZ 2 bf pw hs lo lg rt nb (nI fi) (nI fo) (nI en) 0 cu ma) H := hP
  have hD : va_D A (wM h0 a0 a1 a2 a3 a4 a5 cI cZ 2 bf pw hs lo lg rt nb (nI fi) (nI fo) (nI en) 0 cu ma) := hD
  refine lv_if_eq (tgt := 26) hx hb dX1_write_21 (by decide) (fun c_21 => absurd c_21 (by decide)) (fun c_21 => ?_)
  refine lv_iconst (v := (0)) hx hb dX1_write_24 (by decide) ?_
  exact e_I hx hb hr hlocks hP hD hS rfl dX1_write_25
set_option maxHeartbeats 4000000 in
set_option maxRecDepth 100000 in
theorem tX1_write_ok0 {l : Launch} {D : va_G} {cI cZ : ClassId} {h0 a0 a1 a2 a3 a4 a5 : Nat} (th : Int32) (bf pw hs lo lg rt : Nat → Int32) (nb : Int32) (fi fo en : Nat) (cu ma : Int32) (ar pg : Nat) (h1 : ar < 2) (h2 : pg < 256) (h : cu = 0) : RI l yX1_write wsX1_write 8 0 0 D (tyC cI cZ) (wM h0 a0 a1 a2 a3 a4 a5 cI cZ th bf pw hs lo lg rt nb (nI fi) (nI fo) (nI en) 0 cu ma) [.ref h0, .int (nI ar), .int (nI pg)] (-1) (wM h0 a0 a1 a2 a3 a4 a5 cI cZ 0 (zf bf) pw hs lo lg rt (nb + 1) (nI fi) (nI fo) (nI fo) 1 cu ma) := by
  refine st_I (cc := cX1_write) (maxL := 3) (ret := (some .int)) (by decide +kernel) rfl (Nat.le_of_ble_eq_true rfl) ?_
  intro p e s m below meth c A hx hb hr hts hown hml hlocks hK hP hD hA hS ls hl
  have hown : s.vm.findClass RX1 = some m.cls := hown
  have hl : lv_has ls 3 [(0, .ref h0), (1, .int (nI ar)), (2, .int (nI pg))] := hl
  refine lv_aload_n hx hb dX1_write_0 rfl (lv_at hl 0 rfl) ?_
  refine lv_aload_n hx hb dX1_write_1 rfl (lv_at hl 0 rfl) ?_
  refine va_get (ci := 1) (v := .int 0) (C := RX1) (T := TX1) (N := 14) hx hb hts inX1_write hown hK hP 0 rfl rfl 12 (by decide) (hts _ flX1_write_45) (fun _ h9 => h9) rfl dX1_write_2 ?_
  refine lv_iload_n hx hb dX1_write_5 rfl (lv_at hl 1 rfl) ?_
  refine lv_iload_n hx hb dX1_write_6 rfl (lv_at hl 2 rfl) ?_
  refine k_I (wr := wM h0 a0 a1 a2 a3 a4 a5 cI cZ th bf pw hs lo lg rt nb (nI fi) (nI fo) (nI en) 0 cu ma) hP hD hS hA (va_runS (As := [.int (nI ar), .int (nI pg)]) (rest := [.int 0, .ref h0]) ⟨hx, hb, hml, hown, hts⟩ ((tX1_isPage_e (nI ar) (nI pg) 1 (sp_pg_t (by omega) (by omega))) _) (va_cwS 2 hts gX1_write_X1_isPage rfl rfl rfl (by decide +kernel) ⟨Nat.le_of_ble_eq_true rfl, Nat.le_of_ble_eq_true rfl⟩) (pS_B hP hD hK [] rfl [] rfl rfl) rfl rfl hl.1 rfl (lv_room (Nat.le_of_ble_eq_true rfl)) dX1_write_7 ⟨Nat.le_of_ble_eq_true rfl, Nat.le_of_ble_eq_true rfl⟩) [] [0, 1, 2, 3, 4, 5, 6] rfl rfl rfl (by decide) (fun H locs hP hD hS => ?_)
  have hP : va_P D vwCl (wM h0 a0 a1 a2 a3 a4 a5 cI cZ th bf pw hs lo lg rt nb (nI fi) (nI fo) (nI en) 0 cu ma) H := hP
  have hD : va_D A (wM h0 a0 a1 a2 a3 a4 a5 cI cZ th bf pw hs lo lg rt nb (nI fi) (nI fo) (nI en) 0 cu ma) := hD
  refine lv_if_ne (tgt := 17) hx hb dX1_write_10 (by decide) (fun c_10 => ?_) (fun c_10 => absurd c_10 (by decide))
  refine lv_iconst (v := (0)) hx hb dX1_write_17 (by decide) ?_
  refine k_I (wr := []) hP hD hS hA (va_runV (As := [.int 0, .int 0]) (rest := []) ⟨hx, hb, hml, hown, hts⟩ ((tX1_refused_0 th bf pw hs lo lg rt nb fi fo en 0 cu ma) _) (cwV 2 hts gX1_write_X1_refused rfl rfl rfl (by decide +kernel) ⟨Nat.le_of_ble_eq_true rfl, Nat.le_of_ble_eq_true rfl⟩) (pV_B hP hD hK (ci := 1) (q0 := 0) rfl rfl rfl [0, 1] rfl [0, 1, 2, 3, 4, 5, 6] rfl rfl) rfl rfl hl.1 rfl (lv_room (Nat.le_of_ble_eq_true rfl)) dX1_write_18 ⟨Nat.le_of_ble_eq_true rfl, Nat.le_of_ble_eq_true rfl⟩) [0, 1, 2, 3, 4, 5, 6] [] rfl rfl rfl (by decide) (fun H locs hP hD hS => ?_)
  have hP : va_P D vwCl (wM h0 a0 a1 a2 a3 a4 a5 cI cZ 0 bf pw hs lo lg rt nb (nI fi) (nI fo) (nI en) 0 cu ma) H := hP
  have hD : va_D A (wM h0 a0 a1 a2 a3 a4 a5 cI cZ 0 bf pw hs lo lg rt nb (nI fi) (nI fo) (nI en) 0 cu ma) := hD
  refine lv_if_eq (tgt := 26) hx hb dX1_write_21 (by decide) (fun c_21 => ?_) (fun c_21 => absurd (by decide) c_21)
  refine lv_aload_n hx hb dX1_write_26 rfl (lv_at hl 0 rfl) ?_
  refine lv_iload_n hx hb dX1_write_27 rfl (lv_at hl 1 rfl) ?_
  refine lv_iload_n hx hb dX1_write_28 rfl (lv_at hl 2 rfl) ?_
  refine k_I (wr := wM h0 a0 a1 a2 a3 a4 a5 cI cZ 0 bf pw hs lo lg rt nb (nI fi) (nI fo) (nI en) 0 cu ma) hP hD hS hA (va_runS (As := [.int (nI ar), .int (nI pg)]) (rest := [.ref h0]) ⟨hx, hb, hml, hown, hts⟩ ((tX1_place ar pg) _) (va_cwS 2 hts gX1_write_X1_place rfl rfl rfl (by decide +kernel) ⟨Nat.le_of_ble_eq_true rfl, Nat.le_of_ble_eq_true rfl⟩) (pS_B hP hD hK [] rfl [] rfl rfl) rfl rfl hl.1 rfl (lv_room (Nat.le_of_ble_eq_true rfl)) dX1_write_29 ⟨Nat.le_of_ble_eq_true rfl, Nat.le_of_ble_eq_true rfl⟩) [] [0, 1, 2, 3, 4, 5, 6] rfl rfl rfl (by decide) (fun H locs hP hD hS => ?_)
  have hP : va_P D vwCl (wM h0 a0 a1 a2 a3 a4 a5 cI cZ 0 bf pw hs lo lg rt nb (nI fi) (nI fo) (nI en) 0 cu ma) H := hP
  have hD : va_D A (wM h0 a0 a1 a2 a3 a4 a5 cI cZ 0 bf pw hs lo lg rt nb (nI fi) (nI fo) (nI en) 0 cu ma) := hD
  refine lv_iconst (v := (nI 0)) hx hb dX1_write_32 (by decide) ?_
  refine lv_iconst (v := (1)) hx hb dX1_write_33 (by decide) ?_
  refine k_I (wr := []) hP hD hS hA (va_runV (As := [.int (nI (ar * 256 + pg)), .int (nI 0), .int 1]) (rest := []) ⟨hx, hb, hml, hown, hts⟩ ((tX1_writePage_b0 0 bf pw hs lo lg rt nb fi fo en 0 cu ma (ar * 256 + pg) (by omega) h) _) (cwV 3 hts gX1_write_X1_writePage rfl rfl rfl (by decide +kernel) ⟨Nat.le_of_ble_eq_true rfl, Nat.le_of_ble_eq_true rfl⟩) (pV_B hP hD hK (ci := 1) (q0 := 0) rfl rfl rfl [0, 1] rfl [0, 1, 2, 3, 4, 5, 6] rfl rfl) rfl rfl hl.1 rfl (lv_room (Nat.le_of_ble_eq_true rfl)) dX1_write_34 ⟨Nat.le_of_ble_eq_true rfl, Nat.le_of_ble_eq_true rfl⟩) [0, 1, 2, 3, 4, 5, 6] [] rfl rfl rfl (by decide) (fun H locs hP hD hS => ?_)
  have hP : va_P D vwCl (wM h0 a0 a1 a2 a3 a4 a5 cI cZ 0 (zf bf) pw hs lo lg rt (nb + 1) (nI fi) (nI fo) (nI fo) 1 cu ma) H := hP
  have hD : va_D A (wM h0 a0 a1 a2 a3 a4 a5 cI cZ 0 (zf bf) pw hs lo lg rt (nb + 1) (nI fi) (nI fo) (nI fo) 1 cu ma) := hD
  exact e_I hx hb hr hlocks hP hD hS rfl dX1_write_37
set_option maxHeartbeats 4000000 in
set_option maxRecDepth 100000 in
theorem tX1_write_ok1 {l : Launch} {D : va_G} {cI cZ : ClassId} {h0 a0 a1 a2 a3 a4 a5 : Nat} (th : Int32) (bf pw hs lo lg rt : Nat → Int32) (nb : Int32) (fi fo en : Nat) (cu ma : Int32) (ar pg : Nat) (h1 : ar < 2) (h2 : pg < 256) (hn : -1 ≤ cu) (h : ¬ cu = 0) (hd : dcu cu = 0) : RI l yX1_write wsX1_write 8 0 0 D (tyC cI cZ) (wM h0 a0 a1 a2 a3 a4 a5 cI cZ th bf pw hs lo lg rt nb (nI fi) (nI fo) (nI en) 0 cu ma) [.ref h0, .int (nI ar), .int (nI pg)] (-1) (wM h0 a0 a1 a2 a3 a4 a5 cI cZ 0 (zf bf) (va_cpy bf pw 0 ((ar * 256 + pg) * 64) 32) (upd hs ((ar * 256 + pg) * 2) (nb + 1)) lo lg rt (nb + 1) (nI fi) (nI fo) (nI fo) 1 (dcu cu) (ma + 1)) := by
  refine st_I (cc := cX1_write) (maxL := 3) (ret := (some .int)) (by decide +kernel) rfl (Nat.le_of_ble_eq_true rfl) ?_
  intro p e s m below meth c A hx hb hr hts hown hml hlocks hK hP hD hA hS ls hl
  have hown : s.vm.findClass RX1 = some m.cls := hown
  have hl : lv_has ls 3 [(0, .ref h0), (1, .int (nI ar)), (2, .int (nI pg))] := hl
  refine lv_aload_n hx hb dX1_write_0 rfl (lv_at hl 0 rfl) ?_
  refine lv_aload_n hx hb dX1_write_1 rfl (lv_at hl 0 rfl) ?_
  refine va_get (ci := 1) (v := .int 0) (C := RX1) (T := TX1) (N := 14) hx hb hts inX1_write hown hK hP 0 rfl rfl 12 (by decide) (hts _ flX1_write_45) (fun _ h9 => h9) rfl dX1_write_2 ?_
  refine lv_iload_n hx hb dX1_write_5 rfl (lv_at hl 1 rfl) ?_
  refine lv_iload_n hx hb dX1_write_6 rfl (lv_at hl 2 rfl) ?_
  refine k_I (wr := wM h0 a0 a1 a2 a3 a4 a5 cI cZ th bf pw hs lo lg rt nb (nI fi) (nI fo) (nI en) 0 cu ma) hP hD hS hA (va_runS (As := [.int (nI ar), .int (nI pg)]) (rest := [.int 0, .ref h0]) ⟨hx, hb, hml, hown, hts⟩ ((tX1_isPage_e (nI ar) (nI pg) 1 (sp_pg_t (by omega) (by omega))) _) (va_cwS 2 hts gX1_write_X1_isPage rfl rfl rfl (by decide +kernel) ⟨Nat.le_of_ble_eq_true rfl, Nat.le_of_ble_eq_true rfl⟩) (pS_B hP hD hK [] rfl [] rfl rfl) rfl rfl hl.1 rfl (lv_room (Nat.le_of_ble_eq_true rfl)) dX1_write_7 ⟨Nat.le_of_ble_eq_true rfl, Nat.le_of_ble_eq_true rfl⟩) [] [0, 1, 2, 3, 4, 5, 6] rfl rfl rfl (by decide) (fun H locs hP hD hS => ?_)
  have hP : va_P D vwCl (wM h0 a0 a1 a2 a3 a4 a5 cI cZ th bf pw hs lo lg rt nb (nI fi) (nI fo) (nI en) 0 cu ma) H := hP
  have hD : va_D A (wM h0 a0 a1 a2 a3 a4 a5 cI cZ th bf pw hs lo lg rt nb (nI fi) (nI fo) (nI en) 0 cu ma) := hD
  refine lv_if_ne (tgt := 17) hx hb dX1_write_10 (by decide) (fun c_10 => ?_) (fun c_10 => absurd c_10 (by decide))
  refine lv_iconst (v := (0)) hx hb dX1_write_17 (by decide) ?_
  refine k_I (wr := []) hP hD hS hA (va_runV (As := [.int 0, .int 0]) (rest := []) ⟨hx, hb, hml, hown, hts⟩ ((tX1_refused_0 th bf pw hs lo lg rt nb fi fo en 0 cu ma) _) (cwV 2 hts gX1_write_X1_refused rfl rfl rfl (by decide +kernel) ⟨Nat.le_of_ble_eq_true rfl, Nat.le_of_ble_eq_true rfl⟩) (pV_B hP hD hK (ci := 1) (q0 := 0) rfl rfl rfl [0, 1] rfl [0, 1, 2, 3, 4, 5, 6] rfl rfl) rfl rfl hl.1 rfl (lv_room (Nat.le_of_ble_eq_true rfl)) dX1_write_18 ⟨Nat.le_of_ble_eq_true rfl, Nat.le_of_ble_eq_true rfl⟩) [0, 1, 2, 3, 4, 5, 6] [] rfl rfl rfl (by decide) (fun H locs hP hD hS => ?_)
  have hP : va_P D vwCl (wM h0 a0 a1 a2 a3 a4 a5 cI cZ 0 bf pw hs lo lg rt nb (nI fi) (nI fo) (nI en) 0 cu ma) H := hP
  have hD : va_D A (wM h0 a0 a1 a2 a3 a4 a5 cI cZ 0 bf pw hs lo lg rt nb (nI fi) (nI fo) (nI en) 0 cu ma) := hD
  refine lv_if_eq (tgt := 26) hx hb dX1_write_21 (by decide) (fun c_21 => ?_) (fun c_21 => absurd (by decide) c_21)
  refine lv_aload_n hx hb dX1_write_26 rfl (lv_at hl 0 rfl) ?_
  refine lv_iload_n hx hb dX1_write_27 rfl (lv_at hl 1 rfl) ?_
  refine lv_iload_n hx hb dX1_write_28 rfl (lv_at hl 2 rfl) ?_
  refine k_I (wr := wM h0 a0 a1 a2 a3 a4 a5 cI cZ 0 bf pw hs lo lg rt nb (nI fi) (nI fo) (nI en) 0 cu ma) hP hD hS hA (va_runS (As := [.int (nI ar), .int (nI pg)]) (rest := [.ref h0]) ⟨hx, hb, hml, hown, hts⟩ ((tX1_place ar pg) _) (va_cwS 2 hts gX1_write_X1_place rfl rfl rfl (by decide +kernel) ⟨Nat.le_of_ble_eq_true rfl, Nat.le_of_ble_eq_true rfl⟩) (pS_B hP hD hK [] rfl [] rfl rfl) rfl rfl hl.1 rfl (lv_room (Nat.le_of_ble_eq_true rfl)) dX1_write_29 ⟨Nat.le_of_ble_eq_true rfl, Nat.le_of_ble_eq_true rfl⟩) [] [0, 1, 2, 3, 4, 5, 6] rfl rfl rfl (by decide) (fun H locs hP hD hS => ?_)
  have hP : va_P D vwCl (wM h0 a0 a1 a2 a3 a4 a5 cI cZ 0 bf pw hs lo lg rt nb (nI fi) (nI fo) (nI en) 0 cu ma) H := hP
  have hD : va_D A (wM h0 a0 a1 a2 a3 a4 a5 cI cZ 0 bf pw hs lo lg rt nb (nI fi) (nI fo) (nI en) 0 cu ma) := hD
  refine lv_iconst (v := (nI 0)) hx hb dX1_write_32 (by decide) ?_
  refine lv_iconst (v := (1)) hx hb dX1_write_33 (by decide) ?_
  refine k_I (wr := []) hP hD hS hA (va_runV (As := [.int (nI (ar * 256 + pg)), .int (nI 0), .int 1]) (rest := []) ⟨hx, hb, hml, hown, hts⟩ ((tX1_writePage_b1 0 bf pw hs lo lg rt nb fi fo en 0 cu ma (ar * 256 + pg) (by omega) hn h hd) _) (cwV 3 hts gX1_write_X1_writePage rfl rfl rfl (by decide +kernel) ⟨Nat.le_of_ble_eq_true rfl, Nat.le_of_ble_eq_true rfl⟩) (pV_B hP hD hK (ci := 1) (q0 := 0) rfl rfl rfl [0, 1] rfl [0, 1, 2, 3, 4, 5, 6] rfl rfl) rfl rfl hl.1 rfl (lv_room (Nat.le_of_ble_eq_true rfl)) dX1_write_34 ⟨Nat.le_of_ble_eq_true rfl, Nat.le_of_ble_eq_true rfl⟩) [0, 1, 2, 3, 4, 5, 6] [] rfl rfl rfl (by decide) (fun H locs hP hD hS => ?_)
  have hP : va_P D vwCl (wM h0 a0 a1 a2 a3 a4 a5 cI cZ 0 (zf bf) (va_cpy bf pw 0 ((ar * 256 + pg) * 64) 32) (upd hs ((ar * 256 + pg) * 2) (nb + 1)) lo lg rt (nb + 1) (nI fi) (nI fo) (nI fo) 1 (dcu cu) (ma + 1)) H := hP
  have hD : va_D A (wM h0 a0 a1 a2 a3 a4 a5 cI cZ 0 (zf bf) (va_cpy bf pw 0 ((ar * 256 + pg) * 64) 32) (upd hs ((ar * 256 + pg) * 2) (nb + 1)) lo lg rt (nb + 1) (nI fi) (nI fo) (nI fo) 1 (dcu cu) (ma + 1)) := hD
  exact e_I hx hb hr hlocks hP hD hS rfl dX1_write_37
set_option maxHeartbeats 4000000 in
set_option maxRecDepth 100000 in
theorem tX1_write_ok2 {l : Launch} {D : va_G} {cI cZ : ClassId} {h0 a0 a1 a2 a3 a4 a5 : Nat} (th : Int32) (bf pw hs lo lg rt : Nat → Int32) (nb : Int32) (fi fo en : Nat) (cu ma : Int32) (ar pg : Nat) (h1 : ar < 2) (h2 : pg < 256) (hn : -1 ≤ cu) (h : ¬ cu = 0) (hd : ¬ dcu cu = 0) : RI l yX1_write wsX1_write 8 0 0 D (tyC cI cZ) (wM h0 a0 a1 a2 a3 a4 a5 cI cZ th bf pw hs lo lg rt nb (nI fi) (nI fo) (nI en) 0 cu ma) [.ref h0, .int (nI ar), .int (nI pg)] (nb + 1) (wM h0 a0 a1 a2 a3 a4 a5 cI cZ 0 bf (va_cpy bf (va_cpy bf pw 0 ((ar * 256 + pg) * 64) 32) 32 ((ar * 256 + pg) * 64 + 32) 32) (upd (upd hs ((ar * 256 + pg) * 2) (nb + 1)) ((ar * 256 + pg) * 2 + 1) (nb + 1)) (upd lo (ar * 256 + pg) 0) lg rt (nb + 1) (nI fi) (nI fo) (nI en) 0 (dcu (dcu cu)) (ma + 1 + 1)) := by
  refine st_I (cc := cX1_write) (maxL := 3) (ret := (some .int)) (by decide +kernel) rfl (Nat.le_of_ble_eq_true rfl) ?_
  intro p e s m below meth c A hx hb hr hts hown hml hlocks hK hP hD hA hS ls hl
  have hown : s.vm.findClass RX1 = some m.cls := hown
  have hl : lv_has ls 3 [(0, .ref h0), (1, .int (nI ar)), (2, .int (nI pg))] := hl
  refine lv_aload_n hx hb dX1_write_0 rfl (lv_at hl 0 rfl) ?_
  refine lv_aload_n hx hb dX1_write_1 rfl (lv_at hl 0 rfl) ?_
  refine va_get (ci := 1) (v := .int 0) (C := RX1) (T := TX1) (N := 14) hx hb hts inX1_write hown hK hP 0 rfl rfl 12 (by decide) (hts _ flX1_write_45) (fun _ h9 => h9) rfl dX1_write_2 ?_
  refine lv_iload_n hx hb dX1_write_5 rfl (lv_at hl 1 rfl) ?_
  refine lv_iload_n hx hb dX1_write_6 rfl (lv_at hl 2 rfl) ?_
  refine k_I (wr := wM h0 a0 a1 a2 a3 a4 a5 cI cZ th bf pw hs lo lg rt nb (nI fi) (nI fo) (nI en) 0 cu ma) hP hD hS hA (va_runS (As := [.int (nI ar), .int (nI pg)]) (rest := [.int 0, .ref h0]) ⟨hx, hb, hml, hown, hts⟩ ((tX1_isPage_e (nI ar) (nI pg) 1 (sp_pg_t (by omega) (by omega))) _) (va_cwS 2 hts gX1_write_X1_isPage rfl rfl rfl (by decide +kernel) ⟨Nat.le_of_ble_eq_true rfl, Nat.le_of_ble_eq_true rfl⟩) (pS_B hP hD hK [] rfl [] rfl rfl) rfl rfl hl.1 rfl (lv_room (Nat.le_of_ble_eq_true rfl)) dX1_write_7 ⟨Nat.le_of_ble_eq_true rfl, Nat.le_of_ble_eq_true rfl⟩) [] [0, 1, 2, 3, 4, 5, 6] rfl rfl rfl (by decide) (fun H locs hP hD hS => ?_)
  have hP : va_P D vwCl (wM h0 a0 a1 a2 a3 a4 a5 cI cZ th bf pw hs lo lg rt nb (nI fi) (nI fo) (nI en) 0 cu ma) H := hP
  have hD : va_D A (wM h0 a0 a1 a2 a3 a4 a5 cI cZ th bf pw hs lo lg rt nb (nI fi) (nI fo) (nI en) 0 cu ma) := hD
  refine lv_if_ne (tgt := 17) hx hb dX1_write_10 (by decide) (fun c_10 => ?_) (fun c_10 => absurd c_10 (by decide))
  refine lv_iconst (v := (0)) hx hb dX1_write_17 (by decide) ?_
  refine k_I (wr := []) hP hD hS hA (va_runV (As := [.int 0, .int 0]) (rest := []) ⟨hx, hb, hml, hown, hts⟩ ((tX1_refused_0 th bf pw hs lo lg rt nb fi fo en 0 cu ma) _) (cwV 2 hts gX1_write_X1_refused rfl rfl rfl (by decide +kernel) ⟨Nat.le_of_ble_eq_true rfl, Nat.le_of_ble_eq_true rfl⟩) (pV_B hP hD hK (ci := 1) (q0 := 0) rfl rfl rfl [0, 1] rfl [0, 1, 2, 3, 4, 5, 6] rfl rfl) rfl rfl hl.1 rfl (lv_room (Nat.le_of_ble_eq_true rfl)) dX1_write_18 ⟨Nat.le_of_ble_eq_true rfl, Nat.le_of_ble_eq_true rfl⟩) [0, 1, 2, 3, 4, 5, 6] [] rfl rfl rfl (by decide) (fun H locs hP hD hS => ?_)
  have hP : va_P D vwCl (wM h0 a0 a1 a2 a3 a4 a5 cI cZ 0 bf pw hs lo lg rt nb (nI fi) (nI fo) (nI en) 0 cu ma) H := hP
  have hD : va_D A (wM h0 a0 a1 a2 a3 a4 a5 cI cZ 0 bf pw hs lo lg rt nb (nI fi) (nI fo) (nI en) 0 cu ma) := hD
  refine lv_if_eq (tgt := 26) hx hb dX1_write_21 (by decide) (fun c_21 => ?_) (fun c_21 => absurd (by decide) c_21)
  refine lv_aload_n hx hb dX1_write_26 rfl (lv_at hl 0 rfl) ?_
  refine lv_iload_n hx hb dX1_write_27 rfl (lv_at hl 1 rfl) ?_
  refine lv_iload_n hx hb dX1_write_28 rfl (lv_at hl 2 rfl) ?_
  refine k_I (wr := wM h0 a0 a1 a2 a3 a4 a5 cI cZ 0 bf pw hs lo lg rt nb (nI fi) (nI fo) (nI en) 0 cu ma) hP hD hS hA (va_runS (As := [.int (nI ar), .int (nI pg)]) (rest := [.ref h0]) ⟨hx, hb, hml, hown, hts⟩ ((tX1_place ar pg) _) (va_cwS 2 hts gX1_write_X1_place rfl rfl rfl (by decide +kernel) ⟨Nat.le_of_ble_eq_true rfl, Nat.le_of_ble_eq_true rfl⟩) (pS_B hP hD hK [] rfl [] rfl rfl) rfl rfl hl.1 rfl (lv_room (Nat.le_of_ble_eq_true rfl)) dX1_write_29 ⟨Nat.le_of_ble_eq_true rfl, Nat.le_of_ble_eq_true rfl⟩) [] [0, 1, 2, 3, 4, 5, 6] rfl rfl rfl (by decide) (fun H locs hP hD hS => ?_)
  have hP : va_P D vwCl (wM h0 a0 a1 a2 a3 a4 a5 cI cZ 0 bf pw hs lo lg rt nb (nI fi) (nI fo) (nI en) 0 cu ma) H := hP
  have hD : va_D A (wM h0 a0 a1 a2 a3 a4 a5 cI cZ 0 bf pw hs lo lg rt nb (nI fi) (nI fo) (nI en) 0 cu ma) := hD
  refine lv_iconst (v := (nI 0)) hx hb dX1_write_32 (by decide) ?_
  refine lv_iconst (v := (1)) hx hb dX1_write_33 (by decide) ?_
  refine k_I (wr := []) hP hD hS hA (va_runV (As := [.int (nI (ar * 256 + pg)), .int (nI 0), .int 1]) (rest := []) ⟨hx, hb, hml, hown, hts⟩ ((tX1_writePage_b2 0 bf pw hs lo lg rt nb fi fo en 0 cu ma (ar * 256 + pg) (by omega) hn h hd) _) (cwV 3 hts gX1_write_X1_writePage rfl rfl rfl (by decide +kernel) ⟨Nat.le_of_ble_eq_true rfl, Nat.le_of_ble_eq_true rfl⟩) (pV_B hP hD hK (ci := 1) (q0 := 0) rfl rfl rfl [0, 1] rfl [0, 1, 2, 3, 4, 5, 6] rfl rfl) rfl rfl hl.1 rfl (lv_room (Nat.le_of_ble_eq_true rfl)) dX1_write_34 ⟨Nat.le_of_ble_eq_true rfl, Nat.le_of_ble_eq_true rfl⟩) [0, 1, 2, 3, 4, 5, 6] [] rfl rfl rfl (by decide) (fun H locs hP hD hS => ?_)
  have hP : va_P D vwCl (wM h0 a0 a1 a2 a3 a4 a5 cI cZ 0 bf (va_cpy bf (va_cpy bf pw 0 ((ar * 256 + pg) * 64) 32) 32 ((ar * 256 + pg) * 64 + 32) 32) (upd (upd hs ((ar * 256 + pg) * 2) (nb + 1)) ((ar * 256 + pg) * 2 + 1) (nb + 1)) (upd lo (ar * 256 + pg) 0) lg rt (nb + 1) (nI fi) (nI fo) (nI en) 0 (dcu (dcu cu)) (ma + 1 + 1)) H := hP
  have hD : va_D A (wM h0 a0 a1 a2 a3 a4 a5 cI cZ 0 bf (va_cpy bf (va_cpy bf pw 0 ((ar * 256 + pg) * 64) 32) 32 ((ar * 256 + pg) * 64 + 32) 32) (upd (upd hs ((ar * 256 + pg) * 2) (nb + 1)) ((ar * 256 + pg) * 2 + 1) (nb + 1)) (upd lo (ar * 256 + pg) 0) lg rt (nb + 1) (nI fi) (nI fo) (nI en) 0 (dcu (dcu cu)) (ma + 1 + 1)) := hD
  exact e_I hx hb hr hlocks hP hD hS rfl dX1_write_37
set_option maxHeartbeats 4000000 in
set_option maxRecDepth 100000 in
theorem tX1_read_x0 {l : Launch} {D : va_G} {cI cZ : ClassId} {h0 a0 a1 a2 a3 a4 a5 : Nat} (th : Int32) (bf pw hs lo lg rt : Nat → Int32) (nb : Int32) (fi fo en : Nat) (cu ma : Int32) (x y : Int32) : RI l yX1_read wsX1_read 8 0 0 D (tyC cI cZ) (wM h0 a0 a1 a2 a3 a4 a5 cI cZ th bf pw hs lo lg rt nb (nI fi) (nI fo) (nI en) 1 cu ma) [.ref h0, .int x, .int y] 0 (wM h0 a0 a1 a2 a3 a4 a5 cI cZ 1 bf pw hs lo lg rt nb (nI fi) (nI fo) (nI en) 1 cu ma) := by
  refine st_I (cc := cX1_read) (maxL := 5) (ret := (some .int)) (by decide +kernel) rfl (Nat.le_of_ble_eq_true rfl) ?_
  intro p e s m below meth c A hx hb hr hts hown hml hlocks hK hP hD hA hS ls hl
  have hown : s.vm.findClass RX1 = some m.cls := hown
  have hl : lv_has ls 5 [(0, .ref h0), (1, .int x), (2, .int y)] := hl
  refine lv_aload_n hx hb dX1_read_0 rfl (lv_at hl 0 rfl) ?_
  refine lv_aload_n hx hb dX1_read_1 rfl (lv_at hl 0 rfl) ?_
  refine va_get (ci := 1) (v := .int 1) (C := RX1) (T := TX1) (N := 14) hx hb hts inX1_read hown hK hP 0 rfl rfl 12 (by decide) (hts _ flX1_read_45) (fun _ h9 => h9) rfl dX1_read_2 ?_
  refine lv_iload_n hx hb dX1_read_5 rfl (lv_at hl 1 rfl) ?_
  refine lv_iload_n hx hb dX1_read_6 rfl (lv_at hl 2 rfl) ?_
  refine k_I (wr := wM h0 a0 a1 a2 a3 a4 a5 cI cZ th bf pw hs lo lg rt nb (nI fi) (nI fo) (nI en) 1 cu ma) hP hD hS hA (va_runS (As := [.int x, .int y]) (rest := [.int 1, .ref h0]) ⟨hx, hb, hml, hown, hts⟩ ((tX1_isPage_e x y (sp_pg x y) rfl) _) (va_cwS 2 hts gX1_read_X1_isPage rfl rfl rfl (by decide +kernel) ⟨Nat.le_of_ble_eq_true rfl, Nat.le_of_ble_eq_true rfl⟩) (pS_B hP hD hK [] rfl [] rfl rfl) rfl rfl hl.1 rfl (lv_room (Nat.le_of_ble_eq_true rfl)) dX1_read_7 ⟨Nat.le_of_ble_eq_true rfl, Nat.le_of_ble_eq_true rfl⟩) [] [0, 1, 2, 3, 4, 5, 6] rfl rfl rfl (by decide) (fun H locs hP hD hS => ?_)
  have hP : va_P D vwCl (wM h0 a0 a1 a2 a3 a4 a5 cI cZ th bf pw hs lo lg rt nb (nI fi) (nI fo) (nI en) 1 cu ma) H := hP
  have hD : va_D A (wM h0 a0 a1 a2 a3 a4 a5 cI cZ th bf pw hs lo lg rt nb (nI fi) (nI fo) (nI en) 1 cu ma) := hD
  refine lv_if_ne (tgt := 17) hx hb dX1_read_10 (by decide) (fun c_10 => ?_) (fun c_10 => ?_)
  · refine lv_iconst (v := (0)) hx hb dX1_read_17 (by decide) ?_
    refine k_I (wr := []) hP hD hS hA (va_runV (As := [.int 1, .int 0]) (rest := []) ⟨hx, hb, hml, hown, hts⟩ ((tX1_refused_1 th bf pw hs lo lg rt nb fi fo en 1 cu ma 0) _) (cwV 2 hts gX1_read_X1_refused rfl rfl rfl (by decide +kernel) ⟨Nat.le_of_ble_eq_true rfl, Nat.le_of_ble_eq_true rfl⟩) (pV_B hP hD hK (ci := 1) (q0 := 0) rfl rfl rfl [0, 1] rfl [0, 1, 2, 3, 4, 5, 6] rfl rfl) rfl rfl hl.1 rfl (lv_room (Nat.le_of_ble_eq_true rfl)) dX1_read_18 ⟨Nat.le_of_ble_eq_true rfl, Nat.le_of_ble_eq_true rfl⟩) [0, 1, 2, 3, 4, 5, 6] [] rfl rfl rfl (by decide) (fun H locs hP hD hS => ?_)
    have hP : va_P D vwCl (wM h0 a0 a1 a2 a3 a4 a5 cI cZ 1 bf pw hs lo lg rt nb (nI fi) (nI fo) (nI en) 1 cu ma) H := hP
    have hD : va_D A (wM h0 a0 a1 a2 a3 a4 a5 cI cZ 1 bf pw hs lo lg rt nb (nI fi) (nI fo) (nI en) 1 cu ma) := hD
    refine lv_if_eq (tgt := 26) hx hb dX1_read_21 (by decide) (fun c_21 => absurd c_21 (by decide)) (fun c_21 => ?_)
    refine lv_iconst (v := (0)) hx hb dX1_read_24 (by decide) ?_
    exact e_I hx hb hr hlocks hP hD hS rfl dX1_read_25
  · refine lv_iconst (v := (1)) hx hb dX1_read_13 (by decide) ?_
    refine lv_goto (tgt := 18) hx hb dX1_read_14 (by decide) ?_
    refine k_I (wr := []) hP hD hS hA (va_runV (As := [.int 1, .int 1]) (rest := []) ⟨hx, hb, hml, hown, hts⟩ ((tX1_refused_1 th bf pw hs lo lg rt nb fi fo en 1 cu ma 1) _) (cwV 2 hts gX1_read_X1_refused rfl rfl rfl (by decide +kernel) ⟨Nat.le_of_ble_eq_true rfl, Nat.le_of_ble_eq_true rfl⟩) (pV_B hP hD hK (ci := 1) (q0 := 0) rfl rfl rfl [0, 1] rfl [0, 1, 2, 3, 4, 5, 6] rfl rfl) rfl rfl hl.1 rfl (lv_room (Nat.le_of_ble_eq_true rfl)) dX1_read_18 ⟨Nat.le_of_ble_eq_true rfl, Nat.le_of_ble_eq_true rfl⟩) [0, 1, 2, 3, 4, 5, 6] [] rfl rfl rfl (by decide) (fun H locs hP hD hS => ?_)
    have hP : va_P D vwCl (wM h0 a0 a1 a2 a3 a4 a5 cI cZ 1 bf pw hs lo lg rt nb (nI fi) (nI fo) (nI en) 1 cu ma) H := hP
    have hD : va_D A (wM h0 a0 a1 a2 a3 a4 a5 cI cZ 1 bf pw hs lo lg rt nb (nI fi) (nI fo) (nI en) 1 cu ma) := hD
    refine lv_if_eq (tgt := 26) hx hb dX1_read_21 (by decide) (fun c_21 => absurd c_21 (by decide)) (fun c_21 => ?_)
    refine lv_iconst (v := (0)) hx hb dX1_read_24 (by decide) ?_
    exact e_I hx hb hr hlocks hP hD hS rfl dX1_read_25
set_option maxHeartbeats 4000000 in
set_option maxRecDepth 100000 in
theorem tX1_read_xb {l : Launch} {D : va_G} {cI cZ : ClassId} {h0 a0 a1 a2 a3 a4 a5 : Nat} (th : Int32) (bf pw hs lo lg rt : Nat → Int32) (nb : Int32) (fi fo en : Nat) (cu ma : Int32) (x y : Int32) (h : badP x y) : RI l yX1_read wsX1_read 8 0 0 D (tyC cI cZ) (wM h0 a0 a1 a2 a3 a4 a5 cI cZ th bf pw hs lo lg rt nb (nI fi) (nI fo) (nI en) 0 cu ma) [.ref h0, .int x, .int y] 0 (wM h0 a0 a1 a2 a3 a4 a5 cI cZ 2 bf pw hs lo lg rt nb (nI fi) (nI fo) (nI en) 0 cu ma) := by
  refine st_I (cc := cX1_read) (maxL := 5) (ret := (some .int)) (by decide +kernel) rfl (Nat.le_of_ble_eq_true rfl) ?_
  intro p e s m below meth c A hx hb hr hts hown hml hlocks hK hP hD hA hS ls hl
  have hown : s.vm.findClass RX1 = some m.cls := hown
  have hl : lv_has ls 5 [(0, .ref h0), (1, .int x), (2, .int y)] := hl
  refine lv_aload_n hx hb dX1_read_0 rfl (lv_at hl 0 rfl) ?_
  refine lv_aload_n hx hb dX1_read_1 rfl (lv_at hl 0 rfl) ?_
  refine va_get (ci := 1) (v := .int 0) (C := RX1) (T := TX1) (N := 14) hx hb hts inX1_read hown hK hP 0 rfl rfl 12 (by decide) (hts _ flX1_read_45) (fun _ h9 => h9) rfl dX1_read_2 ?_
  refine lv_iload_n hx hb dX1_read_5 rfl (lv_at hl 1 rfl) ?_
  refine lv_iload_n hx hb dX1_read_6 rfl (lv_at hl 2 rfl) ?_
  refine k_I (wr := wM h0 a0 a1 a2 a3 a4 a5 cI cZ th bf pw hs lo lg rt nb (nI fi) (nI fo) (nI en) 0 cu ma) hP hD hS hA (va_runS (As := [.int x, .int y]) (rest := [.int 0, .ref h0]) ⟨hx, hb, hml, hown, hts⟩ ((tX1_isPage_e x y 0 (sp_pg_f h)) _) (va_cwS 2 hts gX1_read_X1_isPage rfl rfl rfl (by decide +kernel) ⟨Nat.le_of_ble_eq_true rfl, Nat.le_of_ble_eq_true rfl⟩) (pS_B hP hD hK [] rfl [] rfl rfl) rfl rfl hl.1 rfl (lv_room (Nat.le_of_ble_eq_true rfl)) dX1_read_7 ⟨Nat.le_of_ble_eq_true rfl, Nat.le_of_ble_eq_true rfl⟩) [] [0, 1, 2, 3, 4, 5, 6] rfl rfl rfl (by decide) (fun H locs hP hD hS => ?_)
  have hP : va_P D vwCl (wM h0 a0 a1 a2 a3 a4 a5 cI cZ th bf pw hs lo lg rt nb (nI fi) (nI fo) (nI en) 0 cu ma) H := hP
  have hD : va_D A (wM h0 a0 a1 a2 a3 a4 a5 cI cZ th bf pw hs lo lg rt nb (nI fi) (nI fo) (nI en) 0 cu ma) := hD
  refine lv_if_ne (tgt := 17) hx hb dX1_read_10 (by decide) (fun c_10 => absurd (by decide) c_10) (fun c_10 => ?_)
  refine lv_iconst (v := (1)) hx hb dX1_read_13 (by decide) ?_
  refine lv_goto (tgt := 18) hx hb dX1_read_14 (by decide) ?_
  refine k_I (wr := []) hP hD hS hA (va_runV (As := [.int 0, .int 1]) (rest := []) ⟨hx, hb, hml, hown, hts⟩ ((tX1_refused_2 th bf pw hs lo lg rt nb fi fo en 0 cu ma) _) (cwV 2 hts gX1_read_X1_refused rfl rfl rfl (by decide +kernel) ⟨Nat.le_of_ble_eq_true rfl, Nat.le_of_ble_eq_true rfl⟩) (pV_B hP hD hK (ci := 1) (q0 := 0) rfl rfl rfl [0, 1] rfl [0, 1, 2, 3, 4, 5, 6] rfl rfl) rfl rfl hl.1 rfl (lv_room (Nat.le_of_ble_eq_true rfl)) dX1_read_18 ⟨Nat.le_of_ble_eq_true rfl, Nat.le_of_ble_eq_true rfl⟩) [0, 1, 2, 3, 4, 5, 6] [] rfl rfl rfl (by decide) (fun H locs hP hD hS => ?_)
  have hP : va_P D vwCl (wM h0 a0 a1 a2 a3 a4 a5 cI cZ 2 bf pw hs lo lg rt nb (nI fi) (nI fo) (nI en) 0 cu ma) H := hP
  have hD : va_D A (wM h0 a0 a1 a2 a3 a4 a5 cI cZ 2 bf pw hs lo lg rt nb (nI fi) (nI fo) (nI en) 0 cu ma) := hD
  refine lv_if_eq (tgt := 26) hx hb dX1_read_21 (by decide) (fun c_21 => absurd c_21 (by decide)) (fun c_21 => ?_)
  refine lv_iconst (v := (0)) hx hb dX1_read_24 (by decide) ?_
  exact e_I hx hb hr hlocks hP hD hS rfl dX1_read_25
set_option maxHeartbeats 4000000 in
set_option maxRecDepth 100000 in
theorem tX1_read_okl {l : Launch} {D : va_G} {cI cZ : ClassId} {h0 a0 a1 a2 a3 a4 a5 : Nat} (th : Int32) (bf pw hs lo lg rt : Nat → Int32) (nb : Int32) (fi fo en : Nat) (cu ma : Int32) (ar pg : Nat) (h1 : ar < 2) (h2 : pg < 256) (h : ¬ lo (ar * 256 + pg) = 0) : RI l yX1_read wsX1_read 8 0 0 D (tyC cI cZ) (wM h0 a0 a1 a2 a3 a4 a5 cI cZ th bf pw hs lo lg rt nb (nI fi) (nI fo) (nI en) 0 cu ma) [.ref h0, .int (nI ar), .int (nI pg)] (sp_ps lo hs (ar * 256 + pg)) (wM h0 a0 a1 a2 a3 a4 a5 cI cZ 0 (zf bf) pw hs lo lg rt nb (nI fi) (nI fo) (nI en) 0 cu ma) := by
  refine st_I (cc := cX1_read) (maxL := 5) (ret := (some .int)) (by decide +kernel) rfl (Nat.le_of_ble_eq_true rfl) ?_
  intro p e s m below meth c A hx hb hr hts hown hml hlocks hK hP hD hA hS ls hl
  have hown : s.vm.findClass RX1 = some m.cls := hown
  have hl : lv_has ls 5 [(0, .ref h0), (1, .int (nI ar)), (2, .int (nI pg))] := hl
  refine lv_aload_n hx hb dX1_read_0 rfl (lv_at hl 0 rfl) ?_
  refine lv_aload_n hx hb dX1_read_1 rfl (lv_at hl 0 rfl) ?_
  refine va_get (ci := 1) (v := .int 0) (C := RX1) (T := TX1) (N := 14) hx hb hts inX1_read hown hK hP 0 rfl rfl 12 (by decide) (hts _ flX1_read_45) (fun _ h9 => h9) rfl dX1_read_2 ?_
  refine lv_iload_n hx hb dX1_read_5 rfl (lv_at hl 1 rfl) ?_
  refine lv_iload_n hx hb dX1_read_6 rfl (lv_at hl 2 rfl) ?_
  refine k_I (wr := wM h0 a0 a1 a2 a3 a4 a5 cI cZ th bf pw hs lo lg rt nb (nI fi) (nI fo) (nI en) 0 cu ma) hP hD hS hA (va_runS (As := [.int (nI ar), .int (nI pg)]) (rest := [.int 0, .ref h0]) ⟨hx, hb, hml, hown, hts⟩ ((tX1_isPage_e (nI ar) (nI pg) 1 (sp_pg_t (by omega) (by omega))) _) (va_cwS 2 hts gX1_read_X1_isPage rfl rfl rfl (by decide +kernel) ⟨Nat.le_of_ble_eq_true rfl, Nat.le_of_ble_eq_true rfl⟩) (pS_B hP hD hK [] rfl [] rfl rfl) rfl rfl hl.1 rfl (lv_room (Nat.le_of_ble_eq_true rfl)) dX1_read_7 ⟨Nat.le_of_ble_eq_true rfl, Nat.le_of_ble_eq_true rfl⟩) [] [0, 1, 2, 3, 4, 5, 6] rfl rfl rfl (by decide) (fun H locs hP hD hS => ?_)
  have hP : va_P D vwCl (wM h0 a0 a1 a2 a3 a4 a5 cI cZ th bf pw hs lo lg rt nb (nI fi) (nI fo) (nI en) 0 cu ma) H := hP
  have hD : va_D A (wM h0 a0 a1 a2 a3 a4 a5 cI cZ th bf pw hs lo lg rt nb (nI fi) (nI fo) (nI en) 0 cu ma) := hD
  refine lv_if_ne (tgt := 17) hx hb dX1_read_10 (by decide) (fun c_10 => ?_) (fun c_10 => absurd c_10 (by decide))
  refine lv_iconst (v := (0)) hx hb dX1_read_17 (by decide) ?_
  refine k_I (wr := []) hP hD hS hA (va_runV (As := [.int 0, .int 0]) (rest := []) ⟨hx, hb, hml, hown, hts⟩ ((tX1_refused_0 th bf pw hs lo lg rt nb fi fo en 0 cu ma) _) (cwV 2 hts gX1_read_X1_refused rfl rfl rfl (by decide +kernel) ⟨Nat.le_of_ble_eq_true rfl, Nat.le_of_ble_eq_true rfl⟩) (pV_B hP hD hK (ci := 1) (q0 := 0) rfl rfl rfl [0, 1] rfl [0, 1, 2, 3, 4, 5, 6] rfl rfl) rfl rfl hl.1 rfl (lv_room (Nat.le_of_ble_eq_true rfl)) dX1_read_18 ⟨Nat.le_of_ble_eq_true rfl, Nat.le_of_ble_eq_true rfl⟩) [0, 1, 2, 3, 4, 5, 6] [] rfl rfl rfl (by decide) (fun H locs hP hD hS => ?_)
  have hP : va_P D vwCl (wM h0 a0 a1 a2 a3 a4 a5 cI cZ 0 bf pw hs lo lg rt nb (nI fi) (nI fo) (nI en) 0 cu ma) H := hP
  have hD : va_D A (wM h0 a0 a1 a2 a3 a4 a5 cI cZ 0 bf pw hs lo lg rt nb (nI fi) (nI fo) (nI en) 0 cu ma) := hD
  refine lv_if_eq (tgt := 26) hx hb dX1_read_21 (by decide) (fun c_21 => ?_) (fun c_21 => absurd (by decide) c_21)
  refine lv_iload_n hx hb dX1_read_26 rfl (lv_at hl 1 rfl) ?_
  refine lv_iload_n hx hb dX1_read_27 rfl (lv_at hl 2 rfl) ?_
  refine k_I (wr := wM h0 a0 a1 a2 a3 a4 a5 cI cZ 0 bf pw hs lo lg rt nb (nI fi) (nI fo) (nI en) 0 cu ma) hP hD hS hA (va_runS (As := [.int (nI ar), .int (nI pg)]) (rest := []) ⟨hx, hb, hml, hown, hts⟩ ((tX1_place ar pg) _) (va_cwS 2 hts gX1_read_X1_place rfl rfl rfl (by decide +kernel) ⟨Nat.le_of_ble_eq_true rfl, Nat.le_of_ble_eq_true rfl⟩) (pS_B hP hD hK [] rfl [] rfl rfl) rfl rfl hl.1 rfl (lv_room (Nat.le_of_ble_eq_true rfl)) dX1_read_28 ⟨Nat.le_of_ble_eq_true rfl, Nat.le_of_ble_eq_true rfl⟩) [] [0, 1, 2, 3, 4, 5, 6] rfl rfl rfl (by decide) (fun H locs hP hD hS => ?_)
  have hP : va_P D vwCl (wM h0 a0 a1 a2 a3 a4 a5 cI cZ 0 bf pw hs lo lg rt nb (nI fi) (nI fo) (nI en) 0 cu ma) H := hP
  have hD : va_D A (wM h0 a0 a1 a2 a3 a4 a5 cI cZ 0 bf pw hs lo lg rt nb (nI fi) (nI fo) (nI en) 0 cu ma) := hD
  refine lv_istore_n (lv' := [(3, .int (nI (ar * 256 + pg))), (0, .ref h0), (1, .int (nI ar)), (2, .int (nI pg))]) hx hb dX1_read_31 rfl hl (by decide) rfl (fun ls hl => ?_)
  refine lv_iconst (v := (nI 0)) hx hb dX1_read_32 (by decide) ?_
  refine lv_istore (lv' := [(4, .int (nI 0)), (3, .int (nI (ar * 256 + pg))), (0, .ref h0), (1, .int (nI ar)), (2, .int (nI pg))]) hx hb dX1_read_33 hl (by decide) rfl (fun ls hl => ?_)
  have lp_35 : ∀ (n9 i : Nat), i + n9 = 64 → ∀ (H : Heap) (locs : List Loc) (ls : Array Slot), va_P D vwCl (wM h0 a0 a1 a2 a3 a4 a5 cI cZ 0 (fl (fun _ => 0) i bf) pw hs lo lg rt nb (nI fi) (nI fo) (nI en) 0 cu ma) H → va_D A (wM h0 a0 a1 a2 a3 a4 a5 cI cZ 0 (fl (fun _ => 0) i bf) pw hs lo lg rt nb (nI fi) (nI fo) (nI en) 0 cu ma) → va_S A s.heap H locs → lv_has ls 5 [(0, .ref h0), (1, .int (nI ar)), (2, .int (nI pg)), (3, .int (nI (ar * 256 + pg))), (4, .int (nI i))] → W p l e (rmL 8 0 0) s m ([.ref h0, .int (nI ar), .int (nI pg)] : List Value).toArray below meth c H locs 0 0 (MQ below (qcI D A (sp_ps lo hs (ar * 256 + pg)) (wM h0 a0 a1 a2 a3 a4 a5 cI cZ 0 (zf bf) pw hs lo lg rt nb (nI fi) (nI fo) (nI en) 0 cu ma)) ([.ref h0, .int (nI ar), .int (nI pg)] : List Value).toArray s 0 0 A) (F0 m 35 ls []) := by
    intro n9
    induction n9 with
    | zero =>
      intro i hi H locs ls hP hD hS hl
      obtain rfl : i = 64 := by omega
      refine lv_iload hx hb dX1_read_35 (lv_at hl 4 rfl) ?_
      refine lv_bipush (v := (nI 64)) hx hb dX1_read_37 (by decide) ?_
      refine n_ge (tgt := 80) hx hb (by omega) (by omega) dX1_read_39 (by decide) (fun c_39 => ?_) (fun c_39 => absurd c_39 (by omega))
      refine lv_aload_n hx hb dX1_read_80 rfl (lv_at hl 0 rfl) ?_
      refine lv_iload_n hx hb dX1_read_81 rfl (lv_at hl 3 rfl) ?_
      refine k_I (wr := []) hP hD hS hA (va_runV (As := [.int (nI (ar * 256 + pg))]) (rest := []) ⟨hx, hb, hml, hown, hts⟩ ((tX1_stateOf 0 (fl (fun _ => 0) 64 bf) pw hs lo lg rt nb fi fo en 0 cu ma (ar * 256 + pg) (by omega)) _) (cwV 1 hts gX1_read_X1_stateOf rfl rfl rfl (by decide +kernel) ⟨Nat.le_of_ble_eq_true rfl, Nat.le_of_ble_eq_true rfl⟩) (pV_B hP hD hK (ci := 1) (q0 := 0) rfl rfl rfl [0, 1] rfl [0, 1, 2, 3, 4, 5, 6] rfl rfl) rfl rfl hl.1 rfl (lv_room (Nat.le_of_ble_eq_true rfl)) dX1_read_82 ⟨Nat.le_of_ble_eq_true rfl, Nat.le_of_ble_eq_true rfl⟩) [0, 1, 2, 3, 4, 5, 6] [] rfl rfl rfl (by decide) (fun H locs hP hD hS => ?_)
      have hP : va_P D vwCl (wM h0 a0 a1 a2 a3 a4 a5 cI cZ 0 (fl (fun _ => 0) 64 bf) pw hs lo lg rt nb (nI fi) (nI fo) (nI en) 0 cu ma) H := hP
      have hD : va_D A (wM h0 a0 a1 a2 a3 a4 a5 cI cZ 0 (fl (fun _ => 0) 64 bf) pw hs lo lg rt nb (nI fi) (nI fo) (nI en) 0 cu ma) := hD
      exact e_I hx hb hr hlocks hP hD hS rfl dX1_read_85
    | succ n9 ih =>
      intro i hi H locs ls hP hD hS hl
      refine lv_iload hx hb dX1_read_35 (lv_at hl 4 rfl) ?_
      refine lv_bipush (v := (nI 64)) hx hb dX1_read_37 (by decide) ?_
      refine n_ge (tgt := 80) hx hb (by omega) (by omega) dX1_read_39 (by decide) (fun c_39 => absurd c_39 (by omega)) (fun c_39 => ?_)
      refine lv_aload_n hx hb dX1_read_42 rfl (lv_at hl 0 rfl) ?_
      refine va_get (ci := 1) (v := .ref a0) (C := RX1) (T := TX1) (N := 14) hx hb hts inX1_read hown hK hP 0 rfl rfl 6 (by decide) (hts _ flX1_read_28) (fun _ h9 => h9) rfl dX1_read_43 ?_
      refine lv_iload hx hb dX1_read_46 (lv_at hl 4 rfl) ?_
      refine lv_aload_n hx hb dX1_read_48 rfl (lv_at hl 0 rfl) ?_
      refine va_get (ci := 1) (v := .ref a3) (C := RX1) (T := TX1) (N := 14) hx hb hts inX1_read hown hK hP 0 rfl rfl 3 (by decide) (hts _ flX1_read_17) (fun _ h9 => h9) rfl dX1_read_49 ?_
      refine lv_iload_n hx hb dX1_read_52 rfl (lv_at hl 3 rfl) ?_
      refine n_zald hx hb hK hP 4 1 rfl rfl (ar * 256 + pg) (by omega) (by omega) dX1_read_53 ?_
      refine lv_if_eq (tgt := 61) hx hb dX1_read_54 (by decide) (fun c_54 => absurd c_54 (h)) (fun c_54 => ?_)
      refine lv_iconst (v := (0)) hx hb dX1_read_57 (by decide) ?_
      refine lv_goto (tgt := 73) hx hb dX1_read_58 (by decide) ?_
      refine n_iast hx hb hK hP hD hS 1 0 rfl rfl i (by omega) (by omega) dX1_read_73 (fun H locs hP hD hS => ?_)
      have hP : va_P D vwCl (wM h0 a0 a1 a2 a3 a4 a5 cI cZ 0 (upd (fl (fun _ => 0) i bf) i 0) pw hs lo lg rt nb (nI fi) (nI fo) (nI en) 0 cu ma) H := hP
      have hD : va_D A (wM h0 a0 a1 a2 a3 a4 a5 cI cZ 0 (upd (fl (fun _ => 0) i bf) i 0) pw hs lo lg rt nb (nI fi) (nI fo) (nI en) 0 cu ma) := hD
      refine n_iinc (lv' := [(4, .int (nI (i + 1))), (0, .ref h0), (1, .int (nI ar)), (2, .int (nI pg)), (3, .int (nI (ar * 256 + pg)))]) hx hb dX1_read_74 hl (k := 4) rfl (by decide) rfl (fun ls hl => ?_)
      refine lv_goto (tgt := 35) hx hb dX1_read_77 (by decide) ?_
      have hP : va_P D vwCl (wM h0 a0 a1 a2 a3 a4 a5 cI cZ 0 (fl (fun _ => 0) (i + 1) bf) pw hs lo lg rt nb (nI fi) (nI fo) (nI en) 0 cu ma) H := by rw [← fl_s]; exact hP
      have hD : va_D A (wM h0 a0 a1 a2 a3 a4 a5 cI cZ 0 (fl (fun _ => 0) (i + 1) bf) pw hs lo lg rt nb (nI fi) (nI fo) (nI en) 0 cu ma) := by rw [← fl_s]; exact hD
      exact ih (i + 1) (by omega) _ _ _ hP hD hS (lv_sub hl [1, 2, 3, 4, 0] rfl)
  have hP : va_P D vwCl (wM h0 a0 a1 a2 a3 a4 a5 cI cZ 0 (fl (fun _ => 0) 0 bf) pw hs lo lg rt nb (nI fi) (nI fo) (nI en) 0 cu ma) H := by rw [fl_0]; exact hP
  have hD : va_D A (wM h0 a0 a1 a2 a3 a4 a5 cI cZ 0 (fl (fun _ => 0) 0 bf) pw hs lo lg rt nb (nI fi) (nI fo) (nI en) 0 cu ma) := by rw [fl_0]; exact hD
  exact lp_35 64 0 (by omega) _ _ _ hP hD hS (lv_sub hl [2, 3, 4, 1, 0] rfl)
set_option maxHeartbeats 4000000 in
set_option maxRecDepth 100000 in
theorem tX1_read_okn {l : Launch} {D : va_G} {cI cZ : ClassId} {h0 a0 a1 a2 a3 a4 a5 : Nat} (th : Int32) (bf pw hs lo lg rt : Nat → Int32) (nb : Int32) (fi fo en : Nat) (cu ma : Int32) (ar pg : Nat) (h1 : ar < 2) (h2 : pg < 256) (h : lo (ar * 256 + pg) = 0) : RI l yX1_read wsX1_read 8 0 0 D (tyC cI cZ) (wM h0 a0 a1 a2 a3 a4 a5 cI cZ th bf pw hs lo lg rt nb (nI fi) (nI fo) (nI en) 0 cu ma) [.ref h0, .int (nI ar), .int (nI pg)] (sp_ps lo hs (ar * 256 + pg)) (wM h0 a0 a1 a2 a3 a4 a5 cI cZ 0 (fl (fun j => pw ((ar * 256 + pg) * 64 + j)) 64 bf) pw hs lo lg rt nb (nI fi) (nI fo) (nI en) 0 cu ma) := by
  refine st_I (cc := cX1_read) (maxL := 5) (ret := (some .int)) (by decide +kernel) rfl (Nat.le_of_ble_eq_true rfl) ?_
  intro p e s m below meth c A hx hb hr hts hown hml hlocks hK hP hD hA hS ls hl
  have hown : s.vm.findClass RX1 = some m.cls := hown
  have hl : lv_has ls 5 [(0, .ref h0), (1, .int (nI ar)), (2, .int (nI pg))] := hl
  refine lv_aload_n hx hb dX1_read_0 rfl (lv_at hl 0 rfl) ?_
  refine lv_aload_n hx hb dX1_read_1 rfl (lv_at hl 0 rfl) ?_
  refine va_get (ci := 1) (v := .int 0) (C := RX1) (T := TX1) (N := 14) hx hb hts inX1_read hown hK hP 0 rfl rfl 12 (by decide) (hts _ flX1_read_45) (fun _ h9 => h9) rfl dX1_read_2 ?_
  refine lv_iload_n hx hb dX1_read_5 rfl (lv_at hl 1 rfl) ?_
  refine lv_iload_n hx hb dX1_read_6 rfl (lv_at hl 2 rfl) ?_
  refine k_I (wr := wM h0 a0 a1 a2 a3 a4 a5 cI cZ th bf pw hs lo lg rt nb (nI fi) (nI fo) (nI en) 0 cu ma) hP hD hS hA (va_runS (As := [.int (nI ar), .int (nI pg)]) (rest := [.int 0, .ref h0]) ⟨hx, hb, hml, hown, hts⟩ ((tX1_isPage_e (nI ar) (nI pg) 1 (sp_pg_t (by omega) (by omega))) _) (va_cwS 2 hts gX1_read_X1_isPage rfl rfl rfl (by decide +kernel) ⟨Nat.le_of_ble_eq_true rfl, Nat.le_of_ble_eq_true rfl⟩) (pS_B hP hD hK [] rfl [] rfl rfl) rfl rfl hl.1 rfl (lv_room (Nat.le_of_ble_eq_true rfl)) dX1_read_7 ⟨Nat.le_of_ble_eq_true rfl, Nat.le_of_ble_eq_true rfl⟩) [] [0, 1, 2, 3, 4, 5, 6] rfl rfl rfl (by decide) (fun H locs hP hD hS => ?_)
  have hP : va_P D vwCl (wM h0 a0 a1 a2 a3 a4 a5 cI cZ th bf pw hs lo lg rt nb (nI fi) (nI fo) (nI en) 0 cu ma) H := hP
  have hD : va_D A (wM h0 a0 a1 a2 a3 a4 a5 cI cZ th bf pw hs lo lg rt nb (nI fi) (nI fo) (nI en) 0 cu ma) := hD
  refine lv_if_ne (tgt := 17) hx hb dX1_read_10 (by decide) (fun c_10 => ?_) (fun c_10 => absurd c_10 (by decide))
  refine lv_iconst (v := (0)) hx hb dX1_read_17 (by decide) ?_
  refine k_I (wr := []) hP hD hS hA (va_runV (As := [.int 0, .int 0]) (rest := []) ⟨hx, hb, hml, hown, hts⟩ ((tX1_refused_0 th bf pw hs lo lg rt nb fi fo en 0 cu ma) _) (cwV 2 hts gX1_read_X1_refused rfl rfl rfl (by decide +kernel) ⟨Nat.le_of_ble_eq_true rfl, Nat.le_of_ble_eq_true rfl⟩) (pV_B hP hD hK (ci := 1) (q0 := 0) rfl rfl rfl [0, 1] rfl [0, 1, 2, 3, 4, 5, 6] rfl rfl) rfl rfl hl.1 rfl (lv_room (Nat.le_of_ble_eq_true rfl)) dX1_read_18 ⟨Nat.le_of_ble_eq_true rfl, Nat.le_of_ble_eq_true rfl⟩) [0, 1, 2, 3, 4, 5, 6] [] rfl rfl rfl (by decide) (fun H locs hP hD hS => ?_)
  have hP : va_P D vwCl (wM h0 a0 a1 a2 a3 a4 a5 cI cZ 0 bf pw hs lo lg rt nb (nI fi) (nI fo) (nI en) 0 cu ma) H := hP
  have hD : va_D A (wM h0 a0 a1 a2 a3 a4 a5 cI cZ 0 bf pw hs lo lg rt nb (nI fi) (nI fo) (nI en) 0 cu ma) := hD
  refine lv_if_eq (tgt := 26) hx hb dX1_read_21 (by decide) (fun c_21 => ?_) (fun c_21 => absurd (by decide) c_21)
  refine lv_iload_n hx hb dX1_read_26 rfl (lv_at hl 1 rfl) ?_
  refine lv_iload_n hx hb dX1_read_27 rfl (lv_at hl 2 rfl) ?_
  refine k_I (wr := wM h0 a0 a1 a2 a3 a4 a5 cI cZ 0 bf pw hs lo lg rt nb (nI fi) (nI fo) (nI en) 0 cu ma) hP hD hS hA (va_runS (As := [.int (nI ar), .int (nI pg)]) (rest := []) ⟨hx, hb, hml, hown, hts⟩ ((tX1_place ar pg) _) (va_cwS 2 hts gX1_read_X1_place rfl rfl rfl (by decide +kernel) ⟨Nat.le_of_ble_eq_true rfl, Nat.le_of_ble_eq_true rfl⟩) (pS_B hP hD hK [] rfl [] rfl rfl) rfl rfl hl.1 rfl (lv_room (Nat.le_of_ble_eq_true rfl)) dX1_read_28 ⟨Nat.le_of_ble_eq_true rfl, Nat.le_of_ble_eq_true rfl⟩) [] [0, 1, 2, 3, 4, 5, 6] rfl rfl rfl (by decide) (fun H locs hP hD hS => ?_)
  have hP : va_P D vwCl (wM h0 a0 a1 a2 a3 a4 a5 cI cZ 0 bf pw hs lo lg rt nb (nI fi) (nI fo) (nI en) 0 cu ma) H := hP
  have hD : va_D A (wM h0 a0 a1 a2 a3 a4 a5 cI cZ 0 bf pw hs lo lg rt nb (nI fi) (nI fo) (nI en) 0 cu ma) := hD
  refine lv_istore_n (lv' := [(3, .int (nI (ar * 256 + pg))), (0, .ref h0), (1, .int (nI ar)), (2, .int (nI pg))]) hx hb dX1_read_31 rfl hl (by decide) rfl (fun ls hl => ?_)
  refine lv_iconst (v := (nI 0)) hx hb dX1_read_32 (by decide) ?_
  refine lv_istore (lv' := [(4, .int (nI 0)), (3, .int (nI (ar * 256 + pg))), (0, .ref h0), (1, .int (nI ar)), (2, .int (nI pg))]) hx hb dX1_read_33 hl (by decide) rfl (fun ls hl => ?_)
  have lp_35 : ∀ (n9 i : Nat), i + n9 = 64 → ∀ (H : Heap) (locs : List Loc) (ls : Array Slot), va_P D vwCl (wM h0 a0 a1 a2 a3 a4 a5 cI cZ 0 (fl (fun j => pw ((ar * 256 + pg) * 64 + j)) i bf) pw hs lo lg rt nb (nI fi) (nI fo) (nI en) 0 cu ma) H → va_D A (wM h0 a0 a1 a2 a3 a4 a5 cI cZ 0 (fl (fun j => pw ((ar * 256 + pg) * 64 + j)) i bf) pw hs lo lg rt nb (nI fi) (nI fo) (nI en) 0 cu ma) → va_S A s.heap H locs → lv_has ls 5 [(0, .ref h0), (1, .int (nI ar)), (2, .int (nI pg)), (3, .int (nI (ar * 256 + pg))), (4, .int (nI i))] → W p l e (rmL 8 0 0) s m ([.ref h0, .int (nI ar), .int (nI pg)] : List Value).toArray below meth c H locs 0 0 (MQ below (qcI D A (sp_ps lo hs (ar * 256 + pg)) (wM h0 a0 a1 a2 a3 a4 a5 cI cZ 0 (fl (fun j => pw ((ar * 256 + pg) * 64 + j)) 64 bf) pw hs lo lg rt nb (nI fi) (nI fo) (nI en) 0 cu ma)) ([.ref h0, .int (nI ar), .int (nI pg)] : List Value).toArray s 0 0 A) (F0 m 35 ls []) := by
    intro n9
    induction n9 with
    | zero =>
      intro i hi H locs ls hP hD hS hl
      obtain rfl : i = 64 := by omega
      refine lv_iload hx hb dX1_read_35 (lv_at hl 4 rfl) ?_
      refine lv_bipush (v := (nI 64)) hx hb dX1_read_37 (by decide) ?_
      refine n_ge (tgt := 80) hx hb (by omega) (by omega) dX1_read_39 (by decide) (fun c_39 => ?_) (fun c_39 => absurd c_39 (by omega))
      refine lv_aload_n hx hb dX1_read_80 rfl (lv_at hl 0 rfl) ?_
      refine lv_iload_n hx hb dX1_read_81 rfl (lv_at hl 3 rfl) ?_
      refine k_I (wr := []) hP hD hS hA (va_runV (As := [.int (nI (ar * 256 + pg))]) (rest := []) ⟨hx, hb, hml, hown, hts⟩ ((tX1_stateOf 0 (fl (fun j => pw ((ar * 256 + pg) * 64 + j)) 64 bf) pw hs lo lg rt nb fi fo en 0 cu ma (ar * 256 + pg) (by omega)) _) (cwV 1 hts gX1_read_X1_stateOf rfl rfl rfl (by decide +kernel) ⟨Nat.le_of_ble_eq_true rfl, Nat.le_of_ble_eq_true rfl⟩) (pV_B hP hD hK (ci := 1) (q0 := 0) rfl rfl rfl [0, 1] rfl [0, 1, 2, 3, 4, 5, 6] rfl rfl) rfl rfl hl.1 rfl (lv_room (Nat.le_of_ble_eq_true rfl)) dX1_read_82 ⟨Nat.le_of_ble_eq_true rfl, Nat.le_of_ble_eq_true rfl⟩) [0, 1, 2, 3, 4, 5, 6] [] rfl rfl rfl (by decide) (fun H locs hP hD hS => ?_)
      have hP : va_P D vwCl (wM h0 a0 a1 a2 a3 a4 a5 cI cZ 0 (fl (fun j => pw ((ar * 256 + pg) * 64 + j)) 64 bf) pw hs lo lg rt nb (nI fi) (nI fo) (nI en) 0 cu ma) H := hP
      have hD : va_D A (wM h0 a0 a1 a2 a3 a4 a5 cI cZ 0 (fl (fun j => pw ((ar * 256 + pg) * 64 + j)) 64 bf) pw hs lo lg rt nb (nI fi) (nI fo) (nI en) 0 cu ma) := hD
      exact e_I hx hb hr hlocks hP hD hS rfl dX1_read_85
    | succ n9 ih =>
      intro i hi H locs ls hP hD hS hl
      refine lv_iload hx hb dX1_read_35 (lv_at hl 4 rfl) ?_
      refine lv_bipush (v := (nI 64)) hx hb dX1_read_37 (by decide) ?_
      refine n_ge (tgt := 80) hx hb (by omega) (by omega) dX1_read_39 (by decide) (fun c_39 => absurd c_39 (by omega)) (fun c_39 => ?_)
      refine lv_aload_n hx hb dX1_read_42 rfl (lv_at hl 0 rfl) ?_
      refine va_get (ci := 1) (v := .ref a0) (C := RX1) (T := TX1) (N := 14) hx hb hts inX1_read hown hK hP 0 rfl rfl 6 (by decide) (hts _ flX1_read_28) (fun _ h9 => h9) rfl dX1_read_43 ?_
      refine lv_iload hx hb dX1_read_46 (lv_at hl 4 rfl) ?_
      refine lv_aload_n hx hb dX1_read_48 rfl (lv_at hl 0 rfl) ?_
      refine va_get (ci := 1) (v := .ref a3) (C := RX1) (T := TX1) (N := 14) hx hb hts inX1_read hown hK hP 0 rfl rfl 3 (by decide) (hts _ flX1_read_17) (fun _ h9 => h9) rfl dX1_read_49 ?_
      refine lv_iload_n hx hb dX1_read_52 rfl (lv_at hl 3 rfl) ?_
      refine n_zald hx hb hK hP 4 1 rfl rfl (ar * 256 + pg) (by omega) (by omega) dX1_read_53 ?_
      refine lv_if_eq (tgt := 61) hx hb dX1_read_54 (by decide) (fun c_54 => ?_) (fun c_54 => absurd (h) c_54)
      refine lv_aload_n hx hb dX1_read_61 rfl (lv_at hl 0 rfl) ?_
      refine va_get (ci := 1) (v := .ref a1) (C := RX1) (T := TX1) (N := 14) hx hb hts inX1_read hown hK hP 0 rfl rfl 1 (by decide) (hts _ flX1_read_8) (fun _ h9 => h9) rfl dX1_read_62 ?_
      refine lv_bipush (v := (nI 64)) hx hb dX1_read_65 (by decide) ?_
      refine lv_iload_n hx hb dX1_read_67 rfl (lv_at hl 3 rfl) ?_
      refine n_imulc hx hb dX1_read_68 ?_
      refine lv_iload hx hb dX1_read_69 (lv_at hl 4 rfl) ?_
      refine n_iadd hx hb dX1_read_71 ?_
      refine n_iald hx hb hK hP 2 0 rfl rfl (((ar * 256 + pg) * 64) + i) (by omega) (by omega) dX1_read_72 ?_
      refine n_iast hx hb hK hP hD hS 1 0 rfl rfl i (by omega) (by omega) dX1_read_73 (fun H locs hP hD hS => ?_)
      have hP : va_P D vwCl (wM h0 a0 a1 a2 a3 a4 a5 cI cZ 0 (upd (fl (fun j => pw ((ar * 256 + pg) * 64 + j)) i bf) i (pw (((ar * 256 + pg) * 64) + i))) pw hs lo lg rt nb (nI fi) (nI fo) (nI en) 0 cu ma) H := hP
      have hD : va_D A (wM h0 a0 a1 a2 a3 a4 a5 cI cZ 0 (upd (fl (fun j => pw ((ar * 256 + pg) * 64 + j)) i bf) i (pw (((ar * 256 + pg) * 64) + i))) pw hs lo lg rt nb (nI fi) (nI fo) (nI en) 0 cu ma) := hD
      refine n_iinc (lv' := [(4, .int (nI (i + 1))), (0, .ref h0), (1, .int (nI ar)), (2, .int (nI pg)), (3, .int (nI (ar * 256 + pg)))]) hx hb dX1_read_74 hl (k := 4) rfl (by decide) rfl (fun ls hl => ?_)
      refine lv_goto (tgt := 35) hx hb dX1_read_77 (by decide) ?_
      have hP : va_P D vwCl (wM h0 a0 a1 a2 a3 a4 a5 cI cZ 0 (fl (fun j => pw ((ar * 256 + pg) * 64 + j)) (i + 1) bf) pw hs lo lg rt nb (nI fi) (nI fo) (nI en) 0 cu ma) H := by rw [← fl_s]; exact hP
      have hD : va_D A (wM h0 a0 a1 a2 a3 a4 a5 cI cZ 0 (fl (fun j => pw ((ar * 256 + pg) * 64 + j)) (i + 1) bf) pw hs lo lg rt nb (nI fi) (nI fo) (nI en) 0 cu ma) := by rw [← fl_s]; exact hD
      exact ih (i + 1) (by omega) _ _ _ hP hD hS (lv_sub hl [1, 2, 3, 4, 0] rfl)
  have hP : va_P D vwCl (wM h0 a0 a1 a2 a3 a4 a5 cI cZ 0 (fl (fun j => pw ((ar * 256 + pg) * 64 + j)) 0 bf) pw hs lo lg rt nb (nI fi) (nI fo) (nI en) 0 cu ma) H := by rw [fl_0]; exact hP
  have hD : va_D A (wM h0 a0 a1 a2 a3 a4 a5 cI cZ 0 (fl (fun j => pw ((ar * 256 + pg) * 64 + j)) 0 bf) pw hs lo lg rt nb (nI fi) (nI fo) (nI en) 0 cu ma) := by rw [fl_0]; exact hD
  exact lp_35 64 0 (by omega) _ _ _ hP hD hS (lv_sub hl [2, 3, 4, 1, 0] rfl)
set_option maxHeartbeats 4000000 in
set_option maxRecDepth 100000 in
theorem tX1_copy_x0 {l : Launch} {D : va_G} {cI cZ : ClassId} {h0 a0 a1 a2 a3 a4 a5 : Nat} (th : Int32) (bf pw hs lo lg rt : Nat → Int32) (nb : Int32) (fi fo en : Nat) (cu ma : Int32) (x y : Int32) : RI l yX1_copy wsX1_copy 8 0 0 D (tyC cI cZ) (wM h0 a0 a1 a2 a3 a4 a5 cI cZ th bf pw hs lo lg rt nb (nI fi) (nI fo) (nI en) 1 cu ma) [.ref h0, .int x, .int y] 0 (wM h0 a0 a1 a2 a3 a4 a5 cI cZ 1 bf pw hs lo lg rt nb (nI fi) (nI fo) (nI en) 1 cu ma) := by
  refine st_I (cc := cX1_copy) (maxL := 5) (ret := (some .int)) (by decide +kernel) rfl (Nat.le_of_ble_eq_true rfl) ?_
  intro p e s m below meth c A hx hb hr hts hown hml hlocks hK hP hD hA hS ls hl
  have hown : s.vm.findClass RX1 = some m.cls := hown
  have hl : lv_has ls 5 [(0, .ref h0), (1, .int x), (2, .int y)] := hl
  rcases pg_cases x y with h | ⟨ar, pg, h1, h2, rfl, rfl⟩
  · refine lv_iload_n hx hb dX1_copy_0 rfl (lv_at hl 1 rfl) ?_
    refine lv_iload_n hx hb dX1_copy_1 rfl (lv_at hl 2 rfl) ?_
    refine k_I (wr := wM h0 a0 a1 a2 a3 a4 a5 cI cZ th bf pw hs lo lg rt nb (nI fi) (nI fo) (nI en) 1 cu ma) hP hD hS hA (va_runS (As := [.int x, .int y]) (rest := []) ⟨hx, hb, hml, hown, hts⟩ ((tX1_isPage_e x y 0 (sp_pg_f h)) _) (va_cwS 2 hts gX1_copy_X1_isPage rfl rfl rfl (by decide +kernel) ⟨Nat.le_of_ble_eq_true rfl, Nat.le_of_ble_eq_true rfl⟩) (pS_B hP hD hK [] rfl [] rfl rfl) rfl rfl hl.1 rfl (lv_room (Nat.le_of_ble_eq_true rfl)) dX1_copy_2 ⟨Nat.le_of_ble_eq_true rfl, Nat.le_of_ble_eq_true rfl⟩) [] [0, 1, 2, 3, 4, 5, 6] rfl rfl rfl (by decide) (fun H locs hP hD hS => ?_)
    have hP : va_P D vwCl (wM h0 a0 a1 a2 a3 a4 a5 cI cZ th bf pw hs lo lg rt nb (nI fi) (nI fo) (nI en) 1 cu ma) H := hP
    have hD : va_D A (wM h0 a0 a1 a2 a3 a4 a5 cI cZ th bf pw hs lo lg rt nb (nI fi) (nI fo) (nI en) 1 cu ma) := hD
    refine lv_istore_n (lv' := [(3, .int 0), (0, .ref h0), (1, .int x), (2, .int y)]) hx hb dX1_copy_5 rfl hl (by decide) rfl (fun ls hl => ?_)
    refine lv_iload_n hx hb dX1_copy_6 rfl (lv_at hl 0 rfl) ?_
    refine lv_if_eq (tgt := 26) hx hb dX1_copy_7 (by decide) (fun c_7 => ?_) (fun c_7 => absurd (by decide) c_7)
    refine lv_iconst (v := (0)) hx hb dX1_copy_26 (by decide) ?_
    refine lv_istore (lv' := [(4, .int 0), (3, .int 0), (0, .ref h0), (1, .int x), (2, .int y)]) hx hb dX1_copy_27 hl (by decide) rfl (fun ls hl => ?_)
    refine lv_aload_n hx hb dX1_copy_29 rfl (lv_at hl 2 rfl) ?_
    refine lv_aload_n hx hb dX1_copy_30 rfl (lv_at hl 2 rfl) ?_
    refine va_get (ci := 1) (v := .int 1) (C := RX1) (T := TX1) (N := 14) hx hb hts inX1_copy hown hK hP 0 rfl rfl 12 (by decide) (hts _ flX1_copy_45) (fun _ h9 => h9) rfl dX1_copy_31 ?_
    refine lv_if_ne (tgt := 42) hx hb dX1_copy_34 (by decide) (fun c_34 => ?_) (fun c_34 => absurd c_34 (by decide))
    refine lv_iconst (v := (1)) hx hb dX1_copy_42 (by decide) ?_
    refine lv_goto (tgt := 47) hx hb dX1_copy_43 (by decide) ?_
    refine lv_iload_n hx hb dX1_copy_47 rfl (lv_at hl 1 rfl) ?_
    refine lv_if_ne (tgt := 55) hx hb dX1_copy_48 (by decide) (fun c_48 => absurd (by decide) c_48) (fun c_48 => ?_)
    refine lv_iconst (v := (1)) hx hb dX1_copy_51 (by decide) ?_
    refine lv_goto (tgt := 56) hx hb dX1_copy_52 (by decide) ?_
    refine k_I (wr := []) hP hD hS hA (va_runV (As := [.int 1, .int 1]) (rest := []) ⟨hx, hb, hml, hown, hts⟩ ((tX1_refused_1 th bf pw hs lo lg rt nb fi fo en 1 cu ma 1) _) (cwV 2 hts gX1_copy_X1_refused rfl rfl rfl (by decide +kernel) ⟨Nat.le_of_ble_eq_true rfl, Nat.le_of_ble_eq_true rfl⟩) (pV_B hP hD hK (ci := 1) (q0 := 0) rfl rfl rfl [0, 1] rfl [0, 1, 2, 3, 4, 5, 6] rfl rfl) rfl rfl hl.1 rfl (lv_room (Nat.le_of_ble_eq_true rfl)) dX1_copy_56 ⟨Nat.le_of_ble_eq_true rfl, Nat.le_of_ble_eq_true rfl⟩) [0, 1, 2, 3, 4, 5, 6] [] rfl rfl rfl (by decide) (fun H locs hP hD hS => ?_)
    have hP : va_P D vwCl (wM h0 a0 a1 a2 a3 a4 a5 cI cZ 1 bf pw hs lo lg rt nb (nI fi) (nI fo) (nI en) 1 cu ma) H := hP
    have hD : va_D A (wM h0 a0 a1 a2 a3 a4 a5 cI cZ 1 bf pw hs lo lg rt nb (nI fi) (nI fo) (nI en) 1 cu ma) := hD
    refine lv_if_eq (tgt := 64) hx hb dX1_copy_59 (by decide) (fun c_59 => absurd c_59 (by decide)) (fun c_59 => ?_)
    refine lv_iconst (v := (0)) hx hb dX1_copy_62 (by decide) ?_
    exact e_I hx hb hr hlocks hP hD hS rfl dX1_copy_63
  · refine lv_iload_n hx hb dX1_copy_0 rfl (lv_at hl 1 rfl) ?_
    refine lv_iload_n hx hb dX1_copy_1 rfl (lv_at hl 2 rfl) ?_
    refine k_I (wr := wM h0 a0 a1 a2 a3 a4 a5 cI cZ th bf pw hs lo lg rt nb (nI fi) (nI fo) (nI en) 1 cu ma) hP hD hS hA (va_runS (As := [.int (nI ar), .int (nI pg)]) (rest := []) ⟨hx, hb, hml, hown, hts⟩ ((tX1_isPage_e (nI ar) (nI pg) 1 (sp_pg_t (by omega) (by omega))) _) (va_cwS 2 hts gX1_copy_X1_isPage rfl rfl rfl (by decide +kernel) ⟨Nat.le_of_ble_eq_true rfl, Nat.le_of_ble_eq_true rfl⟩) (pS_B hP hD hK [] rfl [] rfl rfl) rfl rfl hl.1 rfl (lv_room (Nat.le_of_ble_eq_true rfl)) dX1_copy_2 ⟨Nat.le_of_ble_eq_true rfl, Nat.le_of_ble_eq_true rfl⟩) [] [0, 1, 2, 3, 4, 5, 6] rfl rfl rfl (by decide) (fun H locs hP hD hS => ?_)
    have hP : va_P D vwCl (wM h0 a0 a1 a2 a3 a4 a5 cI cZ th bf pw hs lo lg rt nb (nI fi) (nI fo) (nI en) 1 cu ma) H := hP
    have hD : va_D A (wM h0 a0 a1 a2 a3 a4 a5 cI cZ th bf pw hs lo lg rt nb (nI fi) (nI fo) (nI en) 1 cu ma) := hD
    refine lv_istore_n (lv' := [(3, .int 1), (0, .ref h0), (1, .int (nI ar)), (2, .int (nI pg))]) hx hb dX1_copy_5 rfl hl (by decide) rfl (fun ls hl => ?_)
    refine lv_iload_n hx hb dX1_copy_6 rfl (lv_at hl 0 rfl) ?_
    refine lv_if_eq (tgt := 26) hx hb dX1_copy_7 (by decide) (fun c_7 => absurd c_7 (by decide)) (fun c_7 => ?_)
    refine lv_aload_n hx hb dX1_copy_10 rfl (lv_at hl 1 rfl) ?_
    refine lv_iload_n hx hb dX1_copy_11 rfl (lv_at hl 2 rfl) ?_
    refine lv_iload_n hx hb dX1_copy_12 rfl (lv_at hl 3 rfl) ?_
    refine k_I (wr := wM h0 a0 a1 a2 a3 a4 a5 cI cZ th bf pw hs lo lg rt nb (nI fi) (nI fo) (nI en) 1 cu ma) hP hD hS hA (va_runS (As := [.int (nI ar), .int (nI pg)]) (rest := [.ref h0]) ⟨hx, hb, hml, hown, hts⟩ ((tX1_place ar pg) _) (va_cwS 2 hts gX1_copy_X1_place rfl rfl rfl (by decide +kernel) ⟨Nat.le_of_ble_eq_true rfl, Nat.le_of_ble_eq_true rfl⟩) (pS_B hP hD hK [] rfl [] rfl rfl) rfl rfl hl.1 rfl (lv_room (Nat.le_of_ble_eq_true rfl)) dX1_copy_13 ⟨Nat.le_of_ble_eq_true rfl, Nat.le_of_ble_eq_true rfl⟩) [] [0, 1, 2, 3, 4, 5, 6] rfl rfl rfl (by decide) (fun H locs hP hD hS => ?_)
    have hP : va_P D vwCl (wM h0 a0 a1 a2 a3 a4 a5 cI cZ th bf pw hs lo lg rt nb (nI fi) (nI fo) (nI en) 1 cu ma) H := hP
    have hD : va_D A (wM h0 a0 a1 a2 a3 a4 a5 cI cZ th bf pw hs lo lg rt nb (nI fi) (nI fo) (nI en) 1 cu ma) := hD
    refine k_I (wr := []) hP hD hS hA (va_runV (As := [.int (nI (ar * 256 + pg))]) (rest := []) ⟨hx, hb, hml, hown, hts⟩ ((tX1_stateOf th bf pw hs lo lg rt nb fi fo en 1 cu ma (ar * 256 + pg) (by omega)) _) (cwV 1 hts gX1_copy_X1_stateOf rfl rfl rfl (by decide +kernel) ⟨Nat.le_of_ble_eq_true rfl, Nat.le_of_ble_eq_true rfl⟩) (pV_B hP hD hK (ci := 1) (q0 := 0) rfl rfl rfl [0, 1] rfl [0, 1, 2, 3, 4, 5, 6] rfl rfl) rfl rfl hl.1 rfl (lv_room (Nat.le_of_ble_eq_true rfl)) dX1_copy_16 ⟨Nat.le_of_ble_eq_true rfl, Nat.le_of_ble_eq_true rfl⟩) [0, 1, 2, 3, 4, 5, 6] [] rfl rfl rfl (by decide) (fun H locs hP hD hS => ?_)
    have hP : va_P D vwCl (wM h0 a0 a1 a2 a3 a4 a5 cI cZ th bf pw hs lo lg rt nb (nI fi) (nI fo) (nI en) 1 cu ma) H := hP
    have hD : va_D A (wM h0 a0 a1 a2 a3 a4 a5 cI cZ th bf pw hs lo lg rt nb (nI fi) (nI fo) (nI en) 1 cu ma) := hD
    refine lv_if_eq (tgt := 26) hx hb dX1_copy_19 (by decide) (fun c_19 => ?_) (fun c_19 => ?_)
    · refine lv_iconst (v := (0)) hx hb dX1_copy_26 (by decide) ?_
      refine lv_istore (lv' := [(4, .int 0), (3, .int 1), (0, .ref h0), (1, .int (nI ar)), (2, .int (nI pg))]) hx hb dX1_copy_27 hl (by decide) rfl (fun ls hl => ?_)
      refine lv_aload_n hx hb dX1_copy_29 rfl (lv_at hl 2 rfl) ?_
      refine lv_aload_n hx hb dX1_copy_30 rfl (lv_at hl 2 rfl) ?_
      refine va_get (ci := 1) (v := .int 1) (C := RX1) (T := TX1) (N := 14) hx hb hts inX1_copy hown hK hP 0 rfl rfl 12 (by decide) (hts _ flX1_copy_45) (fun _ h9 => h9) rfl dX1_copy_31 ?_
      refine lv_if_ne (tgt := 42) hx hb dX1_copy_34 (by decide) (fun c_34 => ?_) (fun c_34 => absurd c_34 (by decide))
      refine lv_iconst (v := (1)) hx hb dX1_copy_42 (by decide) ?_
      refine lv_goto (tgt := 47) hx hb dX1_copy_43 (by decide) ?_
      refine lv_iload_n hx hb dX1_copy_47 rfl (lv_at hl 1 rfl) ?_
      refine lv_if_ne (tgt := 55) hx hb dX1_copy_48 (by decide) (fun c_48 => ?_) (fun c_48 => absurd c_48 (by decide))
      refine lv_iconst (v := (0)) hx hb dX1_copy_55 (by decide) ?_
      refine k_I (wr := []) hP hD hS hA (va_runV (As := [.int 1, .int 0]) (rest := []) ⟨hx, hb, hml, hown, hts⟩ ((tX1_refused_1 th bf pw hs lo lg rt nb fi fo en 1 cu ma 0) _) (cwV 2 hts gX1_copy_X1_refused rfl rfl rfl (by decide +kernel) ⟨Nat.le_of_ble_eq_true rfl, Nat.le_of_ble_eq_true rfl⟩) (pV_B hP hD hK (ci := 1) (q0 := 0) rfl rfl rfl [0, 1] rfl [0, 1, 2, 3, 4, 5, 6] rfl rfl) rfl rfl hl.1 rfl (lv_room (Nat.le_of_ble_eq_true rfl)) dX1_copy_56 ⟨Nat.le_of_ble_eq_true rfl, Nat.le_of_ble_eq_true rfl⟩) [0, 1, 2, 3, 4, 5, 6] [] rfl rfl rfl (by decide) (fun H locs hP hD hS => ?_)
      have hP : va_P D vwCl (wM h0 a0 a1 a2 a3 a4 a5 cI cZ 1 bf pw hs lo lg rt nb (nI fi) (nI fo) (nI en) 1 cu ma) H := hP
      have hD : va_D A (wM h0 a0 a1 a2 a3 a4 a5 cI cZ 1 bf pw hs lo lg rt nb (nI fi) (nI fo) (nI en) 1 cu ma) := hD
      refine lv_if_eq (tgt := 64) hx hb dX1_copy_59 (by decide) (fun c_59 => absurd c_59 (by decide)) (fun c_59 => ?_)
      refine lv_iconst (v := (0)) hx hb dX1_copy_62 (by decide) ?_
      exact e_I hx hb hr hlocks hP hD hS rfl dX1_copy_63
    · refine lv_iconst (v := (1)) hx hb dX1_copy_22 (by decide) ?_
      refine lv_goto (tgt := 27) hx hb dX1_copy_23 (by decide) ?_
      refine lv_istore (lv' := [(4, .int 1), (3, .int 1), (0, .ref h0), (1, .int (nI ar)), (2, .int (nI pg))]) hx hb dX1_copy_27 hl (by decide) rfl (fun ls hl => ?_)
      refine lv_aload_n hx hb dX1_copy_29 rfl (lv_at hl 2 rfl) ?_
      refine lv_aload_n hx hb dX1_copy_30 rfl (lv_at hl 2 rfl) ?_
      refine va_get (ci := 1) (v := .int 1) (C := RX1) (T := TX1) (N := 14) hx hb hts inX1_copy hown hK hP 0 rfl rfl 12 (by decide) (hts _ flX1_copy_45) (fun _ h9 => h9) rfl dX1_copy_31 ?_
      refine lv_if_ne (tgt := 42) hx hb dX1_copy_34 (by decide) (fun c_34 => ?_) (fun c_34 => absurd c_34 (by decide))
      refine lv_iconst (v := (1)) hx hb dX1_copy_42 (by decide) ?_
      refine lv_goto (tgt := 47) hx hb dX1_copy_43 (by decide) ?_
      refine lv_iload_n hx hb dX1_copy_47 rfl (lv_at hl 1 rfl) ?_
      refine lv_if_ne (tgt := 55) hx hb dX1_copy_48 (by decide) (fun c_48 => ?_) (fun c_48 => absurd c_48 (by decide))
      refine lv_iconst (v := (0)) hx hb dX1_copy_55 (by decide) ?_
      refine k_I (wr := []) hP hD hS hA (va_runV (As := [.int 1, .int 0]) (rest := []) ⟨hx, hb, hml, hown, hts⟩ ((tX1_refused_1 th bf pw hs lo lg rt nb fi fo en 1 cu ma 0) _) (cwV 2 hts gX1_copy_X1_refused rfl rfl rfl (by decide +kernel) ⟨Nat.le_of_ble_eq_true rfl, Nat.le_of_ble_eq_true rfl⟩) (pV_B hP hD hK (ci := 1) (q0 := 0) rfl rfl rfl [0, 1] rfl [0, 1, 2, 3, 4, 5, 6] rfl rfl) rfl rfl hl.1 rfl (lv_room (Nat.le_of_ble_eq_true rfl)) dX1_copy_56 ⟨Nat.le_of_ble_eq_true rfl, Nat.le_of_ble_eq_true rfl⟩) [0, 1, 2, 3, 4, 5, 6] [] rfl rfl rfl (by decide) (fun H locs hP hD hS => ?_)
      have hP : va_P D vwCl (wM h0 a0 a1 a2 a3 a4 a5 cI cZ 1 bf pw hs lo lg rt nb (nI fi) (nI fo) (nI en) 1 cu ma) H := hP
      have hD : va_D A (wM h0 a0 a1 a2 a3 a4 a5 cI cZ 1 bf pw hs lo lg rt nb (nI fi) (nI fo) (nI en) 1 cu ma) := hD
      refine lv_if_eq (tgt := 64) hx hb dX1_copy_59 (by decide) (fun c_59 => absurd c_59 (by decide)) (fun c_59 => ?_)
      refine lv_iconst (v := (0)) hx hb dX1_copy_62 (by decide) ?_
      exact e_I hx hb hr hlocks hP hD hS rfl dX1_copy_63
set_option maxHeartbeats 4000000 in
set_option maxRecDepth 100000 in
theorem tX1_copy_xb {l : Launch} {D : va_G} {cI cZ : ClassId} {h0 a0 a1 a2 a3 a4 a5 : Nat} (th : Int32) (bf pw hs lo lg rt : Nat → Int32) (nb : Int32) (fi fo en : Nat) (cu ma : Int32) (x y : Int32) (h : badP x y) : RI l yX1_copy wsX1_copy 8 0 0 D (tyC cI cZ) (wM h0 a0 a1 a2 a3 a4 a5 cI cZ th bf pw hs lo lg rt nb (nI fi) (nI fo) (nI en) 0 cu ma) [.ref h0, .int x, .int y] 0 (wM h0 a0 a1 a2 a3 a4 a5 cI cZ 2 bf pw hs lo lg rt nb (nI fi) (nI fo) (nI en) 0 cu ma) := by
  refine st_I (cc := cX1_copy) (maxL := 5) (ret := (some .int)) (by decide +kernel) rfl (Nat.le_of_ble_eq_true rfl) ?_
  intro p e s m below meth c A hx hb hr hts hown hml hlocks hK hP hD hA hS ls hl
  have hown : s.vm.findClass RX1 = some m.cls := hown
  have hl : lv_has ls 5 [(0, .ref h0), (1, .int x), (2, .int y)] := hl
  refine lv_iload_n hx hb dX1_copy_0 rfl (lv_at hl 1 rfl) ?_
  refine lv_iload_n hx hb dX1_copy_1 rfl (lv_at hl 2 rfl) ?_
  refine k_I (wr := wM h0 a0 a1 a2 a3 a4 a5 cI cZ th bf pw hs lo lg rt nb (nI fi) (nI fo) (nI en) 0 cu ma) hP hD hS hA (va_runS (As := [.int x, .int y]) (rest := []) ⟨hx, hb, hml, hown, hts⟩ ((tX1_isPage_e x y 0 (sp_pg_f h)) _) (va_cwS 2 hts gX1_copy_X1_isPage rfl rfl rfl (by decide +kernel) ⟨Nat.le_of_ble_eq_true rfl, Nat.le_of_ble_eq_true rfl⟩) (pS_B hP hD hK [] rfl [] rfl rfl) rfl rfl hl.1 rfl (lv_room (Nat.le_of_ble_eq_true rfl)) dX1_copy_2 ⟨Nat.le_of_ble_eq_true rfl, Nat.le_of_ble_eq_true rfl⟩) [] [0, 1, 2, 3, 4, 5, 6] rfl rfl rfl (by decide) (fun H locs hP hD hS => ?_)
  have hP : va_P D vwCl (wM h0 a0 a1 a2 a3 a4 a5 cI cZ th bf pw hs lo lg rt nb (nI fi) (nI fo) (nI en) 0 cu ma) H := hP
  have hD : va_D A (wM h0 a0 a1 a2 a3 a4 a5 cI cZ th bf pw hs lo lg rt nb (nI fi) (nI fo) (nI en) 0 cu ma) := hD
  refine lv_istore_n (lv' := [(3, .int 0), (0, .ref h0), (1, .int x), (2, .int y)]) hx hb dX1_copy_5 rfl hl (by decide) rfl (fun ls hl => ?_)
  refine lv_iload_n hx hb dX1_copy_6 rfl (lv_at hl 0 rfl) ?_
  refine lv_if_eq (tgt := 26) hx hb dX1_copy_7 (by decide) (fun c_7 => ?_) (fun c_7 => absurd (by decide) c_7)
  refine lv_iconst (v := (0)) hx hb dX1_copy_26 (by decide) ?_
  refine lv_istore (lv' := [(4, .int 0), (3, .int 0), (0, .ref h0), (1, .int x), (2, .int y)]) hx hb dX1_copy_27 hl (by decide) rfl (fun ls hl => ?_)
  refine lv_aload_n hx hb dX1_copy_29 rfl (lv_at hl 2 rfl) ?_
  refine lv_aload_n hx hb dX1_copy_30 rfl (lv_at hl 2 rfl) ?_
  refine va_get (ci := 1) (v := .int 0) (C := RX1) (T := TX1) (N := 14) hx hb hts inX1_copy hown hK hP 0 rfl rfl 12 (by decide) (hts _ flX1_copy_45) (fun _ h9 => h9) rfl dX1_copy_31 ?_
  refine lv_if_ne (tgt := 42) hx hb dX1_copy_34 (by decide) (fun c_34 => absurd (by decide) c_34) (fun c_34 => ?_)
  refine lv_iload hx hb dX1_copy_37 (lv_at hl 0 rfl) ?_
  refine lv_if_eq (tgt := 46) hx hb dX1_copy_39 (by decide) (fun c_39 => ?_) (fun c_39 => absurd (by decide) c_39)
  refine lv_iconst (v := (0)) hx hb dX1_copy_46 (by decide) ?_
  refine lv_iload_n hx hb dX1_copy_47 rfl (lv_at hl 1 rfl) ?_
  refine lv_if_ne (tgt := 55) hx hb dX1_copy_48 (by decide) (fun c_48 => absurd (by decide) c_48) (fun c_48 => ?_)
  refine lv_iconst (v := (1)) hx hb dX1_copy_51 (by decide) ?_
  refine lv_goto (tgt := 56) hx hb dX1_copy_52 (by decide) ?_
  refine k_I (wr := []) hP hD hS hA (va_runV (As := [.int 0, .int 1]) (rest := []) ⟨hx, hb, hml, hown, hts⟩ ((tX1_refused_2 th bf pw hs lo lg rt nb fi fo en 0 cu ma) _) (cwV 2 hts gX1_copy_X1_refused rfl rfl rfl (by decide +kernel) ⟨Nat.le_of_ble_eq_true rfl, Nat.le_of_ble_eq_true rfl⟩) (pV_B hP hD hK (ci := 1) (q0 := 0) rfl rfl rfl [0, 1] rfl [0, 1, 2, 3, 4, 5, 6] rfl rfl) rfl rfl hl.1 rfl (lv_room (Nat.le_of_ble_eq_true rfl)) dX1_copy_56 ⟨Nat.le_of_ble_eq_true rfl, Nat.le_of_ble_eq_true rfl⟩) [0, 1, 2, 3, 4, 5, 6] [] rfl rfl rfl (by decide) (fun H locs hP hD hS => ?_)
  have hP : va_P D vwCl (wM h0 a0 a1 a2 a3 a4 a5 cI cZ 2 bf pw hs lo lg rt nb (nI fi) (nI fo) (nI en) 0 cu ma) H := hP
  have hD : va_D A (wM h0 a0 a1 a2 a3 a4 a5 cI cZ 2 bf pw hs lo lg rt nb (nI fi) (nI fo) (nI en) 0 cu ma) := hD
  refine lv_if_eq (tgt := 64) hx hb dX1_copy_59 (by decide) (fun c_59 => absurd c_59 (by decide)) (fun c_59 => ?_)
  refine lv_iconst (v := (0)) hx hb dX1_copy_62 (by decide) ?_
  exact e_I hx hb hr hlocks hP hD hS rfl dX1_copy_63
set_option maxHeartbeats 4000000 in
set_option maxRecDepth 100000 in
theorem tX1_copy_xt {l : Launch} {D : va_G} {cI cZ : ClassId} {h0 a0 a1 a2 a3 a4 a5 : Nat} (th : Int32) (bf pw hs lo lg rt : Nat → Int32) (nb : Int32) (fi fo en : Nat) (cu ma : Int32) (ar pg : Nat) (h1 : ar < 2) (h2 : pg < 256) (h : ¬ sp_ps lo hs (ar * 256 + pg) = 0) : RI l yX1_copy wsX1_copy 8 0 0 D (tyC cI cZ) (wM h0 a0 a1 a2 a3 a4 a5 cI cZ th bf pw hs lo lg rt nb (nI fi) (nI fo) (nI en) 0 cu ma) [.ref h0, .int (nI ar), .int (nI pg)] 0 (wM h0 a0 a1 a2 a3 a4 a5 cI cZ 1 bf pw hs lo lg rt nb (nI fi) (nI fo) (nI en) 0 cu ma) := by
  refine st_I (cc := cX1_copy) (maxL := 5) (ret := (some .int)) (by decide +kernel) rfl (Nat.le_of_ble_eq_true rfl) ?_
  intro p e s m below meth c A hx hb hr hts hown hml hlocks hK hP hD hA hS ls hl
  have hown : s.vm.findClass RX1 = some m.cls := hown
  have hl : lv_has ls 5 [(0, .ref h0), (1, .int (nI ar)), (2, .int (nI pg))] := hl
  refine lv_iload_n hx hb dX1_copy_0 rfl (lv_at hl 1 rfl) ?_
  refine lv_iload_n hx hb dX1_copy_1 rfl (lv_at hl 2 rfl) ?_
  refine k_I (wr := wM h0 a0 a1 a2 a3 a4 a5 cI cZ th bf pw hs lo lg rt nb (nI fi) (nI fo) (nI en) 0 cu ma) hP hD hS hA (va_runS (As := [.int (nI ar), .int (nI pg)]) (rest := []) ⟨hx, hb, hml, hown, hts⟩ ((tX1_isPage_e (nI ar) (nI pg) 1 (sp_pg_t (by omega) (by omega))) _) (va_cwS 2 hts gX1_copy_X1_isPage rfl rfl rfl (by decide +kernel) ⟨Nat.le_of_ble_eq_true rfl, Nat.le_of_ble_eq_true rfl⟩) (pS_B hP hD hK [] rfl [] rfl rfl) rfl rfl hl.1 rfl (lv_room (Nat.le_of_ble_eq_true rfl)) dX1_copy_2 ⟨Nat.le_of_ble_eq_true rfl, Nat.le_of_ble_eq_true rfl⟩) [] [0, 1, 2, 3, 4, 5, 6] rfl rfl rfl (by decide) (fun H locs hP hD hS => ?_)
  have hP : va_P D vwCl (wM h0 a0 a1 a2 a3 a4 a5 cI cZ th bf pw hs lo lg rt nb (nI fi) (nI fo) (nI en) 0 cu ma) H := hP
  have hD : va_D A (wM h0 a0 a1 a2 a3 a4 a5 cI cZ th bf pw hs lo lg rt nb (nI fi) (nI fo) (nI en) 0 cu ma) := hD
  refine lv_istore_n (lv' := [(3, .int 1), (0, .ref h0), (1, .int (nI ar)), (2, .int (nI pg))]) hx hb dX1_copy_5 rfl hl (by decide) rfl (fun ls hl => ?_)
  refine lv_iload_n hx hb dX1_copy_6 rfl (lv_at hl 0 rfl) ?_
  refine lv_if_eq (tgt := 26) hx hb dX1_copy_7 (by decide) (fun c_7 => absurd c_7 (by decide)) (fun c_7 => ?_)
  refine lv_aload_n hx hb dX1_copy_10 rfl (lv_at hl 1 rfl) ?_
  refine lv_iload_n hx hb dX1_copy_11 rfl (lv_at hl 2 rfl) ?_
  refine lv_iload_n hx hb dX1_copy_12 rfl (lv_at hl 3 rfl) ?_
  refine k_I (wr := wM h0 a0 a1 a2 a3 a4 a5 cI cZ th bf pw hs lo lg rt nb (nI fi) (nI fo) (nI en) 0 cu ma) hP hD hS hA (va_runS (As := [.int (nI ar), .int (nI pg)]) (rest := [.ref h0]) ⟨hx, hb, hml, hown, hts⟩ ((tX1_place ar pg) _) (va_cwS 2 hts gX1_copy_X1_place rfl rfl rfl (by decide +kernel) ⟨Nat.le_of_ble_eq_true rfl, Nat.le_of_ble_eq_true rfl⟩) (pS_B hP hD hK [] rfl [] rfl rfl) rfl rfl hl.1 rfl (lv_room (Nat.le_of_ble_eq_true rfl)) dX1_copy_13 ⟨Nat.le_of_ble_eq_true rfl, Nat.le_of_ble_eq_true rfl⟩) [] [0, 1, 2, 3, 4, 5, 6] rfl rfl rfl (by decide) (fun H locs hP hD hS => ?_)
  have hP : va_P D vwCl (wM h0 a0 a1 a2 a3 a4 a5 cI cZ th bf pw hs lo lg rt nb (nI fi) (nI fo) (nI en) 0 cu ma) H := hP
  have hD : va_D A (wM h0 a0 a1 a2 a3 a4 a5 cI cZ th bf pw hs lo lg rt nb (nI fi) (nI fo) (nI en) 0 cu ma) := hD
  refine k_I (wr := []) hP hD hS hA (va_runV (As := [.int (nI (ar * 256 + pg))]) (rest := []) ⟨hx, hb, hml, hown, hts⟩ ((tX1_stateOf th bf pw hs lo lg rt nb fi fo en 0 cu ma (ar * 256 + pg) (by omega)) _) (cwV 1 hts gX1_copy_X1_stateOf rfl rfl rfl (by decide +kernel) ⟨Nat.le_of_ble_eq_true rfl, Nat.le_of_ble_eq_true rfl⟩) (pV_B hP hD hK (ci := 1) (q0 := 0) rfl rfl rfl [0, 1] rfl [0, 1, 2, 3, 4, 5, 6] rfl rfl) rfl rfl hl.1 rfl (lv_room (Nat.le_of_ble_eq_true rfl)) dX1_copy_16 ⟨Nat.le_of_ble_eq_true rfl, Nat.le_of_ble_eq_true rfl⟩) [0, 1, 2, 3, 4, 5, 6] [] rfl rfl rfl (by decide) (fun H locs hP hD hS => ?_)
  have hP : va_P D vwCl (wM h0 a0 a1 a2 a3 a4 a5 cI cZ th bf pw hs lo lg rt nb (nI fi) (nI fo) (nI en) 0 cu ma) H := hP
  have hD : va_D A (wM h0 a0 a1 a2 a3 a4 a5 cI cZ th bf pw hs lo lg rt nb (nI fi) (nI fo) (nI en) 0 cu ma) := hD
  refine lv_if_eq (tgt := 26) hx hb dX1_copy_19 (by decide) (fun c_19 => absurd c_19 (h)) (fun c_19 => ?_)
  refine lv_iconst (v := (1)) hx hb dX1_copy_22 (by decide) ?_
  refine lv_goto (tgt := 27) hx hb dX1_copy_23 (by decide) ?_
  refine lv_istore (lv' := [(4, .int 1), (3, .int 1), (0, .ref h0), (1, .int (nI ar)), (2, .int (nI pg))]) hx hb dX1_copy_27 hl (by decide) rfl (fun ls hl => ?_)
  refine lv_aload_n hx hb dX1_copy_29 rfl (lv_at hl 2 rfl) ?_
  refine lv_aload_n hx hb dX1_copy_30 rfl (lv_at hl 2 rfl) ?_
  refine va_get (ci := 1) (v := .int 0) (C := RX1) (T := TX1) (N := 14) hx hb hts inX1_copy hown hK hP 0 rfl rfl 12 (by decide) (hts _ flX1_copy_45) (fun _ h9 => h9) rfl dX1_copy_31 ?_
  refine lv_if_ne (tgt := 42) hx hb dX1_copy_34 (by decide) (fun c_34 => absurd (by decide) c_34) (fun c_34 => ?_)
  refine lv_iload hx hb dX1_copy_37 (lv_at hl 0 rfl) ?_
  refine lv_if_eq (tgt := 46) hx hb dX1_copy_39 (by decide) (fun c_39 => absurd c_39 (by decide)) (fun c_39 => ?_)
  refine lv_iconst (v := (1)) hx hb dX1_copy_42 (by decide) ?_
  refine lv_goto (tgt := 47) hx hb dX1_copy_43 (by decide) ?_
  refine lv_iload_n hx hb dX1_copy_47 rfl (lv_at hl 1 rfl) ?_
  refine lv_if_ne (tgt := 55) hx hb dX1_copy_48 (by decide) (fun c_48 => ?_) (fun c_48 => absurd c_48 (by decide))
  refine lv_iconst (v := (0)) hx hb dX1_copy_55 (by decide) ?_
  refine k_I (wr := []) hP hD hS hA (va_runV (As := [.int 1, .int 0]) (rest := []) ⟨hx, hb, hml, hown, hts⟩ ((tX1_refused_1 th bf pw hs lo lg rt nb fi fo en 0 cu ma 0) _) (cwV 2 hts gX1_copy_X1_refused rfl rfl rfl (by decide +kernel) ⟨Nat.le_of_ble_eq_true rfl, Nat.le_of_ble_eq_true rfl⟩) (pV_B hP hD hK (ci := 1) (q0 := 0) rfl rfl rfl [0, 1] rfl [0, 1, 2, 3, 4, 5, 6] rfl rfl) rfl rfl hl.1 rfl (lv_room (Nat.le_of_ble_eq_true rfl)) dX1_copy_56 ⟨Nat.le_of_ble_eq_true rfl, Nat.le_of_ble_eq_true rfl⟩) [0, 1, 2, 3, 4, 5, 6] [] rfl rfl rfl (by decide) (fun H locs hP hD hS => ?_)
  have hP : va_P D vwCl (wM h0 a0 a1 a2 a3 a4 a5 cI cZ 1 bf pw hs lo lg rt nb (nI fi) (nI fo) (nI en) 0 cu ma) H := hP
  have hD : va_D A (wM h0 a0 a1 a2 a3 a4 a5 cI cZ 1 bf pw hs lo lg rt nb (nI fi) (nI fo) (nI en) 0 cu ma) := hD
  refine lv_if_eq (tgt := 64) hx hb dX1_copy_59 (by decide) (fun c_59 => absurd c_59 (by decide)) (fun c_59 => ?_)
  refine lv_iconst (v := (0)) hx hb dX1_copy_62 (by decide) ?_
  exact e_I hx hb hr hlocks hP hD hS rfl dX1_copy_63
set_option maxHeartbeats 4000000 in
set_option maxRecDepth 100000 in
theorem tX1_copy_ok0 {l : Launch} {D : va_G} {cI cZ : ClassId} {h0 a0 a1 a2 a3 a4 a5 : Nat} (th : Int32) (bf pw hs lo lg rt : Nat → Int32) (nb : Int32) (fi fo en : Nat) (cu ma : Int32) (ar pg : Nat) (h1 : ar < 2) (h2 : pg < 256) (hw : sp_ps lo hs (ar * 256 + pg) = 0) (h : cu = 0) : RI l yX1_copy wsX1_copy 8 0 0 D (tyC cI cZ) (wM h0 a0 a1 a2 a3 a4 a5 cI cZ th bf pw hs lo lg rt nb (nI fi) (nI fo) (nI en) 0 cu ma) [.ref h0, .int (nI ar), .int (nI pg)] (-1) (wM h0 a0 a1 a2 a3 a4 a5 cI cZ 0 (zf bf) pw hs lo lg rt (nb + 1) (nI fi) (nI fo) (nI fo) 1 cu ma) := by
  refine st_I (cc := cX1_copy) (maxL := 5) (ret := (some .int)) (by decide +kernel) rfl (Nat.le_of_ble_eq_true rfl) ?_
  intro p e s m below meth c A hx hb hr hts hown hml hlocks hK hP hD hA hS ls hl
  have hown : s.vm.findClass RX1 = some m.cls := hown
  have hl : lv_has ls 5 [(0, .ref h0), (1, .int (nI ar)), (2, .int (nI pg))] := hl
  refine lv_iload_n hx hb dX1_copy_0 rfl (lv_at hl 1 rfl) ?_
  refine lv_iload_n hx hb dX1_copy_1 rfl (lv_at hl 2 rfl) ?_
  refine k_I (wr := wM h0 a0 a1 a2 a3 a4 a5 cI cZ th bf pw hs lo lg rt nb (nI fi) (nI fo) (nI en) 0 cu ma) hP hD hS hA (va_runS (As := [.int (nI ar), .int (nI pg)]) (rest := []) ⟨hx, hb, hml, hown, hts⟩ ((tX1_isPage_e (nI ar) (nI pg) 1 (sp_pg_t (by omega) (by omega))) _) (va_cwS 2 hts gX1_copy_X1_isPage rfl rfl rfl (by decide +kernel) ⟨Nat.le_of_ble_eq_true rfl, Nat.le_of_ble_eq_true rfl⟩) (pS_B hP hD hK [] rfl [] rfl rfl) rfl rfl hl.1 rfl (lv_room (Nat.le_of_ble_eq_true rfl)) dX1_copy_2 ⟨Nat.le_of_ble_eq_true rfl, Nat.le_of_ble_eq_true rfl⟩) [] [0, 1, 2, 3, 4, 5, 6] rfl rfl rfl (by decide) (fun H locs hP hD hS => ?_)
  have hP : va_P D vwCl (wM h0 a0 a1 a2 a3 a4 a5 cI cZ th bf pw hs lo lg rt nb (nI fi) (nI fo) (nI en) 0 cu ma) H := hP
  have hD : va_D A (wM h0 a0 a1 a2 a3 a4 a5 cI cZ th bf pw hs lo lg rt nb (nI fi) (nI fo) (nI en) 0 cu ma) := hD
  refine lv_istore_n (lv' := [(3, .int 1), (0, .ref h0), (1, .int (nI ar)), (2, .int (nI pg))]) hx hb dX1_copy_5 rfl hl (by decide) rfl (fun ls hl => ?_)
  refine lv_iload_n hx hb dX1_copy_6 rfl (lv_at hl 0 rfl) ?_
  refine lv_if_eq (tgt := 26) hx hb dX1_copy_7 (by decide) (fun c_7 => absurd c_7 (by decide)) (fun c_7 => ?_)
  refine lv_aload_n hx hb dX1_copy_10 rfl (lv_at hl 1 rfl) ?_
  refine lv_iload_n hx hb dX1_copy_11 rfl (lv_at hl 2 rfl) ?_
  refine lv_iload_n hx hb dX1_copy_12 rfl (lv_at hl 3 rfl) ?_
  refine k_I (wr := wM h0 a0 a1 a2 a3 a4 a5 cI cZ th bf pw hs lo lg rt nb (nI fi) (nI fo) (nI en) 0 cu ma) hP hD hS hA (va_runS (As := [.int (nI ar), .int (nI pg)]) (rest := [.ref h0]) ⟨hx, hb, hml, hown, hts⟩ ((tX1_place ar pg) _) (va_cwS 2 hts gX1_copy_X1_place rfl rfl rfl (by decide +kernel) ⟨Nat.le_of_ble_eq_true rfl, Nat.le_of_ble_eq_true rfl⟩) (pS_B hP hD hK [] rfl [] rfl rfl) rfl rfl hl.1 rfl (lv_room (Nat.le_of_ble_eq_true rfl)) dX1_copy_13 ⟨Nat.le_of_ble_eq_true rfl, Nat.le_of_ble_eq_true rfl⟩) [] [0, 1, 2, 3, 4, 5, 6] rfl rfl rfl (by decide) (fun H locs hP hD hS => ?_)
  have hP : va_P D vwCl (wM h0 a0 a1 a2 a3 a4 a5 cI cZ th bf pw hs lo lg rt nb (nI fi) (nI fo) (nI en) 0 cu ma) H := hP
  have hD : va_D A (wM h0 a0 a1 a2 a3 a4 a5 cI cZ th bf pw hs lo lg rt nb (nI fi) (nI fo) (nI en) 0 cu ma) := hD
  refine k_I (wr := []) hP hD hS hA (va_runV (As := [.int (nI (ar * 256 + pg))]) (rest := []) ⟨hx, hb, hml, hown, hts⟩ ((tX1_stateOf th bf pw hs lo lg rt nb fi fo en 0 cu ma (ar * 256 + pg) (by omega)) _) (cwV 1 hts gX1_copy_X1_stateOf rfl rfl rfl (by decide +kernel) ⟨Nat.le_of_ble_eq_true rfl, Nat.le_of_ble_eq_true rfl⟩) (pV_B hP hD hK (ci := 1) (q0 := 0) rfl rfl rfl [0, 1] rfl [0, 1, 2, 3, 4, 5, 6] rfl rfl) rfl rfl hl.1 rfl (lv_room (Nat.le_of_ble_eq_true rfl)) dX1_copy_16 ⟨Nat.le_of_ble_eq_true rfl, Nat.le_of_ble_eq_true rfl⟩) [0, 1, 2, 3, 4, 5, 6] [] rfl rfl rfl (by decide) (fun H locs hP hD hS => ?_)
  have hP : va_P D vwCl (wM h0 a0 a1 a2 a3 a4 a5 cI cZ th bf pw hs lo lg rt nb (nI fi) (nI fo) (nI en) 0 cu ma) H := hP
  have hD : va_D A (wM h0 a0 a1 a2 a3 a4 a5 cI cZ th bf pw hs lo lg rt nb (nI fi) (nI fo) (nI en) 0 cu ma) := hD
  refine lv_if_eq (tgt := 26) hx hb dX1_copy_19 (by decide) (fun c_19 => ?_) (fun c_19 => absurd (hw) c_19)
  refine lv_iconst (v := (0)) hx hb dX1_copy_26 (by decide) ?_
  refine lv_istore (lv' := [(4, .int 0), (3, .int 1), (0, .ref h0), (1, .int (nI ar)), (2, .int (nI pg))]) hx hb dX1_copy_27 hl (by decide) rfl (fun ls hl => ?_)
  refine lv_aload_n hx hb dX1_copy_29 rfl (lv_at hl 2 rfl) ?_
  refine lv_aload_n hx hb dX1_copy_30 rfl (lv_at hl 2 rfl) ?_
  refine va_get (ci := 1) (v := .int 0) (C := RX1) (T := TX1) (N := 14) hx hb hts inX1_copy hown hK hP 0 rfl rfl 12 (by decide) (hts _ flX1_copy_45) (fun _ h9 => h9) rfl dX1_copy_31 ?_
  refine lv_if_ne (tgt := 42) hx hb dX1_copy_34 (by decide) (fun c_34 => absurd (by decide) c_34) (fun c_34 => ?_)
  refine lv_iload hx hb dX1_copy_37 (lv_at hl 0 rfl) ?_
  refine lv_if_eq (tgt := 46) hx hb dX1_copy_39 (by decide) (fun c_39 => ?_) (fun c_39 => absurd (by decide) c_39)
  refine lv_iconst (v := (0)) hx hb dX1_copy_46 (by decide) ?_
  refine lv_iload_n hx hb dX1_copy_47 rfl (lv_at hl 1 rfl) ?_
  refine lv_if_ne (tgt := 55) hx hb dX1_copy_48 (by decide) (fun c_48 => ?_) (fun c_48 => absurd c_48 (by decide))
  refine lv_iconst (v := (0)) hx hb dX1_copy_55 (by decide) ?_
  refine k_I (wr := []) hP hD hS hA (va_runV (As := [.int 0, .int 0]) (rest := []) ⟨hx, hb, hml, hown, hts⟩ ((tX1_refused_0 th bf pw hs lo lg rt nb fi fo en 0 cu ma) _) (cwV 2 hts gX1_copy_X1_refused rfl rfl rfl (by decide +kernel) ⟨Nat.le_of_ble_eq_true rfl, Nat.le_of_ble_eq_true rfl⟩) (pV_B hP hD hK (ci := 1) (q0 := 0) rfl rfl rfl [0, 1] rfl [0, 1, 2, 3, 4, 5, 6] rfl rfl) rfl rfl hl.1 rfl (lv_room (Nat.le_of_ble_eq_true rfl)) dX1_copy_56 ⟨Nat.le_of_ble_eq_true rfl, Nat.le_of_ble_eq_true rfl⟩) [0, 1, 2, 3, 4, 5, 6] [] rfl rfl rfl (by decide) (fun H locs hP hD hS => ?_)
  have hP : va_P D vwCl (wM h0 a0 a1 a2 a3 a4 a5 cI cZ 0 bf pw hs lo lg rt nb (nI fi) (nI fo) (nI en) 0 cu ma) H := hP
  have hD : va_D A (wM h0 a0 a1 a2 a3 a4 a5 cI cZ 0 bf pw hs lo lg rt nb (nI fi) (nI fo) (nI en) 0 cu ma) := hD
  refine lv_if_eq (tgt := 64) hx hb dX1_copy_59 (by decide) (fun c_59 => ?_) (fun c_59 => absurd (by decide) c_59)
  refine lv_aload_n hx hb dX1_copy_64 rfl (lv_at hl 2 rfl) ?_
  refine lv_iconst (v := (nI 1)) hx hb dX1_copy_65 (by decide) ?_
  refine lv_iload_n hx hb dX1_copy_66 rfl (lv_at hl 3 rfl) ?_
  refine n_isub hx hb (by omega) dX1_copy_67 ?_
  refine lv_iload_n hx hb dX1_copy_68 rfl (lv_at hl 4 rfl) ?_
  refine k_I (wr := wM h0 a0 a1 a2 a3 a4 a5 cI cZ 0 bf pw hs lo lg rt nb (nI fi) (nI fo) (nI en) 0 cu ma) hP hD hS hA (va_runS (As := [.int (nI (1 - ar)), .int (nI pg)]) (rest := [.ref h0]) ⟨hx, hb, hml, hown, hts⟩ ((tX1_place (1 - ar) pg) _) (va_cwS 2 hts gX1_copy_X1_place rfl rfl rfl (by decide +kernel) ⟨Nat.le_of_ble_eq_true rfl, Nat.le_of_ble_eq_true rfl⟩) (pS_B hP hD hK [] rfl [] rfl rfl) rfl rfl hl.1 rfl (lv_room (Nat.le_of_ble_eq_true rfl)) dX1_copy_69 ⟨Nat.le_of_ble_eq_true rfl, Nat.le_of_ble_eq_true rfl⟩) [] [0, 1, 2, 3, 4, 5, 6] rfl rfl rfl (by decide) (fun H locs hP hD hS => ?_)
  have hP : va_P D vwCl (wM h0 a0 a1 a2 a3 a4 a5 cI cZ 0 bf pw hs lo lg rt nb (nI fi) (nI fo) (nI en) 0 cu ma) H := hP
  have hD : va_D A (wM h0 a0 a1 a2 a3 a4 a5 cI cZ 0 bf pw hs lo lg rt nb (nI fi) (nI fo) (nI en) 0 cu ma) := hD
  refine lv_bipush (v := (nI 64)) hx hb dX1_copy_72 (by decide) ?_
  refine lv_iload_n hx hb dX1_copy_74 rfl (lv_at hl 3 rfl) ?_
  refine lv_iload_n hx hb dX1_copy_75 rfl (lv_at hl 4 rfl) ?_
  refine k_I (wr := wM h0 a0 a1 a2 a3 a4 a5 cI cZ 0 bf pw hs lo lg rt nb (nI fi) (nI fo) (nI en) 0 cu ma) hP hD hS hA (va_runS (As := [.int (nI ar), .int (nI pg)]) (rest := [.int (nI 64), .int (nI ((1 - ar) * 256 + pg)), .ref h0]) ⟨hx, hb, hml, hown, hts⟩ ((tX1_place ar pg) _) (va_cwS 2 hts gX1_copy_X1_place rfl rfl rfl (by decide +kernel) ⟨Nat.le_of_ble_eq_true rfl, Nat.le_of_ble_eq_true rfl⟩) (pS_B hP hD hK [] rfl [] rfl rfl) rfl rfl hl.1 rfl (lv_room (Nat.le_of_ble_eq_true rfl)) dX1_copy_76 ⟨Nat.le_of_ble_eq_true rfl, Nat.le_of_ble_eq_true rfl⟩) [] [0, 1, 2, 3, 4, 5, 6] rfl rfl rfl (by decide) (fun H locs hP hD hS => ?_)
  have hP : va_P D vwCl (wM h0 a0 a1 a2 a3 a4 a5 cI cZ 0 bf pw hs lo lg rt nb (nI fi) (nI fo) (nI en) 0 cu ma) H := hP
  have hD : va_D A (wM h0 a0 a1 a2 a3 a4 a5 cI cZ 0 bf pw hs lo lg rt nb (nI fi) (nI fo) (nI en) 0 cu ma) := hD
  refine n_imulc hx hb dX1_copy_79 ?_
  refine lv_iconst (v := (0)) hx hb dX1_copy_80 (by decide) ?_
  refine k_I (wr := []) hP hD hS hA (va_runV (As := [.int (nI ((1 - ar) * 256 + pg)), .int (nI ((ar * 256 + pg) * 64)), .int 0]) (rest := []) ⟨hx, hb, hml, hown, hts⟩ ((tX1_writePage_p0 0 bf pw hs lo lg rt nb fi fo en 0 cu ma ((1 - ar) * 256 + pg) (by omega) ((ar * 256 + pg) * 64) (by omega) (by omega) h) _) (cwV 3 hts gX1_copy_X1_writePage rfl rfl rfl (by decide +kernel) ⟨Nat.le_of_ble_eq_true rfl, Nat.le_of_ble_eq_true rfl⟩) (pV_B hP hD hK (ci := 1) (q0 := 0) rfl rfl rfl [0, 1] rfl [0, 1, 2, 3, 4, 5, 6] rfl rfl) rfl rfl hl.1 rfl (lv_room (Nat.le_of_ble_eq_true rfl)) dX1_copy_81 ⟨Nat.le_of_ble_eq_true rfl, Nat.le_of_ble_eq_true rfl⟩) [0, 1, 2, 3, 4, 5, 6] [] rfl rfl rfl (by decide) (fun H locs hP hD hS => ?_)
  have hP : va_P D vwCl (wM h0 a0 a1 a2 a3 a4 a5 cI cZ 0 (zf bf) pw hs lo lg rt (nb + 1) (nI fi) (nI fo) (nI fo) 1 cu ma) H := hP
  have hD : va_D A (wM h0 a0 a1 a2 a3 a4 a5 cI cZ 0 (zf bf) pw hs lo lg rt (nb + 1) (nI fi) (nI fo) (nI fo) 1 cu ma) := hD
  exact e_I hx hb hr hlocks hP hD hS rfl dX1_copy_84
set_option maxHeartbeats 4000000 in
set_option maxRecDepth 100000 in
theorem tX1_copy_ok1 {l : Launch} {D : va_G} {cI cZ : ClassId} {h0 a0 a1 a2 a3 a4 a5 : Nat} (th : Int32) (bf pw hs lo lg rt : Nat → Int32) (nb : Int32) (fi fo en : Nat) (cu ma : Int32) (ar pg : Nat) (h1 : ar < 2) (h2 : pg < 256) (hw : sp_ps lo hs (ar * 256 + pg) = 0) (hn : -1 ≤ cu) (h : ¬ cu = 0) (hd : dcu cu = 0) : RI l yX1_copy wsX1_copy 8 0 0 D (tyC cI cZ) (wM h0 a0 a1 a2 a3 a4 a5 cI cZ th bf pw hs lo lg rt nb (nI fi) (nI fo) (nI en) 0 cu ma) [.ref h0, .int (nI ar), .int (nI pg)] (-1) (wM h0 a0 a1 a2 a3 a4 a5 cI cZ 0 (zf bf) (va_cpy pw pw ((ar * 256 + pg) * 64) (((1 - ar) * 256 + pg) * 64) 32) (upd hs (((1 - ar) * 256 + pg) * 2) (nb + 1)) lo lg rt (nb + 1) (nI fi) (nI fo) (nI fo) 1 (dcu cu) (ma + 1)) := by
  refine st_I (cc := cX1_copy) (maxL := 5) (ret := (some .int)) (by decide +kernel) rfl (Nat.le_of_ble_eq_true rfl) ?_
  intro p e s m below meth c A hx hb hr hts hown hml hlocks hK hP hD hA hS ls hl
  have hown : s.vm.findClass RX1 = some m.cls := hown
  have hl : lv_has ls 5 [(0, .ref h0), (1, .int (nI ar)), (2, .int (nI pg))] := hl
  refine lv_iload_n hx hb dX1_copy_0 rfl (lv_at hl 1 rfl) ?_
  refine lv_iload_n hx hb dX1_copy_1 rfl (lv_at hl 2 rfl) ?_
  refine k_I (wr := wM h0 a0 a1 a2 a3 a4 a5 cI cZ th bf pw hs lo lg rt nb (nI fi) (nI fo) (nI en) 0 cu ma) hP hD hS hA (va_runS (As := [.int (nI ar), .int (nI pg)]) (rest := []) ⟨hx, hb, hml, hown, hts⟩ ((tX1_isPage_e (nI ar) (nI pg) 1 (sp_pg_t (by omega) (by omega))) _) (va_cwS 2 hts gX1_copy_X1_isPage rfl rfl rfl (by decide +kernel) ⟨Nat.le_of_ble_eq_true rfl, Nat.le_of_ble_eq_true rfl⟩) (pS_B hP hD hK [] rfl [] rfl rfl) rfl rfl hl.1 rfl (lv_room (Nat.le_of_ble_eq_true rfl)) dX1_copy_2 ⟨Nat.le_of_ble_eq_true rfl, Nat.le_of_ble_eq_true rfl⟩) [] [0, 1, 2, 3, 4, 5, 6] rfl rfl rfl (by decide) (fun H locs hP hD hS => ?_)
  have hP : va_P D vwCl (wM h0 a0 a1 a2 a3 a4 a5 cI cZ th bf pw hs lo lg rt nb (nI fi) (nI fo) (nI en) 0 cu ma) H := hP
  have hD : va_D A (wM h0 a0 a1 a2 a3 a4 a5 cI cZ th bf pw hs lo lg rt nb (nI fi) (nI fo) (nI en) 0 cu ma) := hD
  refine lv_istore_n (lv' := [(3, .int 1), (0, .ref h0), (1, .int (nI ar)), (2, .int (nI pg))]) hx hb dX1_copy_5 rfl hl (by decide) rfl (fun ls hl => ?_)
  refine lv_iload_n hx hb dX1_copy_6 rfl (lv_at hl 0 rfl) ?_
  refine lv_if_eq (tgt := 26) hx hb dX1_copy_7 (by decide) (fun c_7 => absurd c_7 (by decide)) (fun c_7 => ?_)
  refine lv_aload_n hx hb dX1_copy_10 rfl (lv_at hl 1 rfl) ?_
  refine lv_iload_n hx hb dX1_copy_11 rfl (lv_at hl 2 rfl) ?_
  refine lv_iload_n hx hb dX1_copy_12 rfl (lv_at hl 3 rfl) ?_
  refine k_I (wr := wM h0 a0 a1 a2 a3 a4 a5 cI cZ th bf pw hs lo lg rt nb (nI fi) (nI fo) (nI en) 0 cu ma) hP hD hS hA (va_runS (As := [.int (nI ar), .int (nI pg)]) (rest := [.ref h0]) ⟨hx, hb, hml, hown, hts⟩ ((tX1_place ar pg) _) (va_cwS 2 hts gX1_copy_X1_place rfl rfl rfl (by decide +kernel) ⟨Nat.le_of_ble_eq_true rfl, Nat.le_of_ble_eq_true rfl⟩) (pS_B hP hD hK [] rfl [] rfl rfl) rfl rfl hl.1 rfl (lv_room (Nat.le_of_ble_eq_true rfl)) dX1_copy_13 ⟨Nat.le_of_ble_eq_true rfl, Nat.le_of_ble_eq_true rfl⟩) [] [0, 1, 2, 3, 4, 5, 6] rfl rfl rfl (by decide) (fun H locs hP hD hS => ?_)
  have hP : va_P D vwCl (wM h0 a0 a1 a2 a3 a4 a5 cI cZ th bf pw hs lo lg rt nb (nI fi) (nI fo) (nI en) 0 cu ma) H := hP
  have hD : va_D A (wM h0 a0 a1 a2 a3 a4 a5 cI cZ th bf pw hs lo lg rt nb (nI fi) (nI fo) (nI en) 0 cu ma) := hD
  refine k_I (wr := []) hP hD hS hA (va_runV (As := [.int (nI (ar * 256 + pg))]) (rest := []) ⟨hx, hb, hml, hown, hts⟩ ((tX1_stateOf th bf pw hs lo lg rt nb fi fo en 0 cu ma (ar * 256 + pg) (by omega)) _) (cwV 1 hts gX1_copy_X1_stateOf rfl rfl rfl (by decide +kernel) ⟨Nat.le_of_ble_eq_true rfl, Nat.le_of_ble_eq_true rfl⟩) (pV_B hP hD hK (ci := 1) (q0 := 0) rfl rfl rfl [0, 1] rfl [0, 1, 2, 3, 4, 5, 6] rfl rfl) rfl rfl hl.1 rfl (lv_room (Nat.le_of_ble_eq_true rfl)) dX1_copy_16 ⟨Nat.le_of_ble_eq_true rfl, Nat.le_of_ble_eq_true rfl⟩) [0, 1, 2, 3, 4, 5, 6] [] rfl rfl rfl (by decide) (fun H locs hP hD hS => ?_)
  have hP : va_P D vwCl (wM h0 a0 a1 a2 a3 a4 a5 cI cZ th bf pw hs lo lg rt nb (nI fi) (nI fo) (nI en) 0 cu ma) H := hP
  have hD : va_D A (wM h0 a0 a1 a2 a3 a4 a5 cI cZ th bf pw hs lo lg rt nb (nI fi) (nI fo) (nI en) 0 cu ma) := hD
  refine lv_if_eq (tgt := 26) hx hb dX1_copy_19 (by decide) (fun c_19 => ?_) (fun c_19 => absurd (hw) c_19)
  refine lv_iconst (v := (0)) hx hb dX1_copy_26 (by decide) ?_
  refine lv_istore (lv' := [(4, .int 0), (3, .int 1), (0, .ref h0), (1, .int (nI ar)), (2, .int (nI pg))]) hx hb dX1_copy_27 hl (by decide) rfl (fun ls hl => ?_)
  refine lv_aload_n hx hb dX1_copy_29 rfl (lv_at hl 2 rfl) ?_
  refine lv_aload_n hx hb dX1_copy_30 rfl (lv_at hl 2 rfl) ?_
  refine va_get (ci := 1) (v := .int 0) (C := RX1) (T := TX1) (N := 14) hx hb hts inX1_copy hown hK hP 0 rfl rfl 12 (by decide) (hts _ flX1_copy_45) (fun _ h9 => h9) rfl dX1_copy_31 ?_
  refine lv_if_ne (tgt := 42) hx hb dX1_copy_34 (by decide) (fun c_34 => absurd (by decide) c_34) (fun c_34 => ?_)
  refine lv_iload hx hb dX1_copy_37 (lv_at hl 0 rfl) ?_
  refine lv_if_eq (tgt := 46) hx hb dX1_copy_39 (by decide) (fun c_39 => ?_) (fun c_39 => absurd (by decide) c_39)
  refine lv_iconst (v := (0)) hx hb dX1_copy_46 (by decide) ?_
  refine lv_iload_n hx hb dX1_copy_47 rfl (lv_at hl 1 rfl) ?_
  refine lv_if_ne (tgt := 55) hx hb dX1_copy_48 (by decide) (fun c_48 => ?_) (fun c_48 => absurd c_48 (by decide))
  refine lv_iconst (v := (0)) hx hb dX1_copy_55 (by decide) ?_
  refine k_I (wr := []) hP hD hS hA (va_runV (As := [.int 0, .int 0]) (rest := []) ⟨hx, hb, hml, hown, hts⟩ ((tX1_refused_0 th bf pw hs lo lg rt nb fi fo en 0 cu ma) _) (cwV 2 hts gX1_copy_X1_refused rfl rfl rfl (by decide +kernel) ⟨Nat.le_of_ble_eq_true rfl, Nat.le_of_ble_eq_true rfl⟩) (pV_B hP hD hK (ci := 1) (q0 := 0) rfl rfl rfl [0, 1] rfl [0, 1, 2, 3, 4, 5, 6] rfl rfl) rfl rfl hl.1 rfl (lv_room (Nat.le_of_ble_eq_true rfl)) dX1_copy_56 ⟨Nat.le_of_ble_eq_true rfl, Nat.le_of_ble_eq_true rfl⟩) [0, 1, 2, 3, 4, 5, 6] [] rfl rfl rfl (by decide) (fun H locs hP hD hS => ?_)
  have hP : va_P D vwCl (wM h0 a0 a1 a2 a3 a4 a5 cI cZ 0 bf pw hs lo lg rt nb (nI fi) (nI fo) (nI en) 0 cu ma) H := hP
  have hD : va_D A (wM h0 a0 a1 a2 a3 a4 a5 cI cZ 0 bf pw hs lo lg rt nb (nI fi) (nI fo) (nI en) 0 cu ma) := hD
  refine lv_if_eq (tgt := 64) hx hb dX1_copy_59 (by decide) (fun c_59 => ?_) (fun c_59 => absurd (by decide) c_59)
  refine lv_aload_n hx hb dX1_copy_64 rfl (lv_at hl 2 rfl) ?_
  refine lv_iconst (v := (nI 1)) hx hb dX1_copy_65 (by decide) ?_
  refine lv_iload_n hx hb dX1_copy_66 rfl (lv_at hl 3 rfl) ?_
  refine n_isub hx hb (by omega) dX1_copy_67 ?_
  refine lv_iload_n hx hb dX1_copy_68 rfl (lv_at hl 4 rfl) ?_
  refine k_I (wr := wM h0 a0 a1 a2 a3 a4 a5 cI cZ 0 bf pw hs lo lg rt nb (nI fi) (nI fo) (nI en) 0 cu ma) hP hD hS hA (va_runS (As := [.int (nI (1 - ar)), .int (nI pg)]) (rest := [.ref h0]) ⟨hx, hb, hml, hown, hts⟩ ((tX1_place (1 - ar) pg) _) (va_cwS 2 hts gX1_copy_X1_place rfl rfl rfl (by decide +kernel) ⟨Nat.le_of_ble_eq_true rfl, Nat.le_of_ble_eq_true rfl⟩) (pS_B hP hD hK [] rfl [] rfl rfl) rfl rfl hl.1 rfl (lv_room (Nat.le_of_ble_eq_true rfl)) dX1_copy_69 ⟨Nat.le_of_ble_eq_true rfl, Nat.le_of_ble_eq_true rfl⟩) [] [0, 1, 2, 3, 4, 5, 6] rfl rfl rfl (by decide) (fun H locs hP hD hS => ?_)
  have hP : va_P D vwCl (wM h0 a0 a1 a2 a3 a4 a5 cI cZ 0 bf pw hs lo lg rt nb (nI fi) (nI fo) (nI en) 0 cu ma) H := hP
  have hD : va_D A (wM h0 a0 a1 a2 a3 a4 a5 cI cZ 0 bf pw hs lo lg rt nb (nI fi) (nI fo) (nI en) 0 cu ma) := hD
  refine lv_bipush (v := (nI 64)) hx hb dX1_copy_72 (by decide) ?_
  refine lv_iload_n hx hb dX1_copy_74 rfl (lv_at hl 3 rfl) ?_
  refine lv_iload_n hx hb dX1_copy_75 rfl (lv_at hl 4 rfl) ?_
  refine k_I (wr := wM h0 a0 a1 a2 a3 a4 a5 cI cZ 0 bf pw hs lo lg rt nb (nI fi) (nI fo) (nI en) 0 cu ma) hP hD hS hA (va_runS (As := [.int (nI ar), .int (nI pg)]) (rest := [.int (nI 64), .int (nI ((1 - ar) * 256 + pg)), .ref h0]) ⟨hx, hb, hml, hown, hts⟩ ((tX1_place ar pg) _) (va_cwS 2 hts gX1_copy_X1_place rfl rfl rfl (by decide +kernel) ⟨Nat.le_of_ble_eq_true rfl, Nat.le_of_ble_eq_true rfl⟩) (pS_B hP hD hK [] rfl [] rfl rfl) rfl rfl hl.1 rfl (lv_room (Nat.le_of_ble_eq_true rfl)) dX1_copy_76 ⟨Nat.le_of_ble_eq_true rfl, Nat.le_of_ble_eq_true rfl⟩) [] [0, 1, 2, 3, 4, 5, 6] rfl rfl rfl (by decide) (fun H locs hP hD hS => ?_)
  have hP : va_P D vwCl (wM h0 a0 a1 a2 a3 a4 a5 cI cZ 0 bf pw hs lo lg rt nb (nI fi) (nI fo) (nI en) 0 cu ma) H := hP
  have hD : va_D A (wM h0 a0 a1 a2 a3 a4 a5 cI cZ 0 bf pw hs lo lg rt nb (nI fi) (nI fo) (nI en) 0 cu ma) := hD
  refine n_imulc hx hb dX1_copy_79 ?_
  refine lv_iconst (v := (0)) hx hb dX1_copy_80 (by decide) ?_
  refine k_I (wr := []) hP hD hS hA (va_runV (As := [.int (nI ((1 - ar) * 256 + pg)), .int (nI ((ar * 256 + pg) * 64)), .int 0]) (rest := []) ⟨hx, hb, hml, hown, hts⟩ ((tX1_writePage_p1 0 bf pw hs lo lg rt nb fi fo en 0 cu ma ((1 - ar) * 256 + pg) (by omega) ((ar * 256 + pg) * 64) (by omega) (by omega) hn h hd) _) (cwV 3 hts gX1_copy_X1_writePage rfl rfl rfl (by decide +kernel) ⟨Nat.le_of_ble_eq_true rfl, Nat.le_of_ble_eq_true rfl⟩) (pV_B hP hD hK (ci := 1) (q0 := 0) rfl rfl rfl [0, 1] rfl [0, 1, 2, 3, 4, 5, 6] rfl rfl) rfl rfl hl.1 rfl (lv_room (Nat.le_of_ble_eq_true rfl)) dX1_copy_81 ⟨Nat.le_of_ble_eq_true rfl, Nat.le_of_ble_eq_true rfl⟩) [0, 1, 2, 3, 4, 5, 6] [] rfl rfl rfl (by decide) (fun H locs hP hD hS => ?_)
  have hP : va_P D vwCl (wM h0 a0 a1 a2 a3 a4 a5 cI cZ 0 (zf bf) (va_cpy pw pw ((ar * 256 + pg) * 64) (((1 - ar) * 256 + pg) * 64) 32) (upd hs (((1 - ar) * 256 + pg) * 2) (nb + 1)) lo lg rt (nb + 1) (nI fi) (nI fo) (nI fo) 1 (dcu cu) (ma + 1)) H := hP
  have hD : va_D A (wM h0 a0 a1 a2 a3 a4 a5 cI cZ 0 (zf bf) (va_cpy pw pw ((ar * 256 + pg) * 64) (((1 - ar) * 256 + pg) * 64) 32) (upd hs (((1 - ar) * 256 + pg) * 2) (nb + 1)) lo lg rt (nb + 1) (nI fi) (nI fo) (nI fo) 1 (dcu cu) (ma + 1)) := hD
  exact e_I hx hb hr hlocks hP hD hS rfl dX1_copy_84
set_option maxHeartbeats 4000000 in
set_option maxRecDepth 100000 in
theorem tX1_copy_ok2 {l : Launch} {D : va_G} {cI cZ : ClassId} {h0 a0 a1 a2 a3 a4 a5 : Nat} (th : Int32) (bf pw hs lo lg rt : Nat → Int32) (nb : Int32) (fi fo en : Nat) (cu ma : Int32) (ar pg : Nat) (h1 : ar < 2) (h2 : pg < 256) (hw : sp_ps lo hs (ar * 256 + pg) = 0) (hn : -1 ≤ cu) (h : ¬ cu = 0) (hd : ¬ dcu cu = 0) : RI l yX1_copy wsX1_copy 8 0 0 D (tyC cI cZ) (wM h0 a0 a1 a2 a3 a4 a5 cI cZ th bf pw hs lo lg rt nb (nI fi) (nI fo) (nI en) 0 cu ma) [.ref h0, .int (nI ar), .int (nI pg)] (nb + 1) (wM h0 a0 a1 a2 a3 a4 a5 cI cZ 0 bf (va_cpy (va_cpy pw pw ((ar * 256 + pg) * 64) (((1 - ar) * 256 + pg) * 64) 32) (va_cpy pw pw ((ar * 256 + pg) * 64) (((1 - ar) * 256 + pg) * 64) 32) (((ar * 256 + pg) * 64) + 32) (((1 - ar) * 256 + pg) * 64 + 32) 32) (upd (upd hs (((1 - ar) * 256 + pg) * 2) (nb + 1)) (((1 - ar) * 256 + pg) * 2 + 1) (nb + 1)) (upd lo ((1 - ar) * 256 + pg) 0) lg rt (nb + 1) (nI fi) (nI fo) (nI en) 0 (dcu (dcu cu)) (ma + 1 + 1)) := by
  refine st_I (cc := cX1_copy) (maxL := 5) (ret := (some .int)) (by decide +kernel) rfl (Nat.le_of_ble_eq_true rfl) ?_
  intro p e s m below meth c A hx hb hr hts hown hml hlocks hK hP hD hA hS ls hl
  have hown : s.vm.findClass RX1 = some m.cls := hown
  have hl : lv_has ls 5 [(0, .ref h0), (1, .int (nI ar)), (2, .int (nI pg))] := hl
  refine lv_iload_n hx hb dX1_copy_0 rfl (lv_at hl 1 rfl) ?_
  refine lv_iload_n hx hb dX1_copy_1 rfl (lv_at hl 2 rfl) ?_
  refine k_I (wr := wM h0 a0 a1 a2 a3 a4 a5 cI cZ th bf pw hs lo lg rt nb (nI fi) (nI fo) (nI en) 0 cu ma) hP hD hS hA (va_runS (As := [.int (nI ar), .int (nI pg)]) (rest := []) ⟨hx, hb, hml, hown, hts⟩ ((tX1_isPage_e (nI ar) (nI pg) 1 (sp_pg_t (by omega) (by omega))) _) (va_cwS 2 hts gX1_copy_X1_isPage rfl rfl rfl (by decide +kernel) ⟨Nat.le_of_ble_eq_true rfl, Nat.le_of_ble_eq_true rfl⟩) (pS_B hP hD hK [] rfl [] rfl rfl) rfl rfl hl.1 rfl (lv_room (Nat.le_of_ble_eq_true rfl)) dX1_copy_2 ⟨Nat.le_of_ble_eq_true rfl, Nat.le_of_ble_eq_true rfl⟩) [] [0, 1, 2, 3, 4, 5, 6] rfl rfl rfl (by decide) (fun H locs hP hD hS => ?_)
  have hP : va_P D vwCl (wM h0 a0 a1 a2 a3 a4 a5 cI cZ th bf pw hs lo lg rt nb (nI fi) (nI fo) (nI en) 0 cu ma) H := hP
  have hD : va_D A (wM h0 a0 a1 a2 a3 a4 a5 cI cZ th bf pw hs lo lg rt nb (nI fi) (nI fo) (nI en) 0 cu ma) := hD
  refine lv_istore_n (lv' := [(3, .int 1), (0, .ref h0), (1, .int (nI ar)), (2, .int (nI pg))]) hx hb dX1_copy_5 rfl hl (by decide) rfl (fun ls hl => ?_)
  refine lv_iload_n hx hb dX1_copy_6 rfl (lv_at hl 0 rfl) ?_
  refine lv_if_eq (tgt := 26) hx hb dX1_copy_7 (by decide) (fun c_7 => absurd c_7 (by decide)) (fun c_7 => ?_)
  refine lv_aload_n hx hb dX1_copy_10 rfl (lv_at hl 1 rfl) ?_
  refine lv_iload_n hx hb dX1_copy_11 rfl (lv_at hl 2 rfl) ?_
  refine lv_iload_n hx hb dX1_copy_12 rfl (lv_at hl 3 rfl) ?_
  refine k_I (wr := wM h0 a0 a1 a2 a3 a4 a5 cI cZ th bf pw hs lo lg rt nb (nI fi) (nI fo) (nI en) 0 cu ma) hP hD hS hA (va_runS (As := [.int (nI ar), .int (nI pg)]) (rest := [.ref h0]) ⟨hx, hb, hml, hown, hts⟩ ((tX1_place ar pg) _) (va_cwS 2 hts gX1_copy_X1_place rfl rfl rfl (by decide +kernel) ⟨Nat.le_of_ble_eq_true rfl, Nat.le_of_ble_eq_true rfl⟩) (pS_B hP hD hK [] rfl [] rfl rfl) rfl rfl hl.1 rfl (lv_room (Nat.le_of_ble_eq_true rfl)) dX1_copy_13 ⟨Nat.le_of_ble_eq_true rfl, Nat.le_of_ble_eq_true rfl⟩) [] [0, 1, 2, 3, 4, 5, 6] rfl rfl rfl (by decide) (fun H locs hP hD hS => ?_)
  have hP : va_P D vwCl (wM h0 a0 a1 a2 a3 a4 a5 cI cZ th bf pw hs lo lg rt nb (nI fi) (nI fo) (nI en) 0 cu ma) H := hP
  have hD : va_D A (wM h0 a0 a1 a2 a3 a4 a5 cI cZ th bf pw hs lo lg rt nb (nI fi) (nI fo) (nI en) 0 cu ma) := hD
  refine k_I (wr := []) hP hD hS hA (va_runV (As := [.int (nI (ar * 256 + pg))]) (rest := []) ⟨hx, hb, hml, hown, hts⟩ ((tX1_stateOf th bf pw hs lo lg rt nb fi fo en 0 cu ma (ar * 256 + pg) (by omega)) _) (cwV 1 hts gX1_copy_X1_stateOf rfl rfl rfl (by decide +kernel) ⟨Nat.le_of_ble_eq_true rfl, Nat.le_of_ble_eq_true rfl⟩) (pV_B hP hD hK (ci := 1) (q0 := 0) rfl rfl rfl [0, 1] rfl [0, 1, 2, 3, 4, 5, 6] rfl rfl) rfl rfl hl.1 rfl (lv_room (Nat.le_of_ble_eq_true rfl)) dX1_copy_16 ⟨Nat.le_of_ble_eq_true rfl, Nat.le_of_ble_eq_true rfl⟩) [0, 1, 2, 3, 4, 5, 6] [] rfl rfl rfl (by decide) (fun H locs hP hD hS => ?_)
  have hP : va_P D vwCl (wM h0 a0 a1 a2 a3 a4 a5 cI cZ th bf pw hs lo lg rt nb (nI fi) (nI fo) (nI en) 0 cu ma) H := hP
  have hD : va_D A (wM h0 a0 a1 a2 a3 a4 a5 cI cZ th bf pw hs lo lg rt nb (nI fi) (nI fo) (nI en) 0 cu ma) := hD
  refine lv_if_eq (tgt := 26) hx hb dX1_copy_19 (by decide) (fun c_19 => ?_) (fun c_19 => absurd (hw) c_19)
  refine lv_iconst (v := (0)) hx hb dX1_copy_26 (by decide) ?_
  refine lv_istore (lv' := [(4, .int 0), (3, .int 1), (0, .ref h0), (1, .int (nI ar)), (2, .int (nI pg))]) hx hb dX1_copy_27 hl (by decide) rfl (fun ls hl => ?_)
  refine lv_aload_n hx hb dX1_copy_29 rfl (lv_at hl 2 rfl) ?_
  refine lv_aload_n hx hb dX1_copy_30 rfl (lv_at hl 2 rfl) ?_
  refine va_get (ci := 1) (v := .int 0) (C := RX1) (T := TX1) (N := 14) hx hb hts inX1_copy hown hK hP 0 rfl rfl 12 (by decide) (hts _ flX1_copy_45) (fun _ h9 => h9) rfl dX1_copy_31 ?_
  refine lv_if_ne (tgt := 42) hx hb dX1_copy_34 (by decide) (fun c_34 => absurd (by decide) c_34) (fun c_34 => ?_)
  refine lv_iload hx hb dX1_copy_37 (lv_at hl 0 rfl) ?_
  refine lv_if_eq (tgt := 46) hx hb dX1_copy_39 (by decide) (fun c_39 => ?_) (fun c_39 => absurd (by decide) c_39)
  refine lv_iconst (v := (0)) hx hb dX1_copy_46 (by decide) ?_
  refine lv_iload_n hx hb dX1_copy_47 rfl (lv_at hl 1 rfl) ?_
  refine lv_if_ne (tgt := 55) hx hb dX1_copy_48 (by decide) (fun c_48 => ?_) (fun c_48 => absurd c_48 (by decide))
  refine lv_iconst (v := (0)) hx hb dX1_copy_55 (by decide) ?_
  refine k_I (wr := []) hP hD hS hA (va_runV (As := [.int 0, .int 0]) (rest := []) ⟨hx, hb, hml, hown, hts⟩ ((tX1_refused_0 th bf pw hs lo lg rt nb fi fo en 0 cu ma) _) (cwV 2 hts gX1_copy_X1_refused rfl rfl rfl (by decide +kernel) ⟨Nat.le_of_ble_eq_true rfl, Nat.le_of_ble_eq_true rfl⟩) (pV_B hP hD hK (ci := 1) (q0 := 0) rfl rfl rfl [0, 1] rfl [0, 1, 2, 3, 4, 5, 6] rfl rfl) rfl rfl hl.1 rfl (lv_room (Nat.le_of_ble_eq_true rfl)) dX1_copy_56 ⟨Nat.le_of_ble_eq_true rfl, Nat.le_of_ble_eq_true rfl⟩) [0, 1, 2, 3, 4, 5, 6] [] rfl rfl rfl (by decide) (fun H locs hP hD hS => ?_)
  have hP : va_P D vwCl (wM h0 a0 a1 a2 a3 a4 a5 cI cZ 0 bf pw hs lo lg rt nb (nI fi) (nI fo) (nI en) 0 cu ma) H := hP
  have hD : va_D A (wM h0 a0 a1 a2 a3 a4 a5 cI cZ 0 bf pw hs lo lg rt nb (nI fi) (nI fo) (nI en) 0 cu ma) := hD
  refine lv_if_eq (tgt := 64) hx hb dX1_copy_59 (by decide) (fun c_59 => ?_) (fun c_59 => absurd (by decide) c_59)
  refine lv_aload_n hx hb dX1_copy_64 rfl (lv_at hl 2 rfl) ?_
  refine lv_iconst (v := (nI 1)) hx hb dX1_copy_65 (by decide) ?_
  refine lv_iload_n hx hb dX1_copy_66 rfl (lv_at hl 3 rfl) ?_
  refine n_isub hx hb (by omega) dX1_copy_67 ?_
  refine lv_iload_n hx hb dX1_copy_68 rfl (lv_at hl 4 rfl) ?_
  refine k_I (wr := wM h0 a0 a1 a2 a3 a4 a5 cI cZ 0 bf pw hs lo lg rt nb (nI fi) (nI fo) (nI en) 0 cu ma) hP hD hS hA (va_runS (As := [.int (nI (1 - ar)), .int (nI pg)]) (rest := [.ref h0]) ⟨hx, hb, hml, hown, hts⟩ ((tX1_place (1 - ar) pg) _) (va_cwS 2 hts gX1_copy_X1_place rfl rfl rfl (by decide +kernel) ⟨Nat.le_of_ble_eq_true rfl, Nat.le_of_ble_eq_true rfl⟩) (pS_B hP hD hK [] rfl [] rfl rfl) rfl rfl hl.1 rfl (lv_room (Nat.le_of_ble_eq_true rfl)) dX1_copy_69 ⟨Nat.le_of_ble_eq_true rfl, Nat.le_of_ble_eq_true rfl⟩) [] [0, 1, 2, 3, 4, 5, 6] rfl rfl rfl (by decide) (fun H locs hP hD hS => ?_)
  have hP : va_P D vwCl (wM h0 a0 a1 a2 a3 a4 a5 cI cZ 0 bf pw hs lo lg rt nb (nI fi) (nI fo) (nI en) 0 cu ma) H := hP
  have hD : va_D A (wM h0 a0 a1 a2 a3 a4 a5 cI cZ 0 bf pw hs lo lg rt nb (nI fi) (nI fo) (nI en) 0 cu ma) := hD
  refine lv_bipush (v := (nI 64)) hx hb dX1_copy_72 (by decide) ?_
  refine lv_iload_n hx hb dX1_copy_74 rfl (lv_at hl 3 rfl) ?_
  refine lv_iload_n hx hb dX1_copy_75 rfl (lv_at hl 4 rfl) ?_
  refine k_I (wr := wM h0 a0 a1 a2 a3 a4 a5 cI cZ 0 bf pw hs lo lg rt nb (nI fi) (nI fo) (nI en) 0 cu ma) hP hD hS hA (va_runS (As := [.int (nI ar), .int (nI pg)]) (rest := [.int (nI 64), .int (nI ((1 - ar) * 256 + pg)), .ref h0]) ⟨hx, hb, hml, hown, hts⟩ ((tX1_place ar pg) _) (va_cwS 2 hts gX1_copy_X1_place rfl rfl rfl (by decide +kernel) ⟨Nat.le_of_ble_eq_true rfl, Nat.le_of_ble_eq_true rfl⟩) (pS_B hP hD hK [] rfl [] rfl rfl) rfl rfl hl.1 rfl (lv_room (Nat.le_of_ble_eq_true rfl)) dX1_copy_76 ⟨Nat.le_of_ble_eq_true rfl, Nat.le_of_ble_eq_true rfl⟩) [] [0, 1, 2, 3, 4, 5, 6] rfl rfl rfl (by decide) (fun H locs hP hD hS => ?_)
  have hP : va_P D vwCl (wM h0 a0 a1 a2 a3 a4 a5 cI cZ 0 bf pw hs lo lg rt nb (nI fi) (nI fo) (nI en) 0 cu ma) H := hP
  have hD : va_D A (wM h0 a0 a1 a2 a3 a4 a5 cI cZ 0 bf pw hs lo lg rt nb (nI fi) (nI fo) (nI en) 0 cu ma) := hD
  refine n_imulc hx hb dX1_copy_79 ?_
  refine lv_iconst (v := (0)) hx hb dX1_copy_80 (by decide) ?_
  refine k_I (wr := []) hP hD hS hA (va_runV (As := [.int (nI ((1 - ar) * 256 + pg)), .int (nI ((ar * 256 + pg) * 64)), .int 0]) (rest := []) ⟨hx, hb, hml, hown, hts⟩ ((tX1_writePage_p2 0 bf pw hs lo lg rt nb fi fo en 0 cu ma ((1 - ar) * 256 + pg) (by omega) ((ar * 256 + pg) * 64) (by omega) (by omega) hn h hd) _) (cwV 3 hts gX1_copy_X1_writePage rfl rfl rfl (by decide +kernel) ⟨Nat.le_of_ble_eq_true rfl, Nat.le_of_ble_eq_true rfl⟩) (pV_B hP hD hK (ci := 1) (q0 := 0) rfl rfl rfl [0, 1] rfl [0, 1, 2, 3, 4, 5, 6] rfl rfl) rfl rfl hl.1 rfl (lv_room (Nat.le_of_ble_eq_true rfl)) dX1_copy_81 ⟨Nat.le_of_ble_eq_true rfl, Nat.le_of_ble_eq_true rfl⟩) [0, 1, 2, 3, 4, 5, 6] [] rfl rfl rfl (by decide) (fun H locs hP hD hS => ?_)
  have hP : va_P D vwCl (wM h0 a0 a1 a2 a3 a4 a5 cI cZ 0 bf (va_cpy (va_cpy pw pw ((ar * 256 + pg) * 64) (((1 - ar) * 256 + pg) * 64) 32) (va_cpy pw pw ((ar * 256 + pg) * 64) (((1 - ar) * 256 + pg) * 64) 32) (((ar * 256 + pg) * 64) + 32) (((1 - ar) * 256 + pg) * 64 + 32) 32) (upd (upd hs (((1 - ar) * 256 + pg) * 2) (nb + 1)) (((1 - ar) * 256 + pg) * 2 + 1) (nb + 1)) (upd lo ((1 - ar) * 256 + pg) 0) lg rt (nb + 1) (nI fi) (nI fo) (nI en) 0 (dcu (dcu cu)) (ma + 1 + 1)) H := hP
  have hD : va_D A (wM h0 a0 a1 a2 a3 a4 a5 cI cZ 0 bf (va_cpy (va_cpy pw pw ((ar * 256 + pg) * 64) (((1 - ar) * 256 + pg) * 64) 32) (va_cpy pw pw ((ar * 256 + pg) * 64) (((1 - ar) * 256 + pg) * 64) 32) (((ar * 256 + pg) * 64) + 32) (((1 - ar) * 256 + pg) * 64 + 32) 32) (upd (upd hs (((1 - ar) * 256 + pg) * 2) (nb + 1)) (((1 - ar) * 256 + pg) * 2 + 1) (nb + 1)) (upd lo ((1 - ar) * 256 + pg) 0) lg rt (nb + 1) (nI fi) (nI fo) (nI en) 0 (dcu (dcu cu)) (ma + 1 + 1)) := hD
  exact e_I hx hb hr hlocks hP hD hS rfl dX1_copy_84
set_option maxHeartbeats 4000000 in
set_option maxRecDepth 100000 in
theorem tX1_lose_xb {l : Launch} {D : va_G} {cI cZ : ClassId} {h0 a0 a1 a2 a3 a4 a5 : Nat} (th : Int32) (bf pw hs lo lg rt : Nat → Int32) (nb : Int32) (fi fo en : Nat) (off cu ma : Int32) (x y : Int32) (h : badP x y) : RV l yX1_lose wsX1_lose 8 0 0 D (tyC cI cZ) (wM h0 a0 a1 a2 a3 a4 a5 cI cZ th bf pw hs lo lg rt nb (nI fi) (nI fo) (nI en) off cu ma) [.ref h0, .int x, .int y] (wM h0 a0 a1 a2 a3 a4 a5 cI cZ 1 bf pw hs lo lg rt nb (nI fi) (nI fo) (nI en) off cu ma) := by
  refine st_V (cc := cX1_lose) (maxL := 3) (ret := none) (by decide +kernel) rfl (Nat.le_of_ble_eq_true rfl) ?_
  intro p e s m below meth c A hx hb hr hts hown hml hlocks hK hP hD hA hS ls hl
  have hown : s.vm.findClass RX1 = some m.cls := hown
  have hl : lv_has ls 3 [(0, .ref h0), (1, .int x), (2, .int y)] := hl
  refine lv_aload_n hx hb dX1_lose_0 rfl (lv_at hl 0 rfl) ?_
  refine lv_iload_n hx hb dX1_lose_1 rfl (lv_at hl 1 rfl) ?_
  refine lv_iload_n hx hb dX1_lose_2 rfl (lv_at hl 2 rfl) ?_
  refine k_I (wr := wM h0 a0 a1 a2 a3 a4 a5 cI cZ th bf pw hs lo lg rt nb (nI fi) (nI fo) (nI en) off cu ma) hP hD hS hA (va_runS (As := [.int x, .int y]) (rest := [.ref h0]) ⟨hx, hb, hml, hown, hts⟩ ((tX1_isPage_e x y 0 (sp_pg_f h)) _) (va_cwS 2 hts gX1_lose_X1_isPage rfl rfl rfl (by decide +kernel) ⟨Nat.le_of_ble_eq_true rfl, Nat.le_of_ble_eq_true rfl⟩) (pS_B hP hD hK [] rfl [] rfl rfl) rfl rfl hl.1 rfl (lv_room (Nat.le_of_ble_eq_true rfl)) dX1_lose_3 ⟨Nat.le_of_ble_eq_true rfl, Nat.le_of_ble_eq_true rfl⟩) [] [0, 1, 2, 3, 4, 5, 6] rfl rfl rfl (by decide) (fun H locs hP hD hS => ?_)
  have hP : va_P D vwCl (wM h0 a0 a1 a2 a3 a4 a5 cI cZ th bf pw hs lo lg rt nb (nI fi) (nI fo) (nI en) off cu ma) H := hP
  have hD : va_D A (wM h0 a0 a1 a2 a3 a4 a5 cI cZ th bf pw hs lo lg rt nb (nI fi) (nI fo) (nI en) off cu ma) := hD
  refine lv_if_ne (tgt := 13) hx hb dX1_lose_6 (by decide) (fun c_6 => absurd (by decide) c_6) (fun c_6 => ?_)
  refine lv_iconst (v := (1)) hx hb dX1_lose_9 (by decide) ?_
  refine lv_goto (tgt := 14) hx hb dX1_lose_10 (by decide) ?_
  refine lv_iconst (v := (0)) hx hb dX1_lose_14 (by decide) ?_
  refine k_I (wr := []) hP hD hS hA (va_runV (As := [.int 1, .int 0]) (rest := []) ⟨hx, hb, hml, hown, hts⟩ ((tX1_refused_1 th bf pw hs lo lg rt nb fi fo en off cu ma 0) _) (cwV 2 hts gX1_lose_X1_refused rfl rfl rfl (by decide +kernel) ⟨Nat.le_of_ble_eq_true rfl, Nat.le_of_ble_eq_true rfl⟩) (pV_B hP hD hK (ci := 1) (q0 := 0) rfl rfl rfl [0, 1] rfl [0, 1, 2, 3, 4, 5, 6] rfl rfl) rfl rfl hl.1 rfl (lv_room (Nat.le_of_ble_eq_true rfl)) dX1_lose_15 ⟨Nat.le_of_ble_eq_true rfl, Nat.le_of_ble_eq_true rfl⟩) [0, 1, 2, 3, 4, 5, 6] [] rfl rfl rfl (by decide) (fun H locs hP hD hS => ?_)
  have hP : va_P D vwCl (wM h0 a0 a1 a2 a3 a4 a5 cI cZ 1 bf pw hs lo lg rt nb (nI fi) (nI fo) (nI en) off cu ma) H := hP
  have hD : va_D A (wM h0 a0 a1 a2 a3 a4 a5 cI cZ 1 bf pw hs lo lg rt nb (nI fi) (nI fo) (nI en) off cu ma) := hD
  refine lv_if_ne (tgt := 32) hx hb dX1_lose_18 (by decide) (fun c_18 => ?_) (fun c_18 => absurd c_18 (by decide))
  exact e_V hx hb hr hlocks hP hD hS dX1_lose_32
set_option maxHeartbeats 4000000 in
set_option maxRecDepth 100000 in
theorem tX1_lose_ok {l : Launch} {D : va_G} {cI cZ : ClassId} {h0 a0 a1 a2 a3 a4 a5 : Nat} (th : Int32) (bf pw hs lo lg rt : Nat → Int32) (nb : Int32) (fi fo en : Nat) (off cu ma : Int32) (ar pg : Nat) (h1 : ar < 2) (h2 : pg < 256) : RV l yX1_lose wsX1_lose 8 0 0 D (tyC cI cZ) (wM h0 a0 a1 a2 a3 a4 a5 cI cZ th bf pw hs lo lg rt nb (nI fi) (nI fo) (nI en) off cu ma) [.ref h0, .int (nI ar), .int (nI pg)] (wM h0 a0 a1 a2 a3 a4 a5 cI cZ 0 bf pw hs (upd lo (ar * 256 + pg) 1) lg rt nb (nI fi) (nI fo) (nI en) off cu ma) := by
  refine st_V (cc := cX1_lose) (maxL := 3) (ret := none) (by decide +kernel) rfl (Nat.le_of_ble_eq_true rfl) ?_
  intro p e s m below meth c A hx hb hr hts hown hml hlocks hK hP hD hA hS ls hl
  have hown : s.vm.findClass RX1 = some m.cls := hown
  have hl : lv_has ls 3 [(0, .ref h0), (1, .int (nI ar)), (2, .int (nI pg))] := hl
  refine lv_aload_n hx hb dX1_lose_0 rfl (lv_at hl 0 rfl) ?_
  refine lv_iload_n hx hb dX1_lose_1 rfl (lv_at hl 1 rfl) ?_
  refine lv_iload_n hx hb dX1_lose_2 rfl (lv_at hl 2 rfl) ?_
  refine k_I (wr := wM h0 a0 a1 a2 a3 a4 a5 cI cZ th bf pw hs lo lg rt nb (nI fi) (nI fo) (nI en) off cu ma) hP hD hS hA (va_runS (As := [.int (nI ar), .int (nI pg)]) (rest := [.ref h0]) ⟨hx, hb, hml, hown, hts⟩ ((tX1_isPage_e (nI ar) (nI pg) 1 (sp_pg_t (by omega) (by omega))) _) (va_cwS 2 hts gX1_lose_X1_isPage rfl rfl rfl (by decide +kernel) ⟨Nat.le_of_ble_eq_true rfl, Nat.le_of_ble_eq_true rfl⟩) (pS_B hP hD hK [] rfl [] rfl rfl) rfl rfl hl.1 rfl (lv_room (Nat.le_of_ble_eq_true rfl)) dX1_lose_3 ⟨Nat.le_of_ble_eq_true rfl, Nat.le_of_ble_eq_true rfl⟩) [] [0, 1, 2, 3, 4, 5, 6] rfl rfl rfl (by decide) (fun H locs hP hD hS => ?_)
  have hP : va_P D vwCl (wM h0 a0 a1 a2 a3 a4 a5 cI cZ th bf pw hs lo lg rt nb (nI fi) (nI fo) (nI en) off cu ma) H := hP
  have hD : va_D A (wM h0 a0 a1 a2 a3 a4 a5 cI cZ th bf pw hs lo lg rt nb (nI fi) (nI fo) (nI en) off cu ma) := hD
  refine lv_if_ne (tgt := 13) hx hb dX1_lose_6 (by decide) (fun c_6 => ?_) (fun c_6 => absurd c_6 (by decide))
  refine lv_iconst (v := (0)) hx hb dX1_lose_13 (by decide) ?_
  refine lv_iconst (v := (0)) hx hb dX1_lose_14 (by decide) ?_
  refine k_I (wr := []) hP hD hS hA (va_runV (As := [.int 0, .int 0]) (rest := []) ⟨hx, hb, hml, hown, hts⟩ ((tX1_refused_0 th bf pw hs lo lg rt nb fi fo en off cu ma) _) (cwV 2 hts gX1_lose_X1_refused rfl rfl rfl (by decide +kernel) ⟨Nat.le_of_ble_eq_true rfl, Nat.le_of_ble_eq_true rfl⟩) (pV_B hP hD hK (ci := 1) (q0 := 0) rfl rfl rfl [0, 1] rfl [0, 1, 2, 3, 4, 5, 6] rfl rfl) rfl rfl hl.1 rfl (lv_room (Nat.le_of_ble_eq_true rfl)) dX1_lose_15 ⟨Nat.le_of_ble_eq_true rfl, Nat.le_of_ble_eq_true rfl⟩) [0, 1, 2, 3, 4, 5, 6] [] rfl rfl rfl (by decide) (fun H locs hP hD hS => ?_)
  have hP : va_P D vwCl (wM h0 a0 a1 a2 a3 a4 a5 cI cZ 0 bf pw hs lo lg rt nb (nI fi) (nI fo) (nI en) off cu ma) H := hP
  have hD : va_D A (wM h0 a0 a1 a2 a3 a4 a5 cI cZ 0 bf pw hs lo lg rt nb (nI fi) (nI fo) (nI en) off cu ma) := hD
  refine lv_if_ne (tgt := 32) hx hb dX1_lose_18 (by decide) (fun c_18 => absurd (by decide) c_18) (fun c_18 => ?_)
  refine lv_aload_n hx hb dX1_lose_21 rfl (lv_at hl 0 rfl) ?_
  refine va_get (ci := 1) (v := .ref a3) (C := RX1) (T := TX1) (N := 14) hx hb hts inX1_lose hown hK hP 0 rfl rfl 3 (by decide) (hts _ flX1_lose_17) (fun _ h9 => h9) rfl dX1_lose_22 ?_
  refine lv_iload_n hx hb dX1_lose_25 rfl (lv_at hl 1 rfl) ?_
  refine lv_iload_n hx hb dX1_lose_26 rfl (lv_at hl 2 rfl) ?_
  refine k_I (wr := wM h0 a0 a1 a2 a3 a4 a5 cI cZ 0 bf pw hs lo lg rt nb (nI fi) (nI fo) (nI en) off cu ma) hP hD hS hA (va_runS (As := [.int (nI ar), .int (nI pg)]) (rest := [.ref a3]) ⟨hx, hb, hml, hown, hts⟩ ((tX1_place ar pg) _) (va_cwS 2 hts gX1_lose_X1_place rfl rfl rfl (by decide +kernel) ⟨Nat.le_of_ble_eq_true rfl, Nat.le_of_ble_eq_true rfl⟩) (pS_B hP hD hK [] rfl [] rfl rfl) rfl rfl hl.1 rfl (lv_room (Nat.le_of_ble_eq_true rfl)) dX1_lose_27 ⟨Nat.le_of_ble_eq_true rfl, Nat.le_of_ble_eq_true rfl⟩) [] [0, 1, 2, 3, 4, 5, 6] rfl rfl rfl (by decide) (fun H locs hP hD hS => ?_)
  have hP : va_P D vwCl (wM h0 a0 a1 a2 a3 a4 a5 cI cZ 0 bf pw hs lo lg rt nb (nI fi) (nI fo) (nI en) off cu ma) H := hP
  have hD : va_D A (wM h0 a0 a1 a2 a3 a4 a5 cI cZ 0 bf pw hs lo lg rt nb (nI fi) (nI fo) (nI en) off cu ma) := hD
  refine lv_iconst (v := (1)) hx hb dX1_lose_30 (by decide) ?_
  refine n_zast hx hb hK hP hD hS 4 1 rfl rfl (ar * 256 + pg) (by omega) (by omega) (by decide) dX1_lose_31 (fun H locs hP hD hS => ?_)
  have hP : va_P D vwCl (wM h0 a0 a1 a2 a3 a4 a5 cI cZ 0 bf pw hs (upd lo (ar * 256 + pg) 1) lg rt nb (nI fi) (nI fo) (nI en) off cu ma) H := hP
  have hD : va_D A (wM h0 a0 a1 a2 a3 a4 a5 cI cZ 0 bf pw hs (upd lo (ar * 256 + pg) 1) lg rt nb (nI fi) (nI fo) (nI en) off cu ma) := hD
  exact e_V hx hb hr hlocks hP hD hS dX1_lose_32
set_option maxHeartbeats 4000000 in
set_option maxRecDepth 100000 in
theorem tX1_stamp_xb {l : Launch} {D : va_G} {cI cZ : ClassId} {h0 a0 a1 a2 a3 a4 a5 : Nat} (th : Int32) (bf pw hs lo lg rt : Nat → Int32) (nb : Int32) (fi fo en : Nat) (off cu ma : Int32) (x y z : Int32) (h : badS x y z) : RI l yX1_stamp wsX1_stamp 8 0 0 D (tyC cI cZ) (wM h0 a0 a1 a2 a3 a4 a5 cI cZ th bf pw hs lo lg rt nb (nI fi) (nI fo) (nI en) off cu ma) [.ref h0, .int x, .int y, .int z] 0 (wM h0 a0 a1 a2 a3 a4 a5 cI cZ 1 bf pw hs lo lg rt nb (nI fi) (nI fo) (nI en) off cu ma) := by
  refine st_I (cc := cX1_stamp) (maxL := 4) (ret := (some .int)) (by decide +kernel) rfl (Nat.le_of_ble_eq_true rfl) ?_
  intro p e s m below meth c A hx hb hr hts hown hml hlocks hK hP hD hA hS ls hl
  have hown : s.vm.findClass RX1 = some m.cls := hown
  have hl : lv_has ls 4 [(0, .ref h0), (1, .int x), (2, .int y), (3, .int z)] := hl
  rcases h with h | ⟨ar, pg, h1, h2, rfl, rfl, h⟩
  · refine lv_aload_n hx hb dX1_stamp_0 rfl (lv_at hl 0 rfl) ?_
    refine lv_iload_n hx hb dX1_stamp_1 rfl (lv_at hl 1 rfl) ?_
    refine lv_iload_n hx hb dX1_stamp_2 rfl (lv_at hl 2 rfl) ?_
    refine k_I (wr := wM h0 a0 a1 a2 a3 a4 a5 cI cZ th bf pw hs lo lg rt nb (nI fi) (nI fo) (nI en) off cu ma) hP hD hS hA (va_runS (As := [.int x, .int y]) (rest := [.ref h0]) ⟨hx, hb, hml, hown, hts⟩ ((tX1_isPage_e x y 0 (sp_pg_f h)) _) (va_cwS 2 hts gX1_stamp_X1_isPage rfl rfl rfl (by decide +kernel) ⟨Nat.le_of_ble_eq_true rfl, Nat.le_of_ble_eq_true rfl⟩) (pS_B hP hD hK [] rfl [] rfl rfl) rfl rfl hl.1 rfl (lv_room (Nat.le_of_ble_eq_true rfl)) dX1_stamp_3 ⟨Nat.le_of_ble_eq_true rfl, Nat.le_of_ble_eq_true rfl⟩) [] [0, 1, 2, 3, 4, 5, 6] rfl rfl rfl (by decide) (fun H locs hP hD hS => ?_)
    have hP : va_P D vwCl (wM h0 a0 a1 a2 a3 a4 a5 cI cZ th bf pw hs lo lg rt nb (nI fi) (nI fo) (nI en) off cu ma) H := hP
    have hD : va_D A (wM h0 a0 a1 a2 a3 a4 a5 cI cZ th bf pw hs lo lg rt nb (nI fi) (nI fo) (nI en) off cu ma) := hD
    refine lv_if_eq (tgt := 18) hx hb dX1_stamp_6 (by decide) (fun c_6 => ?_) (fun c_6 => absurd (by decide) c_6)
    refine lv_iconst (v := (1)) hx hb dX1_stamp_18 (by decide) ?_
    refine lv_goto (tgt := 23) hx hb dX1_stamp_19 (by decide) ?_
    refine lv_iconst (v := (0)) hx hb dX1_stamp_23 (by decide) ?_
    refine k_I (wr := []) hP hD hS hA (va_runV (As := [.int 1, .int 0]) (rest := []) ⟨hx, hb, hml, hown, hts⟩ ((tX1_refused_1 th bf pw hs lo lg rt nb fi fo en off cu ma 0) _) (cwV 2 hts gX1_stamp_X1_refused rfl rfl rfl (by decide +kernel) ⟨Nat.le_of_ble_eq_true rfl, Nat.le_of_ble_eq_true rfl⟩) (pV_B hP hD hK (ci := 1) (q0 := 0) rfl rfl rfl [0, 1] rfl [0, 1, 2, 3, 4, 5, 6] rfl rfl) rfl rfl hl.1 rfl (lv_room (Nat.le_of_ble_eq_true rfl)) dX1_stamp_24 ⟨Nat.le_of_ble_eq_true rfl, Nat.le_of_ble_eq_true rfl⟩) [0, 1, 2, 3, 4, 5, 6] [] rfl rfl rfl (by decide) (fun H locs hP hD hS => ?_)
    have hP : va_P D vwCl (wM h0 a0 a1 a2 a3 a4 a5 cI cZ 1 bf pw hs lo lg rt nb (nI fi) (nI fo) (nI en) off cu ma) H := hP
    have hD : va_D A (wM h0 a0 a1 a2 a3 a4 a5 cI cZ 1 bf pw hs lo lg rt nb (nI fi) (nI fo) (nI en) off cu ma) := hD
    refine lv_if_eq (tgt := 32) hx hb dX1_stamp_27 (by decide) (fun c_27 => absurd c_27 (by decide)) (fun c_27 => ?_)
    refine lv_iconst (v := (0)) hx hb dX1_stamp_30 (by decide) ?_
    exact e_I hx hb hr hlocks hP hD hS rfl dX1_stamp_31
  · refine lv_aload_n hx hb dX1_stamp_0 rfl (lv_at hl 0 rfl) ?_
    refine lv_iload_n hx hb dX1_stamp_1 rfl (lv_at hl 1 rfl) ?_
    refine lv_iload_n hx hb dX1_stamp_2 rfl (lv_at hl 2 rfl) ?_
    refine k_I (wr := wM h0 a0 a1 a2 a3 a4 a5 cI cZ th bf pw hs lo lg rt nb (nI fi) (nI fo) (nI en) off cu ma) hP hD hS hA (va_runS (As := [.int (nI ar), .int (nI pg)]) (rest := [.ref h0]) ⟨hx, hb, hml, hown, hts⟩ ((tX1_isPage_e (nI ar) (nI pg) 1 (sp_pg_t (by omega) (by omega))) _) (va_cwS 2 hts gX1_stamp_X1_isPage rfl rfl rfl (by decide +kernel) ⟨Nat.le_of_ble_eq_true rfl, Nat.le_of_ble_eq_true rfl⟩) (pS_B hP hD hK [] rfl [] rfl rfl) rfl rfl hl.1 rfl (lv_room (Nat.le_of_ble_eq_true rfl)) dX1_stamp_3 ⟨Nat.le_of_ble_eq_true rfl, Nat.le_of_ble_eq_true rfl⟩) [] [0, 1, 2, 3, 4, 5, 6] rfl rfl rfl (by decide) (fun H locs hP hD hS => ?_)
    have hP : va_P D vwCl (wM h0 a0 a1 a2 a3 a4 a5 cI cZ th bf pw hs lo lg rt nb (nI fi) (nI fo) (nI en) off cu ma) H := hP
    have hD : va_D A (wM h0 a0 a1 a2 a3 a4 a5 cI cZ th bf pw hs lo lg rt nb (nI fi) (nI fo) (nI en) off cu ma) := hD
    refine lv_if_eq (tgt := 18) hx hb dX1_stamp_6 (by decide) (fun c_6 => absurd c_6 (by decide)) (fun c_6 => ?_)
    refine lv_iload_n hx hb dX1_stamp_9 rfl (lv_at hl 3 rfl) ?_
    refine lv_iconst (v := (nI 0)) hx hb dX1_stamp_10 (by decide) ?_
    refine lv_iconst (v := (nI 1)) hx hb dX1_stamp_11 (by decide) ?_
    refine k_I (wr := wM h0 a0 a1 a2 a3 a4 a5 cI cZ th bf pw hs lo lg rt nb (nI fi) (nI fo) (nI en) off cu ma) hP hD hS hA (va_runS (As := [.int z, .int (nI 0), .int (nI 1)]) (rest := [.ref h0]) ⟨hx, hb, hml, hown, hts⟩ ((tX1_in_e z (nI 0) (nI 1) 0 (sp_in_f (ix_in 1 (by omega) h))) _) (va_cwS 3 hts gX1_stamp_X1_in rfl rfl rfl (by decide +kernel) ⟨Nat.le_of_ble_eq_true rfl, Nat.le_of_ble_eq_true rfl⟩) (pS_B hP hD hK [] rfl [] rfl rfl) rfl rfl hl.1 rfl (lv_room (Nat.le_of_ble_eq_true rfl)) dX1_stamp_12 ⟨Nat.le_of_ble_eq_true rfl, Nat.le_of_ble_eq_true rfl⟩) [] [0, 1, 2, 3, 4, 5, 6] rfl rfl rfl (by decide) (fun H locs hP hD hS => ?_)
    have hP : va_P D vwCl (wM h0 a0 a1 a2 a3 a4 a5 cI cZ th bf pw hs lo lg rt nb (nI fi) (nI fo) (nI en) off cu ma) H := hP
    have hD : va_D A (wM h0 a0 a1 a2 a3 a4 a5 cI cZ th bf pw hs lo lg rt nb (nI fi) (nI fo) (nI en) off cu ma) := hD
    refine lv_if_ne (tgt := 22) hx hb dX1_stamp_15 (by decide) (fun c_15 => absurd (by decide) c_15) (fun c_15 => ?_)
    refine lv_iconst (v := (1)) hx hb dX1_stamp_18 (by decide) ?_
    refine lv_goto (tgt := 23) hx hb dX1_stamp_19 (by decide) ?_
    refine lv_iconst (v := (0)) hx hb dX1_stamp_23 (by decide) ?_
    refine k_I (wr := []) hP hD hS hA (va_runV (As := [.int 1, .int 0]) (rest := []) ⟨hx, hb, hml, hown, hts⟩ ((tX1_refused_1 th bf pw hs lo lg rt nb fi fo en off cu ma 0) _) (cwV 2 hts gX1_stamp_X1_refused rfl rfl rfl (by decide +kernel) ⟨Nat.le_of_ble_eq_true rfl, Nat.le_of_ble_eq_true rfl⟩) (pV_B hP hD hK (ci := 1) (q0 := 0) rfl rfl rfl [0, 1] rfl [0, 1, 2, 3, 4, 5, 6] rfl rfl) rfl rfl hl.1 rfl (lv_room (Nat.le_of_ble_eq_true rfl)) dX1_stamp_24 ⟨Nat.le_of_ble_eq_true rfl, Nat.le_of_ble_eq_true rfl⟩) [0, 1, 2, 3, 4, 5, 6] [] rfl rfl rfl (by decide) (fun H locs hP hD hS => ?_)
    have hP : va_P D vwCl (wM h0 a0 a1 a2 a3 a4 a5 cI cZ 1 bf pw hs lo lg rt nb (nI fi) (nI fo) (nI en) off cu ma) H := hP
    have hD : va_D A (wM h0 a0 a1 a2 a3 a4 a5 cI cZ 1 bf pw hs lo lg rt nb (nI fi) (nI fo) (nI en) off cu ma) := hD
    refine lv_if_eq (tgt := 32) hx hb dX1_stamp_27 (by decide) (fun c_27 => absurd c_27 (by decide)) (fun c_27 => ?_)
    refine lv_iconst (v := (0)) hx hb dX1_stamp_30 (by decide) ?_
    exact e_I hx hb hr hlocks hP hD hS rfl dX1_stamp_31
set_option maxHeartbeats 4000000 in
set_option maxRecDepth 100000 in
theorem tX1_stamp_ok {l : Launch} {D : va_G} {cI cZ : ClassId} {h0 a0 a1 a2 a3 a4 a5 : Nat} (th : Int32) (bf pw hs lo lg rt : Nat → Int32) (nb : Int32) (fi fo en : Nat) (off cu ma : Int32) (ar pg : Nat) (h1 : ar < 2) (h2 : pg < 256) (hf : Nat) (h3 : hf < 2) : RI l yX1_stamp wsX1_stamp 8 0 0 D (tyC cI cZ) (wM h0 a0 a1 a2 a3 a4 a5 cI cZ th bf pw hs lo lg rt nb (nI fi) (nI fo) (nI en) off cu ma) [.ref h0, .int (nI ar), .int (nI pg), .int (nI hf)] (hs ((ar * 256 + pg) * 2 + hf)) (wM h0 a0 a1 a2 a3 a4 a5 cI cZ 0 bf pw hs lo lg rt nb (nI fi) (nI fo) (nI en) off cu ma) := by
  refine st_I (cc := cX1_stamp) (maxL := 4) (ret := (some .int)) (by decide +kernel) rfl (Nat.le_of_ble_eq_true rfl) ?_
  intro p e s m below meth c A hx hb hr hts hown hml hlocks hK hP hD hA hS ls hl
  have hown : s.vm.findClass RX1 = some m.cls := hown
  have hl : lv_has ls 4 [(0, .ref h0), (1, .int (nI ar)), (2, .int (nI pg)), (3, .int (nI hf))] := hl
  refine lv_aload_n hx hb dX1_stamp_0 rfl (lv_at hl 0 rfl) ?_
  refine lv_iload_n hx hb dX1_stamp_1 rfl (lv_at hl 1 rfl) ?_
  refine lv_iload_n hx hb dX1_stamp_2 rfl (lv_at hl 2 rfl) ?_
  refine k_I (wr := wM h0 a0 a1 a2 a3 a4 a5 cI cZ th bf pw hs lo lg rt nb (nI fi) (nI fo) (nI en) off cu ma) hP hD hS hA (va_runS (As := [.int (nI ar), .int (nI pg)]) (rest := [.ref h0]) ⟨hx, hb, hml, hown, hts⟩ ((tX1_isPage_e (nI ar) (nI pg) 1 (sp_pg_t (by omega) (by omega))) _) (va_cwS 2 hts gX1_stamp_X1_isPage rfl rfl rfl (by decide +kernel) ⟨Nat.le_of_ble_eq_true rfl, Nat.le_of_ble_eq_true rfl⟩) (pS_B hP hD hK [] rfl [] rfl rfl) rfl rfl hl.1 rfl (lv_room (Nat.le_of_ble_eq_true rfl)) dX1_stamp_3 ⟨Nat.le_of_ble_eq_true rfl, Nat.le_of_ble_eq_true rfl⟩) [] [0, 1, 2, 3, 4, 5, 6] rfl rfl rfl (by decide) (fun H locs hP hD hS => ?_)
  have hP : va_P D vwCl (wM h0 a0 a1 a2 a3 a4 a5 cI cZ th bf pw hs lo lg rt nb (nI fi) (nI fo) (nI en) off cu ma) H := hP
  have hD : va_D A (wM h0 a0 a1 a2 a3 a4 a5 cI cZ th bf pw hs lo lg rt nb (nI fi) (nI fo) (nI en) off cu ma) := hD
  refine lv_if_eq (tgt := 18) hx hb dX1_stamp_6 (by decide) (fun c_6 => absurd c_6 (by decide)) (fun c_6 => ?_)
  refine lv_iload_n hx hb dX1_stamp_9 rfl (lv_at hl 3 rfl) ?_
  refine lv_iconst (v := (nI 0)) hx hb dX1_stamp_10 (by decide) ?_
  refine lv_iconst (v := (nI 1)) hx hb dX1_stamp_11 (by decide) ?_
  refine k_I (wr := wM h0 a0 a1 a2 a3 a4 a5 cI cZ th bf pw hs lo lg rt nb (nI fi) (nI fo) (nI en) off cu ma) hP hD hS hA (va_runS (As := [.int (nI hf), .int (nI 0), .int (nI 1)]) (rest := [.ref h0]) ⟨hx, hb, hml, hown, hts⟩ ((tX1_in_e (nI hf) (nI 0) (nI 1) 1 (sp_in_t (by omega) (by omega) (by omega))) _) (va_cwS 3 hts gX1_stamp_X1_in rfl rfl rfl (by decide +kernel) ⟨Nat.le_of_ble_eq_true rfl, Nat.le_of_ble_eq_true rfl⟩) (pS_B hP hD hK [] rfl [] rfl rfl) rfl rfl hl.1 rfl (lv_room (Nat.le_of_ble_eq_true rfl)) dX1_stamp_12 ⟨Nat.le_of_ble_eq_true rfl, Nat.le_of_ble_eq_true rfl⟩) [] [0, 1, 2, 3, 4, 5, 6] rfl rfl rfl (by decide) (fun H locs hP hD hS => ?_)
  have hP : va_P D vwCl (wM h0 a0 a1 a2 a3 a4 a5 cI cZ th bf pw hs lo lg rt nb (nI fi) (nI fo) (nI en) off cu ma) H := hP
  have hD : va_D A (wM h0 a0 a1 a2 a3 a4 a5 cI cZ th bf pw hs lo lg rt nb (nI fi) (nI fo) (nI en) off cu ma) := hD
  refine lv_if_ne (tgt := 22) hx hb dX1_stamp_15 (by decide) (fun c_15 => ?_) (fun c_15 => absurd c_15 (by decide))
  refine lv_iconst (v := (0)) hx hb dX1_stamp_22 (by decide) ?_
  refine lv_iconst (v := (0)) hx hb dX1_stamp_23 (by decide) ?_
  refine k_I (wr := []) hP hD hS hA (va_runV (As := [.int 0, .int 0]) (rest := []) ⟨hx, hb, hml, hown, hts⟩ ((tX1_refused_0 th bf pw hs lo lg rt nb fi fo en off cu ma) _) (cwV 2 hts gX1_stamp_X1_refused rfl rfl rfl (by decide +kernel) ⟨Nat.le_of_ble_eq_true rfl, Nat.le_of_ble_eq_true rfl⟩) (pV_B hP hD hK (ci := 1) (q0 := 0) rfl rfl rfl [0, 1] rfl [0, 1, 2, 3, 4, 5, 6] rfl rfl) rfl rfl hl.1 rfl (lv_room (Nat.le_of_ble_eq_true rfl)) dX1_stamp_24 ⟨Nat.le_of_ble_eq_true rfl, Nat.le_of_ble_eq_true rfl⟩) [0, 1, 2, 3, 4, 5, 6] [] rfl rfl rfl (by decide) (fun H locs hP hD hS => ?_)
  have hP : va_P D vwCl (wM h0 a0 a1 a2 a3 a4 a5 cI cZ 0 bf pw hs lo lg rt nb (nI fi) (nI fo) (nI en) off cu ma) H := hP
  have hD : va_D A (wM h0 a0 a1 a2 a3 a4 a5 cI cZ 0 bf pw hs lo lg rt nb (nI fi) (nI fo) (nI en) off cu ma) := hD
  refine lv_if_eq (tgt := 32) hx hb dX1_stamp_27 (by decide) (fun c_27 => ?_) (fun c_27 => absurd (by decide) c_27)
  refine lv_aload_n hx hb dX1_stamp_32 rfl (lv_at hl 0 rfl) ?_
  refine va_get (ci := 1) (v := .ref a2) (C := RX1) (T := TX1) (N := 14) hx hb hts inX1_stamp hown hK hP 0 rfl rfl 2 (by decide) (hts _ flX1_stamp_14) (fun _ h9 => h9) rfl dX1_stamp_33 ?_
  refine lv_iconst (v := (nI 2)) hx hb dX1_stamp_36 (by decide) ?_
  refine lv_iload_n hx hb dX1_stamp_37 rfl (lv_at hl 1 rfl) ?_
  refine lv_iload_n hx hb dX1_stamp_38 rfl (lv_at hl 2 rfl) ?_
  refine k_I (wr := wM h0 a0 a1 a2 a3 a4 a5 cI cZ 0 bf pw hs lo lg rt nb (nI fi) (nI fo) (nI en) off cu ma) hP hD hS hA (va_runS (As := [.int (nI ar), .int (nI pg)]) (rest := [.int (nI 2), .ref a2]) ⟨hx, hb, hml, hown, hts⟩ ((tX1_place ar pg) _) (va_cwS 2 hts gX1_stamp_X1_place rfl rfl rfl (by decide +kernel) ⟨Nat.le_of_ble_eq_true rfl, Nat.le_of_ble_eq_true rfl⟩) (pS_B hP hD hK [] rfl [] rfl rfl) rfl rfl hl.1 rfl (lv_room (Nat.le_of_ble_eq_true rfl)) dX1_stamp_39 ⟨Nat.le_of_ble_eq_true rfl, Nat.le_of_ble_eq_true rfl⟩) [] [0, 1, 2, 3, 4, 5, 6] rfl rfl rfl (by decide) (fun H locs hP hD hS => ?_)
  have hP : va_P D vwCl (wM h0 a0 a1 a2 a3 a4 a5 cI cZ 0 bf pw hs lo lg rt nb (nI fi) (nI fo) (nI en) off cu ma) H := hP
  have hD : va_D A (wM h0 a0 a1 a2 a3 a4 a5 cI cZ 0 bf pw hs lo lg rt nb (nI fi) (nI fo) (nI en) off cu ma) := hD
  refine n_imulc hx hb dX1_stamp_42 ?_
  refine lv_iload_n hx hb dX1_stamp_43 rfl (lv_at hl 3 rfl) ?_
  refine n_iadd hx hb dX1_stamp_44 ?_
  refine n_iald hx hb hK hP 3 0 rfl rfl (((ar * 256 + pg) * 2) + hf) (by omega) (by omega) dX1_stamp_45 ?_
  exact e_I hx hb hr hlocks hP hD hS rfl dX1_stamp_46
set_option maxHeartbeats 4000000 in
set_option maxRecDepth 100000 in
theorem tX1_count_xb {l : Launch} {D : va_G} {cI cZ : ClassId} {h0 a0 a1 a2 a3 a4 a5 : Nat} (th : Int32) (bf pw hs lo lg rt : Nat → Int32) (nb : Int32) (fi fo en : Nat) (off cu ma : Int32) (x y : Int32) (h : badC x y) : RI l yX1_count wsX1_count 8 0 0 D (tyC cI cZ) (wM h0 a0 a1 a2 a3 a4 a5 cI cZ th bf pw hs lo lg rt nb (nI fi) (nI fo) (nI en) off cu ma) [.ref h0, .int x, .int y] 0 (wM h0 a0 a1 a2 a3 a4 a5 cI cZ 1 bf pw hs lo lg rt nb (nI fi) (nI fo) (nI en) off cu ma) := by
  refine st_I (cc := cX1_count) (maxL := 5) (ret := (some .int)) (by decide +kernel) rfl (Nat.le_of_ble_eq_true rfl) ?_
  intro p e s m below meth c A hx hb hr hts hown hml hlocks hK hP hD hA hS ls hl
  have hown : s.vm.findClass RX1 = some m.cls := hown
  have hl : lv_has ls 5 [(0, .ref h0), (1, .int x), (2, .int y)] := hl
  rcases h with h | ⟨ar, h1, rfl, h⟩
  · refine lv_aload_n hx hb dX1_count_0 rfl (lv_at hl 0 rfl) ?_
    refine lv_iload_n hx hb dX1_count_1 rfl (lv_at hl 1 rfl) ?_
    refine lv_iconst (v := (nI 0)) hx hb dX1_count_2 (by decide) ?_
    refine lv_iconst (v := (nI 1)) hx hb dX1_count_3 (by decide) ?_
    refine k_I (wr := wM h0 a0 a1 a2 a3 a4 a5 cI cZ th bf pw hs lo lg rt nb (nI fi) (nI fo) (nI en) off cu ma) hP hD hS hA (va_runS (As := [.int x, .int (nI 0), .int (nI 1)]) (rest := [.ref h0]) ⟨hx, hb, hml, hown, hts⟩ ((tX1_in_e x (nI 0) (nI 1) 0 (sp_in_f (ix_in 1 (by omega) h))) _) (va_cwS 3 hts gX1_count_X1_in rfl rfl rfl (by decide +kernel) ⟨Nat.le_of_ble_eq_true rfl, Nat.le_of_ble_eq_true rfl⟩) (pS_B hP hD hK [] rfl [] rfl rfl) rfl rfl hl.1 rfl (lv_room (Nat.le_of_ble_eq_true rfl)) dX1_count_4 ⟨Nat.le_of_ble_eq_true rfl, Nat.le_of_ble_eq_true rfl⟩) [] [0, 1, 2, 3, 4, 5, 6] rfl rfl rfl (by decide) (fun H locs hP hD hS => ?_)
    have hP : va_P D vwCl (wM h0 a0 a1 a2 a3 a4 a5 cI cZ th bf pw hs lo lg rt nb (nI fi) (nI fo) (nI en) off cu ma) H := hP
    have hD : va_D A (wM h0 a0 a1 a2 a3 a4 a5 cI cZ th bf pw hs lo lg rt nb (nI fi) (nI fo) (nI en) off cu ma) := hD
    refine lv_if_eq (tgt := 19) hx hb dX1_count_7 (by decide) (fun c_7 => ?_) (fun c_7 => absurd (by decide) c_7)
    refine lv_iconst (v := (1)) hx hb dX1_count_19 (by decide) ?_
    refine lv_goto (tgt := 24) hx hb dX1_count_20 (by decide) ?_
    refine lv_iconst (v := (0)) hx hb dX1_count_24 (by decide) ?_
    refine k_I (wr := []) hP hD hS hA (va_runV (As := [.int 1, .int 0]) (rest := []) ⟨hx, hb, hml, hown, hts⟩ ((tX1_refused_1 th bf pw hs lo lg rt nb fi fo en off cu ma 0) _) (cwV 2 hts gX1_count_X1_refused rfl rfl rfl (by decide +kernel) ⟨Nat.le_of_ble_eq_true rfl, Nat.le_of_ble_eq_true rfl⟩) (pV_B hP hD hK (ci := 1) (q0 := 0) rfl rfl rfl [0, 1] rfl [0, 1, 2, 3, 4, 5, 6] rfl rfl) rfl rfl hl.1 rfl (lv_room (Nat.le_of_ble_eq_true rfl)) dX1_count_25 ⟨Nat.le_of_ble_eq_true rfl, Nat.le_of_ble_eq_true rfl⟩) [0, 1, 2, 3, 4, 5, 6] [] rfl rfl rfl (by decide) (fun H locs hP hD hS => ?_)
    have hP : va_P D vwCl (wM h0 a0 a1 a2 a3 a4 a5 cI cZ 1 bf pw hs lo lg rt nb (nI fi) (nI fo) (nI en) off cu ma) H := hP
    have hD : va_D A (wM h0 a0 a1 a2 a3 a4 a5 cI cZ 1 bf pw hs lo lg rt nb (nI fi) (nI fo) (nI en) off cu ma) := hD
    refine lv_if_eq (tgt := 33) hx hb dX1_count_28 (by decide) (fun c_28 => absurd c_28 (by decide)) (fun c_28 => ?_)
    refine lv_iconst (v := (0)) hx hb dX1_count_31 (by decide) ?_
    exact e_I hx hb hr hlocks hP hD hS rfl dX1_count_32
  · refine lv_aload_n hx hb dX1_count_0 rfl (lv_at hl 0 rfl) ?_
    refine lv_iload_n hx hb dX1_count_1 rfl (lv_at hl 1 rfl) ?_
    refine lv_iconst (v := (nI 0)) hx hb dX1_count_2 (by decide) ?_
    refine lv_iconst (v := (nI 1)) hx hb dX1_count_3 (by decide) ?_
    refine k_I (wr := wM h0 a0 a1 a2 a3 a4 a5 cI cZ th bf pw hs lo lg rt nb (nI fi) (nI fo) (nI en) off cu ma) hP hD hS hA (va_runS (As := [.int (nI ar), .int (nI 0), .int (nI 1)]) (rest := [.ref h0]) ⟨hx, hb, hml, hown, hts⟩ ((tX1_in_e (nI ar) (nI 0) (nI 1) 1 (sp_in_t (by omega) (by omega) (by omega))) _) (va_cwS 3 hts gX1_count_X1_in rfl rfl rfl (by decide +kernel) ⟨Nat.le_of_ble_eq_true rfl, Nat.le_of_ble_eq_true rfl⟩) (pS_B hP hD hK [] rfl [] rfl rfl) rfl rfl hl.1 rfl (lv_room (Nat.le_of_ble_eq_true rfl)) dX1_count_4 ⟨Nat.le_of_ble_eq_true rfl, Nat.le_of_ble_eq_true rfl⟩) [] [0, 1, 2, 3, 4, 5, 6] rfl rfl rfl (by decide) (fun H locs hP hD hS => ?_)
    have hP : va_P D vwCl (wM h0 a0 a1 a2 a3 a4 a5 cI cZ th bf pw hs lo lg rt nb (nI fi) (nI fo) (nI en) off cu ma) H := hP
    have hD : va_D A (wM h0 a0 a1 a2 a3 a4 a5 cI cZ th bf pw hs lo lg rt nb (nI fi) (nI fo) (nI en) off cu ma) := hD
    refine lv_if_eq (tgt := 19) hx hb dX1_count_7 (by decide) (fun c_7 => absurd c_7 (by decide)) (fun c_7 => ?_)
    refine lv_iload_n hx hb dX1_count_10 rfl (lv_at hl 2 rfl) ?_
    refine lv_iconst (v := (nI 0)) hx hb dX1_count_11 (by decide) ?_
    refine lv_iconst (v := (nI 2)) hx hb dX1_count_12 (by decide) ?_
    refine k_I (wr := wM h0 a0 a1 a2 a3 a4 a5 cI cZ th bf pw hs lo lg rt nb (nI fi) (nI fo) (nI en) off cu ma) hP hD hS hA (va_runS (As := [.int y, .int (nI 0), .int (nI 2)]) (rest := [.ref h0]) ⟨hx, hb, hml, hown, hts⟩ ((tX1_in_e y (nI 0) (nI 2) 0 (sp_in_f (ix_in 2 (by omega) h))) _) (va_cwS 3 hts gX1_count_X1_in rfl rfl rfl (by decide +kernel) ⟨Nat.le_of_ble_eq_true rfl, Nat.le_of_ble_eq_true rfl⟩) (pS_B hP hD hK [] rfl [] rfl rfl) rfl rfl hl.1 rfl (lv_room (Nat.le_of_ble_eq_true rfl)) dX1_count_13 ⟨Nat.le_of_ble_eq_true rfl, Nat.le_of_ble_eq_true rfl⟩) [] [0, 1, 2, 3, 4, 5, 6] rfl rfl rfl (by decide) (fun H locs hP hD hS => ?_)
    have hP : va_P D vwCl (wM h0 a0 a1 a2 a3 a4 a5 cI cZ th bf pw hs lo lg rt nb (nI fi) (nI fo) (nI en) off cu ma) H := hP
    have hD : va_D A (wM h0 a0 a1 a2 a3 a4 a5 cI cZ th bf pw hs lo lg rt nb (nI fi) (nI fo) (nI en) off cu ma) := hD
    refine lv_if_ne (tgt := 23) hx hb dX1_count_16 (by decide) (fun c_16 => absurd (by decide) c_16) (fun c_16 => ?_)
    refine lv_iconst (v := (1)) hx hb dX1_count_19 (by decide) ?_
    refine lv_goto (tgt := 24) hx hb dX1_count_20 (by decide) ?_
    refine lv_iconst (v := (0)) hx hb dX1_count_24 (by decide) ?_
    refine k_I (wr := []) hP hD hS hA (va_runV (As := [.int 1, .int 0]) (rest := []) ⟨hx, hb, hml, hown, hts⟩ ((tX1_refused_1 th bf pw hs lo lg rt nb fi fo en off cu ma 0) _) (cwV 2 hts gX1_count_X1_refused rfl rfl rfl (by decide +kernel) ⟨Nat.le_of_ble_eq_true rfl, Nat.le_of_ble_eq_true rfl⟩) (pV_B hP hD hK (ci := 1) (q0 := 0) rfl rfl rfl [0, 1] rfl [0, 1, 2, 3, 4, 5, 6] rfl rfl) rfl rfl hl.1 rfl (lv_room (Nat.le_of_ble_eq_true rfl)) dX1_count_25 ⟨Nat.le_of_ble_eq_true rfl, Nat.le_of_ble_eq_true rfl⟩) [0, 1, 2, 3, 4, 5, 6] [] rfl rfl rfl (by decide) (fun H locs hP hD hS => ?_)
    have hP : va_P D vwCl (wM h0 a0 a1 a2 a3 a4 a5 cI cZ 1 bf pw hs lo lg rt nb (nI fi) (nI fo) (nI en) off cu ma) H := hP
    have hD : va_D A (wM h0 a0 a1 a2 a3 a4 a5 cI cZ 1 bf pw hs lo lg rt nb (nI fi) (nI fo) (nI en) off cu ma) := hD
    refine lv_if_eq (tgt := 33) hx hb dX1_count_28 (by decide) (fun c_28 => absurd c_28 (by decide)) (fun c_28 => ?_)
    refine lv_iconst (v := (0)) hx hb dX1_count_31 (by decide) ?_
    exact e_I hx hb hr hlocks hP hD hS rfl dX1_count_32
set_option maxHeartbeats 4000000 in
set_option maxRecDepth 100000 in
theorem tX1_count_ok {l : Launch} {D : va_G} {cI cZ : ClassId} {h0 a0 a1 a2 a3 a4 a5 : Nat} (th : Int32) (bf pw hs lo lg rt : Nat → Int32) (nb : Int32) (fi fo en : Nat) (off cu ma : Int32) (ar st : Nat) (h1 : ar < 2) (h2 : st < 3) : RI l yX1_count wsX1_count 8 0 0 D (tyC cI cZ) (wM h0 a0 a1 a2 a3 a4 a5 cI cZ th bf pw hs lo lg rt nb (nI fi) (nI fo) (nI en) off cu ma) [.ref h0, .int (nI ar), .int (nI st)] (sp_ct lo hs ar (nI st) 256) (wM h0 a0 a1 a2 a3 a4 a5 cI cZ 0 bf pw hs lo lg rt nb (nI fi) (nI fo) (nI en) off cu ma) := by
  refine st_I (cc := cX1_count) (maxL := 5) (ret := (some .int)) (by decide +kernel) rfl (Nat.le_of_ble_eq_true rfl) ?_
  intro p e s m below meth c A hx hb hr hts hown hml hlocks hK hP hD hA hS ls hl
  have hown : s.vm.findClass RX1 = some m.cls := hown
  have hl : lv_has ls 5 [(0, .ref h0), (1, .int (nI ar)), (2, .int (nI st))] := hl
  refine lv_aload_n hx hb dX1_count_0 rfl (lv_at hl 0 rfl) ?_
  refine lv_iload_n hx hb dX1_count_1 rfl (lv_at hl 1 rfl) ?_
  refine lv_iconst (v := (nI 0)) hx hb dX1_count_2 (by decide) ?_
  refine lv_iconst (v := (nI 1)) hx hb dX1_count_3 (by decide) ?_
  refine k_I (wr := wM h0 a0 a1 a2 a3 a4 a5 cI cZ th bf pw hs lo lg rt nb (nI fi) (nI fo) (nI en) off cu ma) hP hD hS hA (va_runS (As := [.int (nI ar), .int (nI 0), .int (nI 1)]) (rest := [.ref h0]) ⟨hx, hb, hml, hown, hts⟩ ((tX1_in_e (nI ar) (nI 0) (nI 1) 1 (sp_in_t (by omega) (by omega) (by omega))) _) (va_cwS 3 hts gX1_count_X1_in rfl rfl rfl (by decide +kernel) ⟨Nat.le_of_ble_eq_true rfl, Nat.le_of_ble_eq_true rfl⟩) (pS_B hP hD hK [] rfl [] rfl rfl) rfl rfl hl.1 rfl (lv_room (Nat.le_of_ble_eq_true rfl)) dX1_count_4 ⟨Nat.le_of_ble_eq_true rfl, Nat.le_of_ble_eq_true rfl⟩) [] [0, 1, 2, 3, 4, 5, 6] rfl rfl rfl (by decide) (fun H locs hP hD hS => ?_)
  have hP : va_P D vwCl (wM h0 a0 a1 a2 a3 a4 a5 cI cZ th bf pw hs lo lg rt nb (nI fi) (nI fo) (nI en) off cu ma) H := hP
  have hD : va_D A (wM h0 a0 a1 a2 a3 a4 a5 cI cZ th bf pw hs lo lg rt nb (nI fi) (nI fo) (nI en) off cu ma) := hD
  refine lv_if_eq (tgt := 19) hx hb dX1_count_7 (by decide) (fun c_7 => absurd c_7 (by decide)) (fun c_7 => ?_)
  refine lv_iload_n hx hb dX1_count_10 rfl (lv_at hl 2 rfl) ?_
  refine lv_iconst (v := (nI 0)) hx hb dX1_count_11 (by decide) ?_
  refine lv_iconst (v := (nI 2)) hx hb dX1_count_12 (by decide) ?_
  refine k_I (wr := wM h0 a0 a1 a2 a3 a4 a5 cI cZ th bf pw hs lo lg rt nb (nI fi) (nI fo) (nI en) off cu ma) hP hD hS hA (va_runS (As := [.int (nI st), .int (nI 0), .int (nI 2)]) (rest := [.ref h0]) ⟨hx, hb, hml, hown, hts⟩ ((tX1_in_e (nI st) (nI 0) (nI 2) 1 (sp_in_t (by omega) (by omega) (by omega))) _) (va_cwS 3 hts gX1_count_X1_in rfl rfl rfl (by decide +kernel) ⟨Nat.le_of_ble_eq_true rfl, Nat.le_of_ble_eq_true rfl⟩) (pS_B hP hD hK [] rfl [] rfl rfl) rfl rfl hl.1 rfl (lv_room (Nat.le_of_ble_eq_true rfl)) dX1_count_13 ⟨Nat.le_of_ble_eq_true rfl, Nat.le_of_ble_eq_true rfl⟩) [] [0, 1, 2, 3, 4, 5, 6] rfl rfl rfl (by decide) (fun H locs hP hD hS => ?_)
  have hP : va_P D vwCl (wM h0 a0 a1 a2 a3 a4 a5 cI cZ th bf pw hs lo lg rt nb (nI fi) (nI fo) (nI en) off cu ma) H := hP
  have hD : va_D A (wM h0 a0 a1 a2 a3 a4 a5 cI cZ th bf pw hs lo lg rt nb (nI fi) (nI fo) (nI en) off cu ma) := hD
  refine lv_if_ne (tgt := 23) hx hb dX1_count_16 (by decide) (fun c_16 => ?_) (fun c_16 => absurd c_16 (by decide))
  refine lv_iconst (v := (0)) hx hb dX1_count_23 (by decide) ?_
  refine lv_iconst (v := (0)) hx hb dX1_count_24 (by decide) ?_
  refine k_I (wr := []) hP hD hS hA (va_runV (As := [.int 0, .int 0]) (rest := []) ⟨hx, hb, hml, hown, hts⟩ ((tX1_refused_0 th bf pw hs lo lg rt nb fi fo en off cu ma) _) (cwV 2 hts gX1_count_X1_refused rfl rfl rfl (by decide +kernel) ⟨Nat.le_of_ble_eq_true rfl, Nat.le_of_ble_eq_true rfl⟩) (pV_B hP hD hK (ci := 1) (q0 := 0) rfl rfl rfl [0, 1] rfl [0, 1, 2, 3, 4, 5, 6] rfl rfl) rfl rfl hl.1 rfl (lv_room (Nat.le_of_ble_eq_true rfl)) dX1_count_25 ⟨Nat.le_of_ble_eq_true rfl, Nat.le_of_ble_eq_true rfl⟩) [0, 1, 2, 3, 4, 5, 6] [] rfl rfl rfl (by decide) (fun H locs hP hD hS => ?_)
  have hP : va_P D vwCl (wM h0 a0 a1 a2 a3 a4 a5 cI cZ 0 bf pw hs lo lg rt nb (nI fi) (nI fo) (nI en) off cu ma) H := hP
  have hD : va_D A (wM h0 a0 a1 a2 a3 a4 a5 cI cZ 0 bf pw hs lo lg rt nb (nI fi) (nI fo) (nI en) off cu ma) := hD
  refine lv_if_eq (tgt := 33) hx hb dX1_count_28 (by decide) (fun c_28 => ?_) (fun c_28 => absurd (by decide) c_28)
  refine lv_iconst (v := (0)) hx hb dX1_count_33 (by decide) ?_
  refine lv_istore_n (lv' := [(3, .int 0), (0, .ref h0), (1, .int (nI ar)), (2, .int (nI st))]) hx hb dX1_count_34 rfl hl (by decide) rfl (fun ls hl => ?_)
  refine lv_iconst (v := (nI 0)) hx hb dX1_count_35 (by decide) ?_
  refine lv_istore (lv' := [(4, .int (nI 0)), (3, .int 0), (0, .ref h0), (1, .int (nI ar)), (2, .int (nI st))]) hx hb dX1_count_36 hl (by decide) rfl (fun ls hl => ?_)
  have lp_38 : ∀ (n9 i : Nat), i + n9 = 256 → ∀ (H : Heap) (locs : List Loc) (ls : Array Slot), va_P D vwCl (wM h0 a0 a1 a2 a3 a4 a5 cI cZ 0 bf pw hs lo lg rt nb (nI fi) (nI fo) (nI en) off cu ma) H → va_D A (wM h0 a0 a1 a2 a3 a4 a5 cI cZ 0 bf pw hs lo lg rt nb (nI fi) (nI fo) (nI en) off cu ma) → va_S A s.heap H locs → lv_has ls 5 [(0, .ref h0), (1, .int (nI ar)), (2, .int (nI st)), (3, .int (sp_ct lo hs ar (nI st) i)), (4, .int (nI i))] → W p l e (rmL 8 0 0) s m ([.ref h0, .int (nI ar), .int (nI st)] : List Value).toArray below meth c H locs 0 0 (MQ below (qcI D A (sp_ct lo hs ar (nI st) 256) (wM h0 a0 a1 a2 a3 a4 a5 cI cZ 0 bf pw hs lo lg rt nb (nI fi) (nI fo) (nI en) off cu ma)) ([.ref h0, .int (nI ar), .int (nI st)] : List Value).toArray s 0 0 A) (F0 m 38 ls []) := by
    intro n9
    induction n9 with
    | zero =>
      intro i hi H locs ls hP hD hS hl
      obtain rfl : i = 256 := by omega
      refine lv_iload hx hb dX1_count_38 (lv_at hl 4 rfl) ?_
      refine lv_sipush (v := (nI 256)) hx hb dX1_count_40 (by decide) ?_
      refine n_ge (tgt := 74) hx hb (by omega) (by omega) dX1_count_43 (by decide) (fun c_43 => ?_) (fun c_43 => absurd c_43 (by omega))
      refine lv_iload_n hx hb dX1_count_74 rfl (lv_at hl 3 rfl) ?_
      exact e_I hx hb hr hlocks hP hD hS rfl dX1_count_75
    | succ n9 ih =>
      intro i hi H locs ls hP hD hS hl
      refine lv_iload hx hb dX1_count_38 (lv_at hl 4 rfl) ?_
      refine lv_sipush (v := (nI 256)) hx hb dX1_count_40 (by decide) ?_
      refine n_ge (tgt := 74) hx hb (by omega) (by omega) dX1_count_43 (by decide) (fun c_43 => absurd c_43 (by omega)) (fun c_43 => ?_)
      refine lv_aload_n hx hb dX1_count_46 rfl (lv_at hl 0 rfl) ?_
      refine lv_iload_n hx hb dX1_count_47 rfl (lv_at hl 1 rfl) ?_
      refine lv_iload hx hb dX1_count_48 (lv_at hl 4 rfl) ?_
      refine k_I (wr := wM h0 a0 a1 a2 a3 a4 a5 cI cZ 0 bf pw hs lo lg rt nb (nI fi) (nI fo) (nI en) off cu ma) hP hD hS hA (va_runS (As := [.int (nI ar), .int (nI i)]) (rest := [.ref h0]) ⟨hx, hb, hml, hown, hts⟩ ((tX1_place ar i) _) (va_cwS 2 hts gX1_count_X1_place rfl rfl rfl (by decide +kernel) ⟨Nat.le_of_ble_eq_true rfl, Nat.le_of_ble_eq_true rfl⟩) (pS_B hP hD hK [] rfl [] rfl rfl) rfl rfl hl.1 rfl (lv_room (Nat.le_of_ble_eq_true rfl)) dX1_count_50 ⟨Nat.le_of_ble_eq_true rfl, Nat.le_of_ble_eq_true rfl⟩) [] [0, 1, 2, 3, 4, 5, 6] rfl rfl rfl (by decide) (fun H locs hP hD hS => ?_)
      have hP : va_P D vwCl (wM h0 a0 a1 a2 a3 a4 a5 cI cZ 0 bf pw hs lo lg rt nb (nI fi) (nI fo) (nI en) off cu ma) H := hP
      have hD : va_D A (wM h0 a0 a1 a2 a3 a4 a5 cI cZ 0 bf pw hs lo lg rt nb (nI fi) (nI fo) (nI en) off cu ma) := hD
      refine k_I (wr := []) hP hD hS hA (va_runV (As := [.int (nI (ar * 256 + i))]) (rest := []) ⟨hx, hb, hml, hown, hts⟩ ((tX1_stateOf 0 bf pw hs lo lg rt nb fi fo en off cu ma (ar * 256 + i) (by omega)) _) (cwV 1 hts gX1_count_X1_stateOf rfl rfl rfl (by decide +kernel) ⟨Nat.le_of_ble_eq_true rfl, Nat.le_of_ble_eq_true rfl⟩) (pV_B hP hD hK (ci := 1) (q0 := 0) rfl rfl rfl [0, 1] rfl [0, 1, 2, 3, 4, 5, 6] rfl rfl) rfl rfl hl.1 rfl (lv_room (Nat.le_of_ble_eq_true rfl)) dX1_count_53 ⟨Nat.le_of_ble_eq_true rfl, Nat.le_of_ble_eq_true rfl⟩) [0, 1, 2, 3, 4, 5, 6] [] rfl rfl rfl (by decide) (fun H locs hP hD hS => ?_)
      have hP : va_P D vwCl (wM h0 a0 a1 a2 a3 a4 a5 cI cZ 0 bf pw hs lo lg rt nb (nI fi) (nI fo) (nI en) off cu ma) H := hP
      have hD : va_D A (wM h0 a0 a1 a2 a3 a4 a5 cI cZ 0 bf pw hs lo lg rt nb (nI fi) (nI fo) (nI en) off cu ma) := hD
      refine lv_iload_n hx hb dX1_count_56 rfl (lv_at hl 2 rfl) ?_
      refine lv_icmp_ne (tgt := 66) hx hb dX1_count_57 (by decide) (fun c_57 => ?_) (fun c_57 => ?_)
      · refine lv_iload_n hx hb dX1_count_66 rfl (lv_at hl 3 rfl) ?_
        refine lv_istore_n (lv' := [(3, .int (sp_ct lo hs ar (nI st) i)), (0, .ref h0), (1, .int (nI ar)), (2, .int (nI st)), (4, .int (nI i))]) hx hb dX1_count_67 rfl hl (by decide) rfl (fun ls hl => ?_)
        refine n_iinc (lv' := [(4, .int (nI (i + 1))), (3, .int (sp_ct lo hs ar (nI st) i)), (0, .ref h0), (1, .int (nI ar)), (2, .int (nI st))]) hx hb dX1_count_68 hl (k := 4) rfl (by decide) rfl (fun ls hl => ?_)
        refine lv_goto (tgt := 38) hx hb dX1_count_71 (by decide) ?_
        have e9 : sp_ct lo hs ar (nI st) (i + 1) = sp_ct lo hs ar (nI st) i := by simp [sp_ct, c_57]
        rw [← e9] at hl
        have hP : va_P D vwCl (wM h0 a0 a1 a2 a3 a4 a5 cI cZ 0 bf pw hs lo lg rt nb (nI fi) (nI fo) (nI en) off cu ma) H := by skip; exact hP
        have hD : va_D A (wM h0 a0 a1 a2 a3 a4 a5 cI cZ 0 bf pw hs lo lg rt nb (nI fi) (nI fo) (nI en) off cu ma) := by skip; exact hD
        exact ih (i + 1) (by omega) _ _ _ hP hD hS (lv_sub hl [2, 3, 4, 1, 0] rfl)
      · refine lv_iload_n hx hb dX1_count_60 rfl (lv_at hl 3 rfl) ?_
        refine lv_iconst (v := (1)) hx hb dX1_count_61 (by decide) ?_
        refine lv_iadd hx hb dX1_count_62 ?_
        refine lv_goto (tgt := 67) hx hb dX1_count_63 (by decide) ?_
        refine lv_istore_n (lv' := [(3, .int ((sp_ct lo hs ar (nI st) i) + 1)), (0, .ref h0), (1, .int (nI ar)), (2, .int (nI st)), (4, .int (nI i))]) hx hb dX1_count_67 rfl hl (by decide) rfl (fun ls hl => ?_)
        refine n_iinc (lv' := [(4, .int (nI (i + 1))), (3, .int ((sp_ct lo hs ar (nI st) i) + 1)), (0, .ref h0), (1, .int (nI ar)), (2, .int (nI st))]) hx hb dX1_count_68 hl (k := 4) rfl (by decide) rfl (fun ls hl => ?_)
        refine lv_goto (tgt := 38) hx hb dX1_count_71 (by decide) ?_
        have e9 : sp_ct lo hs ar (nI st) (i + 1) = (sp_ct lo hs ar (nI st) i) + 1 := by simp [sp_ct, c_57]
        rw [← e9] at hl
        have hP : va_P D vwCl (wM h0 a0 a1 a2 a3 a4 a5 cI cZ 0 bf pw hs lo lg rt nb (nI fi) (nI fo) (nI en) off cu ma) H := by skip; exact hP
        have hD : va_D A (wM h0 a0 a1 a2 a3 a4 a5 cI cZ 0 bf pw hs lo lg rt nb (nI fi) (nI fo) (nI en) off cu ma) := by skip; exact hD
        exact ih (i + 1) (by omega) _ _ _ hP hD hS (lv_sub hl [2, 3, 4, 1, 0] rfl)
  have hP : va_P D vwCl (wM h0 a0 a1 a2 a3 a4 a5 cI cZ 0 bf pw hs lo lg rt nb (nI fi) (nI fo) (nI en) off cu ma) H := by skip; exact hP
  have hD : va_D A (wM h0 a0 a1 a2 a3 a4 a5 cI cZ 0 bf pw hs lo lg rt nb (nI fi) (nI fo) (nI en) off cu ma) := by skip; exact hD
  exact lp_38 256 0 (by omega) _ _ _ hP hD hS (lv_sub hl [2, 3, 4, 1, 0] rfl)
