/-! OWN ROWS, by program: the reference, its log, roots and power -/
set_option maxHeartbeats 4000000 in
set_option maxRecDepth 100000 in
theorem tX1_append_x0 {l : Launch} {D : va_G} {cI cZ : ClassId} {h0 a0 a1 a2 a3 a4 a5 : Nat} (th : Int32) (bf pw hs lo lg rt : Nat → Int32) (nb : Int32) (fi fo en : Nat) (cu ma : Int32) (x : Int32) : RI l yX1_append wsX1_append 8 0 0 D (tyC cI cZ) (wM h0 a0 a1 a2 a3 a4 a5 cI cZ th bf pw hs lo lg rt nb (nI fi) (nI fo) (nI en) 1 cu ma) [.ref h0, .int x] 0 (wM h0 a0 a1 a2 a3 a4 a5 cI cZ 1 bf pw hs lo lg rt nb (nI fi) (nI fo) (nI en) 1 cu ma) := by
  refine st_I (cc := cX1_append) (maxL := 4) (ret := (some .int)) (by decide +kernel) rfl (Nat.le_of_ble_eq_true rfl) ?_
  intro p e s m below meth c A hx hb hr hts hown hml hlocks hK hP hD hA hS ls hl
  have hown : s.vm.findClass RX1 = some m.cls := hown
  have hl : lv_has ls 4 [(0, .ref h0), (1, .int x)] := hl
  refine lv_aload_n hx hb dX1_append_0 rfl (lv_at hl 0 rfl) ?_
  refine lv_aload_n hx hb dX1_append_1 rfl (lv_at hl 0 rfl) ?_
  refine va_get (ci := 1) (v := .int 1) (C := RX1) (T := TX1) (N := 14) hx hb hts inX1_append hown hK hP 0 rfl rfl 12 (by decide) (hts _ flX1_append_45) (fun _ h9 => h9) rfl dX1_append_2 ?_
  refine lv_iload_n hx hb dX1_append_5 rfl (lv_at hl 1 rfl) ?_
  refine lv_iconst (v := (nI 1)) hx hb dX1_append_6 (by decide) ?_
  refine lv_bipush (v := (nI 64)) hx hb dX1_append_7 (by decide) ?_
  refine k_I (wr := wM h0 a0 a1 a2 a3 a4 a5 cI cZ th bf pw hs lo lg rt nb (nI fi) (nI fo) (nI en) 1 cu ma) hP hD hS hA (va_runS (As := [.int x, .int (nI 1), .int (nI 64)]) (rest := [.int 1, .ref h0]) ⟨hx, hb, hml, hown, hts⟩ ((tX1_in_e x (nI 1) (nI 64) (sp_in x (nI 1) (nI 64)) rfl) _) (va_cwS 3 hts gX1_append_X1_in rfl rfl rfl (by decide +kernel) ⟨Nat.le_of_ble_eq_true rfl, Nat.le_of_ble_eq_true rfl⟩) (pS_B hP hD hK [] rfl [] rfl rfl) rfl rfl hl.1 rfl (lv_room (Nat.le_of_ble_eq_true rfl)) dX1_append_9 ⟨Nat.le_of_ble_eq_true rfl, Nat.le_of_ble_eq_true rfl⟩) [] [0, 1, 2, 3, 4, 5, 6] rfl rfl rfl (by decide) (fun H locs hP hD hS => ?_)
  have hP : va_P D vwCl (wM h0 a0 a1 a2 a3 a4 a5 cI cZ th bf pw hs lo lg rt nb (nI fi) (nI fo) (nI en) 1 cu ma) H := hP
  have hD : va_D A (wM h0 a0 a1 a2 a3 a4 a5 cI cZ th bf pw hs lo lg rt nb (nI fi) (nI fo) (nI en) 1 cu ma) := hD
  refine lv_if_ne (tgt := 19) hx hb dX1_append_12 (by decide) (fun c_12 => ?_) (fun c_12 => ?_)
  · refine lv_iconst (v := (0)) hx hb dX1_append_19 (by decide) ?_
    refine k_I (wr := []) hP hD hS hA (va_runV (As := [.int 1, .int 0]) (rest := []) ⟨hx, hb, hml, hown, hts⟩ ((tX1_refused_1 th bf pw hs lo lg rt nb fi fo en 1 cu ma 0) _) (cwV 2 hts gX1_append_X1_refused rfl rfl rfl (by decide +kernel) ⟨Nat.le_of_ble_eq_true rfl, Nat.le_of_ble_eq_true rfl⟩) (pV_B hP hD hK (ci := 1) (q0 := 0) rfl rfl rfl [0, 1] rfl [0, 1, 2, 3, 4, 5, 6] rfl rfl) rfl rfl hl.1 rfl (lv_room (Nat.le_of_ble_eq_true rfl)) dX1_append_20 ⟨Nat.le_of_ble_eq_true rfl, Nat.le_of_ble_eq_true rfl⟩) [0, 1, 2, 3, 4, 5, 6] [] rfl rfl rfl (by decide) (fun H locs hP hD hS => ?_)
    have hP : va_P D vwCl (wM h0 a0 a1 a2 a3 a4 a5 cI cZ 1 bf pw hs lo lg rt nb (nI fi) (nI fo) (nI en) 1 cu ma) H := hP
    have hD : va_D A (wM h0 a0 a1 a2 a3 a4 a5 cI cZ 1 bf pw hs lo lg rt nb (nI fi) (nI fo) (nI en) 1 cu ma) := hD
    refine lv_if_eq (tgt := 28) hx hb dX1_append_23 (by decide) (fun c_23 => absurd c_23 (by decide)) (fun c_23 => ?_)
    refine lv_iconst (v := (0)) hx hb dX1_append_26 (by decide) ?_
    exact e_I hx hb hr hlocks hP hD hS rfl dX1_append_27
  · refine lv_iconst (v := (1)) hx hb dX1_append_15 (by decide) ?_
    refine lv_goto (tgt := 20) hx hb dX1_append_16 (by decide) ?_
    refine k_I (wr := []) hP hD hS hA (va_runV (As := [.int 1, .int 1]) (rest := []) ⟨hx, hb, hml, hown, hts⟩ ((tX1_refused_1 th bf pw hs lo lg rt nb fi fo en 1 cu ma 1) _) (cwV 2 hts gX1_append_X1_refused rfl rfl rfl (by decide +kernel) ⟨Nat.le_of_ble_eq_true rfl, Nat.le_of_ble_eq_true rfl⟩) (pV_B hP hD hK (ci := 1) (q0 := 0) rfl rfl rfl [0, 1] rfl [0, 1, 2, 3, 4, 5, 6] rfl rfl) rfl rfl hl.1 rfl (lv_room (Nat.le_of_ble_eq_true rfl)) dX1_append_20 ⟨Nat.le_of_ble_eq_true rfl, Nat.le_of_ble_eq_true rfl⟩) [0, 1, 2, 3, 4, 5, 6] [] rfl rfl rfl (by decide) (fun H locs hP hD hS => ?_)
    have hP : va_P D vwCl (wM h0 a0 a1 a2 a3 a4 a5 cI cZ 1 bf pw hs lo lg rt nb (nI fi) (nI fo) (nI en) 1 cu ma) H := hP
    have hD : va_D A (wM h0 a0 a1 a2 a3 a4 a5 cI cZ 1 bf pw hs lo lg rt nb (nI fi) (nI fo) (nI en) 1 cu ma) := hD
    refine lv_if_eq (tgt := 28) hx hb dX1_append_23 (by decide) (fun c_23 => absurd c_23 (by decide)) (fun c_23 => ?_)
    refine lv_iconst (v := (0)) hx hb dX1_append_26 (by decide) ?_
    exact e_I hx hb hr hlocks hP hD hS rfl dX1_append_27
set_option maxHeartbeats 4000000 in
set_option maxRecDepth 100000 in
theorem tX1_append_xb {l : Launch} {D : va_G} {cI cZ : ClassId} {h0 a0 a1 a2 a3 a4 a5 : Nat} (th : Int32) (bf pw hs lo lg rt : Nat → Int32) (nb : Int32) (fi fo en : Nat) (cu ma : Int32) (x : Int32) (h : x < nI 1 ∨ nI 64 < x) : RI l yX1_append wsX1_append 8 0 0 D (tyC cI cZ) (wM h0 a0 a1 a2 a3 a4 a5 cI cZ th bf pw hs lo lg rt nb (nI fi) (nI fo) (nI en) 0 cu ma) [.ref h0, .int x] 0 (wM h0 a0 a1 a2 a3 a4 a5 cI cZ 2 bf pw hs lo lg rt nb (nI fi) (nI fo) (nI en) 0 cu ma) := by
  refine st_I (cc := cX1_append) (maxL := 4) (ret := (some .int)) (by decide +kernel) rfl (Nat.le_of_ble_eq_true rfl) ?_
  intro p e s m below meth c A hx hb hr hts hown hml hlocks hK hP hD hA hS ls hl
  have hown : s.vm.findClass RX1 = some m.cls := hown
  have hl : lv_has ls 4 [(0, .ref h0), (1, .int x)] := hl
  refine lv_aload_n hx hb dX1_append_0 rfl (lv_at hl 0 rfl) ?_
  refine lv_aload_n hx hb dX1_append_1 rfl (lv_at hl 0 rfl) ?_
  refine va_get (ci := 1) (v := .int 0) (C := RX1) (T := TX1) (N := 14) hx hb hts inX1_append hown hK hP 0 rfl rfl 12 (by decide) (hts _ flX1_append_45) (fun _ h9 => h9) rfl dX1_append_2 ?_
  refine lv_iload_n hx hb dX1_append_5 rfl (lv_at hl 1 rfl) ?_
  refine lv_iconst (v := (nI 1)) hx hb dX1_append_6 (by decide) ?_
  refine lv_bipush (v := (nI 64)) hx hb dX1_append_7 (by decide) ?_
  refine k_I (wr := wM h0 a0 a1 a2 a3 a4 a5 cI cZ th bf pw hs lo lg rt nb (nI fi) (nI fo) (nI en) 0 cu ma) hP hD hS hA (va_runS (As := [.int x, .int (nI 1), .int (nI 64)]) (rest := [.int 0, .ref h0]) ⟨hx, hb, hml, hown, hts⟩ ((tX1_in_e x (nI 1) (nI 64) 0 (sp_in_f h)) _) (va_cwS 3 hts gX1_append_X1_in rfl rfl rfl (by decide +kernel) ⟨Nat.le_of_ble_eq_true rfl, Nat.le_of_ble_eq_true rfl⟩) (pS_B hP hD hK [] rfl [] rfl rfl) rfl rfl hl.1 rfl (lv_room (Nat.le_of_ble_eq_true rfl)) dX1_append_9 ⟨Nat.le_of_ble_eq_true rfl, Nat.le_of_ble_eq_true rfl⟩) [] [0, 1, 2, 3, 4, 5, 6] rfl rfl rfl (by decide) (fun H locs hP hD hS => ?_)
  have hP : va_P D vwCl (wM h0 a0 a1 a2 a3 a4 a5 cI cZ th bf pw hs lo lg rt nb (nI fi) (nI fo) (nI en) 0 cu ma) H := hP
  have hD : va_D A (wM h0 a0 a1 a2 a3 a4 a5 cI cZ th bf pw hs lo lg rt nb (nI fi) (nI fo) (nI en) 0 cu ma) := hD
  refine lv_if_ne (tgt := 19) hx hb dX1_append_12 (by decide) (fun c_12 => absurd (by decide) c_12) (fun c_12 => ?_)
  refine lv_iconst (v := (1)) hx hb dX1_append_15 (by decide) ?_
  refine lv_goto (tgt := 20) hx hb dX1_append_16 (by decide) ?_
  refine k_I (wr := []) hP hD hS hA (va_runV (As := [.int 0, .int 1]) (rest := []) ⟨hx, hb, hml, hown, hts⟩ ((tX1_refused_2 th bf pw hs lo lg rt nb fi fo en 0 cu ma) _) (cwV 2 hts gX1_append_X1_refused rfl rfl rfl (by decide +kernel) ⟨Nat.le_of_ble_eq_true rfl, Nat.le_of_ble_eq_true rfl⟩) (pV_B hP hD hK (ci := 1) (q0 := 0) rfl rfl rfl [0, 1] rfl [0, 1, 2, 3, 4, 5, 6] rfl rfl) rfl rfl hl.1 rfl (lv_room (Nat.le_of_ble_eq_true rfl)) dX1_append_20 ⟨Nat.le_of_ble_eq_true rfl, Nat.le_of_ble_eq_true rfl⟩) [0, 1, 2, 3, 4, 5, 6] [] rfl rfl rfl (by decide) (fun H locs hP hD hS => ?_)
  have hP : va_P D vwCl (wM h0 a0 a1 a2 a3 a4 a5 cI cZ 2 bf pw hs lo lg rt nb (nI fi) (nI fo) (nI en) 0 cu ma) H := hP
  have hD : va_D A (wM h0 a0 a1 a2 a3 a4 a5 cI cZ 2 bf pw hs lo lg rt nb (nI fi) (nI fo) (nI en) 0 cu ma) := hD
  refine lv_if_eq (tgt := 28) hx hb dX1_append_23 (by decide) (fun c_23 => absurd c_23 (by decide)) (fun c_23 => ?_)
  refine lv_iconst (v := (0)) hx hb dX1_append_26 (by decide) ?_
  exact e_I hx hb hr hlocks hP hD hS rfl dX1_append_27
set_option maxHeartbeats 4000000 in
set_option maxRecDepth 100000 in
theorem tX1_append_ok {l : Launch} {D : va_G} {cI cZ : ClassId} {h0 a0 a1 a2 a3 a4 a5 : Nat} (th : Int32) (bf pw hs lo lg rt : Nat → Int32) (nb : Int32) (fi fo en : Nat) (cu ma : Int32) (k : Nat) (hk : 1 ≤ k) (hk2 : k ≤ 64) (hf : fi ≤ en) (he : en ≤ 60000) : RI l yX1_append wsX1_append 8 0 0 D (tyC cI cZ) (wM h0 a0 a1 a2 a3 a4 a5 cI cZ th bf pw hs lo lg rt nb (nI fi) (nI fo) (nI en) 0 cu ma) [.ref h0, .int (nI k)] (nI en) (wM h0 a0 a1 a2 a3 a4 a5 cI cZ 0 bf pw hs lo (sp_ap bf en lg k) rt nb (nI fi) (nI fo) (nI (en + k)) 0 cu ma) := by
  refine st_I (cc := cX1_append) (maxL := 4) (ret := (some .int)) (by decide +kernel) rfl (Nat.le_of_ble_eq_true rfl) ?_
  intro p e s m below meth c A hx hb hr hts hown hml hlocks hK hP hD hA hS ls hl
  have hown : s.vm.findClass RX1 = some m.cls := hown
  have hl : lv_has ls 4 [(0, .ref h0), (1, .int (nI k))] := hl
  refine lv_aload_n hx hb dX1_append_0 rfl (lv_at hl 0 rfl) ?_
  refine lv_aload_n hx hb dX1_append_1 rfl (lv_at hl 0 rfl) ?_
  refine va_get (ci := 1) (v := .int 0) (C := RX1) (T := TX1) (N := 14) hx hb hts inX1_append hown hK hP 0 rfl rfl 12 (by decide) (hts _ flX1_append_45) (fun _ h9 => h9) rfl dX1_append_2 ?_
  refine lv_iload_n hx hb dX1_append_5 rfl (lv_at hl 1 rfl) ?_
  refine lv_iconst (v := (nI 1)) hx hb dX1_append_6 (by decide) ?_
  refine lv_bipush (v := (nI 64)) hx hb dX1_append_7 (by decide) ?_
  refine k_I (wr := wM h0 a0 a1 a2 a3 a4 a5 cI cZ th bf pw hs lo lg rt nb (nI fi) (nI fo) (nI en) 0 cu ma) hP hD hS hA (va_runS (As := [.int (nI k), .int (nI 1), .int (nI 64)]) (rest := [.int 0, .ref h0]) ⟨hx, hb, hml, hown, hts⟩ ((tX1_in_e (nI k) (nI 1) (nI 64) 1 (sp_in_t (by omega) (by omega) (by omega))) _) (va_cwS 3 hts gX1_append_X1_in rfl rfl rfl (by decide +kernel) ⟨Nat.le_of_ble_eq_true rfl, Nat.le_of_ble_eq_true rfl⟩) (pS_B hP hD hK [] rfl [] rfl rfl) rfl rfl hl.1 rfl (lv_room (Nat.le_of_ble_eq_true rfl)) dX1_append_9 ⟨Nat.le_of_ble_eq_true rfl, Nat.le_of_ble_eq_true rfl⟩) [] [0, 1, 2, 3, 4, 5, 6] rfl rfl rfl (by decide) (fun H locs hP hD hS => ?_)
  have hP : va_P D vwCl (wM h0 a0 a1 a2 a3 a4 a5 cI cZ th bf pw hs lo lg rt nb (nI fi) (nI fo) (nI en) 0 cu ma) H := hP
  have hD : va_D A (wM h0 a0 a1 a2 a3 a4 a5 cI cZ th bf pw hs lo lg rt nb (nI fi) (nI fo) (nI en) 0 cu ma) := hD
  refine lv_if_ne (tgt := 19) hx hb dX1_append_12 (by decide) (fun c_12 => ?_) (fun c_12 => absurd c_12 (by decide))
  refine lv_iconst (v := (0)) hx hb dX1_append_19 (by decide) ?_
  refine k_I (wr := []) hP hD hS hA (va_runV (As := [.int 0, .int 0]) (rest := []) ⟨hx, hb, hml, hown, hts⟩ ((tX1_refused_0 th bf pw hs lo lg rt nb fi fo en 0 cu ma) _) (cwV 2 hts gX1_append_X1_refused rfl rfl rfl (by decide +kernel) ⟨Nat.le_of_ble_eq_true rfl, Nat.le_of_ble_eq_true rfl⟩) (pV_B hP hD hK (ci := 1) (q0 := 0) rfl rfl rfl [0, 1] rfl [0, 1, 2, 3, 4, 5, 6] rfl rfl) rfl rfl hl.1 rfl (lv_room (Nat.le_of_ble_eq_true rfl)) dX1_append_20 ⟨Nat.le_of_ble_eq_true rfl, Nat.le_of_ble_eq_true rfl⟩) [0, 1, 2, 3, 4, 5, 6] [] rfl rfl rfl (by decide) (fun H locs hP hD hS => ?_)
  have hP : va_P D vwCl (wM h0 a0 a1 a2 a3 a4 a5 cI cZ 0 bf pw hs lo lg rt nb (nI fi) (nI fo) (nI en) 0 cu ma) H := hP
  have hD : va_D A (wM h0 a0 a1 a2 a3 a4 a5 cI cZ 0 bf pw hs lo lg rt nb (nI fi) (nI fo) (nI en) 0 cu ma) := hD
  refine lv_if_eq (tgt := 28) hx hb dX1_append_23 (by decide) (fun c_23 => ?_) (fun c_23 => absurd (by decide) c_23)
  refine lv_aload_n hx hb dX1_append_28 rfl (lv_at hl 0 rfl) ?_
  refine va_get (ci := 1) (v := .int (nI en)) (C := RX1) (T := TX1) (N := 14) hx hb hts inX1_append hown hK hP 0 rfl rfl 9 (by decide) (hts _ flX1_append_52) (fun _ h9 => h9) rfl dX1_append_29 ?_
  refine lv_aload_n hx hb dX1_append_32 rfl (lv_at hl 0 rfl) ?_
  refine va_get (ci := 1) (v := .int (nI fi)) (C := RX1) (T := TX1) (N := 14) hx hb hts inX1_append hown hK hP 0 rfl rfl 7 (by decide) (hts _ flX1_append_35) (fun _ h9 => h9) rfl dX1_append_33 ?_
  refine n_isub hx hb (by omega) dX1_append_36 ?_
  refine lv_iload_n hx hb dX1_append_37 rfl (lv_at hl 1 rfl) ?_
  refine n_iadd hx hb dX1_append_38 ?_
  refine lv_ldc (v := nI 65536) hx hb hown (hts (.constant RX1 21 (65536)) (by decide +kernel)) dX1_append_39 ?_
  refine n_le (tgt := 46) hx hb (by omega) (by omega) dX1_append_41 (by decide) (fun c_41 => ?_) (fun c_41 => absurd c_41 (by omega))
  refine lv_aload_n hx hb dX1_append_46 rfl (lv_at hl 0 rfl) ?_
  refine va_get (ci := 1) (v := .int (nI en)) (C := RX1) (T := TX1) (N := 14) hx hb hts inX1_append hown hK hP 0 rfl rfl 9 (by decide) (hts _ flX1_append_52) (fun _ h9 => h9) rfl dX1_append_47 ?_
  refine lv_istore_n (lv' := [(2, .int (nI en)), (0, .ref h0), (1, .int (nI k))]) hx hb dX1_append_50 rfl hl (by decide) rfl (fun ls hl => ?_)
  refine lv_iconst (v := (nI 0)) hx hb dX1_append_51 (by decide) ?_
  refine lv_istore_n (lv' := [(3, .int (nI 0)), (2, .int (nI en)), (0, .ref h0), (1, .int (nI k))]) hx hb dX1_append_52 rfl hl (by decide) rfl (fun ls hl => ?_)
  have lp_53 : ∀ (n9 i : Nat), i + n9 = k → ∀ (H : Heap) (locs : List Loc) (ls : Array Slot), va_P D vwCl (wM h0 a0 a1 a2 a3 a4 a5 cI cZ 0 bf pw hs lo (sp_ap bf en lg i) rt nb (nI fi) (nI fo) (nI en) 0 cu ma) H → va_D A (wM h0 a0 a1 a2 a3 a4 a5 cI cZ 0 bf pw hs lo (sp_ap bf en lg i) rt nb (nI fi) (nI fo) (nI en) 0 cu ma) → va_S A s.heap H locs → lv_has ls 4 [(0, .ref h0), (1, .int (nI k)), (2, .int (nI en)), (3, .int (nI i))] → W p l e (rmL 8 0 0) s m ([.ref h0, .int (nI k)] : List Value).toArray below meth c H locs 0 0 (MQ below (qcI D A (nI en) (wM h0 a0 a1 a2 a3 a4 a5 cI cZ 0 bf pw hs lo (sp_ap bf en lg k) rt nb (nI fi) (nI fo) (nI (en + k)) 0 cu ma)) ([.ref h0, .int (nI k)] : List Value).toArray s 0 0 A) (F0 m 53 ls []) := by
    intro n9
    induction n9 with
    | zero =>
      intro i hi H locs ls hP hD hS hl
      obtain rfl : k = i := by omega
      refine lv_iload_n hx hb dX1_append_53 rfl (lv_at hl 3 rfl) ?_
      refine lv_iload_n hx hb dX1_append_54 rfl (lv_at hl 1 rfl) ?_
      refine n_ge (tgt := 81) hx hb (by omega) (by omega) dX1_append_55 (by decide) (fun c_55 => ?_) (fun c_55 => absurd c_55 (by omega))
      refine lv_aload_n hx hb dX1_append_81 rfl (lv_at hl 0 rfl) ?_
      refine lv_iload_n hx hb dX1_append_82 rfl (lv_at hl 2 rfl) ?_
      refine lv_iload_n hx hb dX1_append_83 rfl (lv_at hl 1 rfl) ?_
      refine n_iadd hx hb dX1_append_84 ?_
      refine va_put (ci := 1) (v := .int (nI (en + k))) (ty := .int) (C := RX1) (T := TX1) (N := 14) hx hb hts inX1_append tyX1 tyX1_ok nmX1 hown hK hP hD hS 0 rfl rfl 9 (by decide) (hts _ flX1_append_52) (fun _ h9 => h9) rfl (by decide +kernel) rfl rfl (Nat.le_of_ble_eq_true rfl) dX1_append_85 (fun H locs hP hD hS => ?_)
      have hP : va_P D vwCl (wM h0 a0 a1 a2 a3 a4 a5 cI cZ 0 bf pw hs lo (sp_ap bf en lg k) rt nb (nI fi) (nI fo) (nI (en + k)) 0 cu ma) H := hP
      have hD : va_D A (wM h0 a0 a1 a2 a3 a4 a5 cI cZ 0 bf pw hs lo (sp_ap bf en lg k) rt nb (nI fi) (nI fo) (nI (en + k)) 0 cu ma) := hD
      refine lv_iload_n hx hb dX1_append_88 rfl (lv_at hl 2 rfl) ?_
      exact e_I hx hb hr hlocks hP hD hS rfl dX1_append_89
    | succ n9 ih =>
      intro i hi H locs ls hP hD hS hl
      refine lv_iload_n hx hb dX1_append_53 rfl (lv_at hl 3 rfl) ?_
      refine lv_iload_n hx hb dX1_append_54 rfl (lv_at hl 1 rfl) ?_
      refine n_ge (tgt := 81) hx hb (by omega) (by omega) dX1_append_55 (by decide) (fun c_55 => absurd c_55 (by omega)) (fun c_55 => ?_)
      refine lv_aload_n hx hb dX1_append_58 rfl (lv_at hl 0 rfl) ?_
      refine va_get (ci := 1) (v := .ref a4) (C := RX1) (T := TX1) (N := 14) hx hb hts inX1_append hown hK hP 0 rfl rfl 4 (by decide) (hts _ flX1_append_22) (fun _ h9 => h9) rfl dX1_append_59 ?_
      refine lv_iload_n hx hb dX1_append_62 rfl (lv_at hl 2 rfl) ?_
      refine lv_iload_n hx hb dX1_append_63 rfl (lv_at hl 3 rfl) ?_
      refine n_iadd hx hb dX1_append_64 ?_
      refine lv_ldc (v := nI 65536) hx hb hown (hts (.constant RX1 21 (65536)) (by decide +kernel)) dX1_append_65 ?_
      refine n_r16 hx hb (by omega) dX1_append_67 ?_
      refine lv_aload_n hx hb dX1_append_68 rfl (lv_at hl 0 rfl) ?_
      refine va_get (ci := 1) (v := .ref a0) (C := RX1) (T := TX1) (N := 14) hx hb hts inX1_append hown hK hP 0 rfl rfl 6 (by decide) (hts _ flX1_append_28) (fun _ h9 => h9) rfl dX1_append_69 ?_
      refine lv_iload_n hx hb dX1_append_72 rfl (lv_at hl 3 rfl) ?_
      refine n_iald hx hb hK hP 1 0 rfl rfl i (by omega) (by omega) dX1_append_73 ?_
      refine n_iast hx hb hK hP hD hS 5 0 rfl rfl ((en + i) % 65536) (by omega) (by omega) dX1_append_74 (fun H locs hP hD hS => ?_)
      have hP : va_P D vwCl (wM h0 a0 a1 a2 a3 a4 a5 cI cZ 0 bf pw hs lo (upd (sp_ap bf en lg i) ((en + i) % 65536) (bf i)) rt nb (nI fi) (nI fo) (nI en) 0 cu ma) H := hP
      have hD : va_D A (wM h0 a0 a1 a2 a3 a4 a5 cI cZ 0 bf pw hs lo (upd (sp_ap bf en lg i) ((en + i) % 65536) (bf i)) rt nb (nI fi) (nI fo) (nI en) 0 cu ma) := hD
      refine n_iinc (lv' := [(3, .int (nI (i + 1))), (0, .ref h0), (1, .int (nI k)), (2, .int (nI en))]) hx hb dX1_append_75 hl (k := 3) rfl (by decide) rfl (fun ls hl => ?_)
      refine lv_goto (tgt := 53) hx hb dX1_append_78 (by decide) ?_
      have hP : va_P D vwCl (wM h0 a0 a1 a2 a3 a4 a5 cI cZ 0 bf pw hs lo (sp_ap bf en lg (i + 1)) rt nb (nI fi) (nI fo) (nI en) 0 cu ma) H := by skip; exact hP
      have hD : va_D A (wM h0 a0 a1 a2 a3 a4 a5 cI cZ 0 bf pw hs lo (sp_ap bf en lg (i + 1)) rt nb (nI fi) (nI fo) (nI en) 0 cu ma) := by skip; exact hD
      exact ih (i + 1) (by omega) _ _ _ hP hD hS (lv_sub hl [1, 2, 3, 0] rfl)
  have hP : va_P D vwCl (wM h0 a0 a1 a2 a3 a4 a5 cI cZ 0 bf pw hs lo (sp_ap bf en lg 0) rt nb (nI fi) (nI fo) (nI en) 0 cu ma) H := by skip; exact hP
  have hD : va_D A (wM h0 a0 a1 a2 a3 a4 a5 cI cZ 0 bf pw hs lo (sp_ap bf en lg 0) rt nb (nI fi) (nI fo) (nI en) 0 cu ma) := by skip; exact hD
  exact lp_53 k 0 (by omega) _ _ _ hP hD hS (lv_sub hl [2, 3, 1, 0] rfl)
set_option maxHeartbeats 4000000 in
set_option maxRecDepth 100000 in
theorem tX1_force_x0 {l : Launch} {D : va_G} {cI cZ : ClassId} {h0 a0 a1 a2 a3 a4 a5 : Nat} (th : Int32) (bf pw hs lo lg rt : Nat → Int32) (nb : Int32) (fi fo en : Nat) (cu ma : Int32) (x : Int32) : RI l yX1_force wsX1_force 8 0 0 D (tyC cI cZ) (wM h0 a0 a1 a2 a3 a4 a5 cI cZ th bf pw hs lo lg rt nb (nI fi) (nI fo) (nI en) 1 cu ma) [.ref h0, .int x] 0 (wM h0 a0 a1 a2 a3 a4 a5 cI cZ 1 bf pw hs lo lg rt nb (nI fi) (nI fo) (nI en) 1 cu ma) := by
  refine st_I (cc := cX1_force) (maxL := 3) (ret := (some .int)) (by decide +kernel) rfl (Nat.le_of_ble_eq_true rfl) ?_
  intro p e s m below meth c A hx hb hr hts hown hml hlocks hK hP hD hA hS ls hl
  have hown : s.vm.findClass RX1 = some m.cls := hown
  have hl : lv_has ls 3 [(0, .ref h0), (1, .int x)] := hl
  refine lv_aload_n hx hb dX1_force_0 rfl (lv_at hl 0 rfl) ?_
  refine lv_aload_n hx hb dX1_force_1 rfl (lv_at hl 0 rfl) ?_
  refine va_get (ci := 1) (v := .int 1) (C := RX1) (T := TX1) (N := 14) hx hb hts inX1_force hown hK hP 0 rfl rfl 12 (by decide) (hts _ flX1_force_45) (fun _ h9 => h9) rfl dX1_force_2 ?_
  refine lv_iload_n hx hb dX1_force_5 rfl (lv_at hl 1 rfl) ?_
  refine lv_aload_n hx hb dX1_force_6 rfl (lv_at hl 0 rfl) ?_
  refine va_get (ci := 1) (v := .int (nI fi)) (C := RX1) (T := TX1) (N := 14) hx hb hts inX1_force hown hK hP 0 rfl rfl 7 (by decide) (hts _ flX1_force_35) (fun _ h9 => h9) rfl dX1_force_7 ?_
  refine lv_icmp_lt (tgt := 21) hx hb dX1_force_10 (by decide) (fun c_10 => ?_) (fun c_10 => ?_)
  · refine lv_iconst (v := (1)) hx hb dX1_force_21 (by decide) ?_
    refine lv_goto (tgt := 26) hx hb dX1_force_22 (by decide) ?_
    refine k_I (wr := []) hP hD hS hA (va_runV (As := [.int 1, .int 1]) (rest := []) ⟨hx, hb, hml, hown, hts⟩ ((tX1_refused_1 th bf pw hs lo lg rt nb fi fo en 1 cu ma 1) _) (cwV 2 hts gX1_force_X1_refused rfl rfl rfl (by decide +kernel) ⟨Nat.le_of_ble_eq_true rfl, Nat.le_of_ble_eq_true rfl⟩) (pV_B hP hD hK (ci := 1) (q0 := 0) rfl rfl rfl [0, 1] rfl [0, 1, 2, 3, 4, 5, 6] rfl rfl) rfl rfl hl.1 rfl (lv_room (Nat.le_of_ble_eq_true rfl)) dX1_force_26 ⟨Nat.le_of_ble_eq_true rfl, Nat.le_of_ble_eq_true rfl⟩) [0, 1, 2, 3, 4, 5, 6] [] rfl rfl rfl (by decide) (fun H locs hP hD hS => ?_)
    have hP : va_P D vwCl (wM h0 a0 a1 a2 a3 a4 a5 cI cZ 1 bf pw hs lo lg rt nb (nI fi) (nI fo) (nI en) 1 cu ma) H := hP
    have hD : va_D A (wM h0 a0 a1 a2 a3 a4 a5 cI cZ 1 bf pw hs lo lg rt nb (nI fi) (nI fo) (nI en) 1 cu ma) := hD
    refine lv_if_eq (tgt := 34) hx hb dX1_force_29 (by decide) (fun c_29 => absurd c_29 (by decide)) (fun c_29 => ?_)
    refine lv_iconst (v := (0)) hx hb dX1_force_32 (by decide) ?_
    exact e_I hx hb hr hlocks hP hD hS rfl dX1_force_33
  · refine lv_iload_n hx hb dX1_force_13 rfl (lv_at hl 1 rfl) ?_
    refine lv_aload_n hx hb dX1_force_14 rfl (lv_at hl 0 rfl) ?_
    refine va_get (ci := 1) (v := .int (nI en)) (C := RX1) (T := TX1) (N := 14) hx hb hts inX1_force hown hK hP 0 rfl rfl 9 (by decide) (hts _ flX1_force_52) (fun _ h9 => h9) rfl dX1_force_15 ?_
    refine lv_icmp_le (tgt := 25) hx hb dX1_force_18 (by decide) (fun c_18 => ?_) (fun c_18 => ?_)
    · refine lv_iconst (v := (0)) hx hb dX1_force_25 (by decide) ?_
      refine k_I (wr := []) hP hD hS hA (va_runV (As := [.int 1, .int 0]) (rest := []) ⟨hx, hb, hml, hown, hts⟩ ((tX1_refused_1 th bf pw hs lo lg rt nb fi fo en 1 cu ma 0) _) (cwV 2 hts gX1_force_X1_refused rfl rfl rfl (by decide +kernel) ⟨Nat.le_of_ble_eq_true rfl, Nat.le_of_ble_eq_true rfl⟩) (pV_B hP hD hK (ci := 1) (q0 := 0) rfl rfl rfl [0, 1] rfl [0, 1, 2, 3, 4, 5, 6] rfl rfl) rfl rfl hl.1 rfl (lv_room (Nat.le_of_ble_eq_true rfl)) dX1_force_26 ⟨Nat.le_of_ble_eq_true rfl, Nat.le_of_ble_eq_true rfl⟩) [0, 1, 2, 3, 4, 5, 6] [] rfl rfl rfl (by decide) (fun H locs hP hD hS => ?_)
      have hP : va_P D vwCl (wM h0 a0 a1 a2 a3 a4 a5 cI cZ 1 bf pw hs lo lg rt nb (nI fi) (nI fo) (nI en) 1 cu ma) H := hP
      have hD : va_D A (wM h0 a0 a1 a2 a3 a4 a5 cI cZ 1 bf pw hs lo lg rt nb (nI fi) (nI fo) (nI en) 1 cu ma) := hD
      refine lv_if_eq (tgt := 34) hx hb dX1_force_29 (by decide) (fun c_29 => absurd c_29 (by decide)) (fun c_29 => ?_)
      refine lv_iconst (v := (0)) hx hb dX1_force_32 (by decide) ?_
      exact e_I hx hb hr hlocks hP hD hS rfl dX1_force_33
    · refine lv_iconst (v := (1)) hx hb dX1_force_21 (by decide) ?_
      refine lv_goto (tgt := 26) hx hb dX1_force_22 (by decide) ?_
      refine k_I (wr := []) hP hD hS hA (va_runV (As := [.int 1, .int 1]) (rest := []) ⟨hx, hb, hml, hown, hts⟩ ((tX1_refused_1 th bf pw hs lo lg rt nb fi fo en 1 cu ma 1) _) (cwV 2 hts gX1_force_X1_refused rfl rfl rfl (by decide +kernel) ⟨Nat.le_of_ble_eq_true rfl, Nat.le_of_ble_eq_true rfl⟩) (pV_B hP hD hK (ci := 1) (q0 := 0) rfl rfl rfl [0, 1] rfl [0, 1, 2, 3, 4, 5, 6] rfl rfl) rfl rfl hl.1 rfl (lv_room (Nat.le_of_ble_eq_true rfl)) dX1_force_26 ⟨Nat.le_of_ble_eq_true rfl, Nat.le_of_ble_eq_true rfl⟩) [0, 1, 2, 3, 4, 5, 6] [] rfl rfl rfl (by decide) (fun H locs hP hD hS => ?_)
      have hP : va_P D vwCl (wM h0 a0 a1 a2 a3 a4 a5 cI cZ 1 bf pw hs lo lg rt nb (nI fi) (nI fo) (nI en) 1 cu ma) H := hP
      have hD : va_D A (wM h0 a0 a1 a2 a3 a4 a5 cI cZ 1 bf pw hs lo lg rt nb (nI fi) (nI fo) (nI en) 1 cu ma) := hD
      refine lv_if_eq (tgt := 34) hx hb dX1_force_29 (by decide) (fun c_29 => absurd c_29 (by decide)) (fun c_29 => ?_)
      refine lv_iconst (v := (0)) hx hb dX1_force_32 (by decide) ?_
      exact e_I hx hb hr hlocks hP hD hS rfl dX1_force_33
set_option maxHeartbeats 4000000 in
set_option maxRecDepth 100000 in
theorem tX1_force_xb {l : Launch} {D : va_G} {cI cZ : ClassId} {h0 a0 a1 a2 a3 a4 a5 : Nat} (th : Int32) (bf pw hs lo lg rt : Nat → Int32) (nb : Int32) (fi fo en : Nat) (cu ma : Int32) (x : Int32) (h : x < nI fi ∨ nI en < x) : RI l yX1_force wsX1_force 8 0 0 D (tyC cI cZ) (wM h0 a0 a1 a2 a3 a4 a5 cI cZ th bf pw hs lo lg rt nb (nI fi) (nI fo) (nI en) 0 cu ma) [.ref h0, .int x] 0 (wM h0 a0 a1 a2 a3 a4 a5 cI cZ 2 bf pw hs lo lg rt nb (nI fi) (nI fo) (nI en) 0 cu ma) := by
  refine st_I (cc := cX1_force) (maxL := 3) (ret := (some .int)) (by decide +kernel) rfl (Nat.le_of_ble_eq_true rfl) ?_
  intro p e s m below meth c A hx hb hr hts hown hml hlocks hK hP hD hA hS ls hl
  have hown : s.vm.findClass RX1 = some m.cls := hown
  have hl : lv_has ls 3 [(0, .ref h0), (1, .int x)] := hl
  refine lv_aload_n hx hb dX1_force_0 rfl (lv_at hl 0 rfl) ?_
  refine lv_aload_n hx hb dX1_force_1 rfl (lv_at hl 0 rfl) ?_
  refine va_get (ci := 1) (v := .int 0) (C := RX1) (T := TX1) (N := 14) hx hb hts inX1_force hown hK hP 0 rfl rfl 12 (by decide) (hts _ flX1_force_45) (fun _ h9 => h9) rfl dX1_force_2 ?_
  refine lv_iload_n hx hb dX1_force_5 rfl (lv_at hl 1 rfl) ?_
  refine lv_aload_n hx hb dX1_force_6 rfl (lv_at hl 0 rfl) ?_
  refine va_get (ci := 1) (v := .int (nI fi)) (C := RX1) (T := TX1) (N := 14) hx hb hts inX1_force hown hK hP 0 rfl rfl 7 (by decide) (hts _ flX1_force_35) (fun _ h9 => h9) rfl dX1_force_7 ?_
  refine lv_icmp_lt (tgt := 21) hx hb dX1_force_10 (by decide) (fun c_10 => ?_) (fun c_10 => ?_)
  · refine lv_iconst (v := (1)) hx hb dX1_force_21 (by decide) ?_
    refine lv_goto (tgt := 26) hx hb dX1_force_22 (by decide) ?_
    refine k_I (wr := []) hP hD hS hA (va_runV (As := [.int 0, .int 1]) (rest := []) ⟨hx, hb, hml, hown, hts⟩ ((tX1_refused_2 th bf pw hs lo lg rt nb fi fo en 0 cu ma) _) (cwV 2 hts gX1_force_X1_refused rfl rfl rfl (by decide +kernel) ⟨Nat.le_of_ble_eq_true rfl, Nat.le_of_ble_eq_true rfl⟩) (pV_B hP hD hK (ci := 1) (q0 := 0) rfl rfl rfl [0, 1] rfl [0, 1, 2, 3, 4, 5, 6] rfl rfl) rfl rfl hl.1 rfl (lv_room (Nat.le_of_ble_eq_true rfl)) dX1_force_26 ⟨Nat.le_of_ble_eq_true rfl, Nat.le_of_ble_eq_true rfl⟩) [0, 1, 2, 3, 4, 5, 6] [] rfl rfl rfl (by decide) (fun H locs hP hD hS => ?_)
    have hP : va_P D vwCl (wM h0 a0 a1 a2 a3 a4 a5 cI cZ 2 bf pw hs lo lg rt nb (nI fi) (nI fo) (nI en) 0 cu ma) H := hP
    have hD : va_D A (wM h0 a0 a1 a2 a3 a4 a5 cI cZ 2 bf pw hs lo lg rt nb (nI fi) (nI fo) (nI en) 0 cu ma) := hD
    refine lv_if_eq (tgt := 34) hx hb dX1_force_29 (by decide) (fun c_29 => absurd c_29 (by decide)) (fun c_29 => ?_)
    refine lv_iconst (v := (0)) hx hb dX1_force_32 (by decide) ?_
    exact e_I hx hb hr hlocks hP hD hS rfl dX1_force_33
  · refine lv_iload_n hx hb dX1_force_13 rfl (lv_at hl 1 rfl) ?_
    refine lv_aload_n hx hb dX1_force_14 rfl (lv_at hl 0 rfl) ?_
    refine va_get (ci := 1) (v := .int (nI en)) (C := RX1) (T := TX1) (N := 14) hx hb hts inX1_force hown hK hP 0 rfl rfl 9 (by decide) (hts _ flX1_force_52) (fun _ h9 => h9) rfl dX1_force_15 ?_
    refine lv_icmp_le (tgt := 25) hx hb dX1_force_18 (by decide) (fun c_18 => absurd c_18 (pl_nle h c_10)) (fun c_18 => ?_)
    refine lv_iconst (v := (1)) hx hb dX1_force_21 (by decide) ?_
    refine lv_goto (tgt := 26) hx hb dX1_force_22 (by decide) ?_
    refine k_I (wr := []) hP hD hS hA (va_runV (As := [.int 0, .int 1]) (rest := []) ⟨hx, hb, hml, hown, hts⟩ ((tX1_refused_2 th bf pw hs lo lg rt nb fi fo en 0 cu ma) _) (cwV 2 hts gX1_force_X1_refused rfl rfl rfl (by decide +kernel) ⟨Nat.le_of_ble_eq_true rfl, Nat.le_of_ble_eq_true rfl⟩) (pV_B hP hD hK (ci := 1) (q0 := 0) rfl rfl rfl [0, 1] rfl [0, 1, 2, 3, 4, 5, 6] rfl rfl) rfl rfl hl.1 rfl (lv_room (Nat.le_of_ble_eq_true rfl)) dX1_force_26 ⟨Nat.le_of_ble_eq_true rfl, Nat.le_of_ble_eq_true rfl⟩) [0, 1, 2, 3, 4, 5, 6] [] rfl rfl rfl (by decide) (fun H locs hP hD hS => ?_)
    have hP : va_P D vwCl (wM h0 a0 a1 a2 a3 a4 a5 cI cZ 2 bf pw hs lo lg rt nb (nI fi) (nI fo) (nI en) 0 cu ma) H := hP
    have hD : va_D A (wM h0 a0 a1 a2 a3 a4 a5 cI cZ 2 bf pw hs lo lg rt nb (nI fi) (nI fo) (nI en) 0 cu ma) := hD
    refine lv_if_eq (tgt := 34) hx hb dX1_force_29 (by decide) (fun c_29 => absurd c_29 (by decide)) (fun c_29 => ?_)
    refine lv_iconst (v := (0)) hx hb dX1_force_32 (by decide) ?_
    exact e_I hx hb hr hlocks hP hD hS rfl dX1_force_33
set_option maxHeartbeats 4000000 in
set_option maxRecDepth 100000 in
theorem tX1_force_ok {l : Launch} {D : va_G} {cI cZ : ClassId} {h0 a0 a1 a2 a3 a4 a5 : Nat} (th : Int32) (bf pw hs lo lg rt : Nat → Int32) (nb : Int32) (fi fo en : Nat) (cu ma : Int32) (pl : Nat) (h1 : fi ≤ pl) (h2 : pl ≤ en) (h3 : fo ≤ pl) (he : en ≤ 60000) (hn : -1 ≤ cu) (hcut : fcut (pl - fo) cu = false) : RI l yX1_force wsX1_force 8 0 0 D (tyC cI cZ) (wM h0 a0 a1 a2 a3 a4 a5 cI cZ th bf pw hs lo lg rt nb (nI fi) (nI fo) (nI en) 0 cu ma) [.ref h0, .int (nI pl)] (nI (pl - fo)) (wM h0 a0 a1 a2 a3 a4 a5 cI cZ 0 bf pw hs lo lg rt nb (nI fi) (nI pl) (nI en) 0 (fcu (pl - fo) cu) (fma (pl - fo) cu ma)) := by
  refine st_I (cc := cX1_force) (maxL := 3) (ret := (some .int)) (by decide +kernel) rfl (Nat.le_of_ble_eq_true rfl) ?_
  intro p e s m below meth c A hx hb hr hts hown hml hlocks hK hP hD hA hS ls hl
  have hown : s.vm.findClass RX1 = some m.cls := hown
  have hl : lv_has ls 3 [(0, .ref h0), (1, .int (nI pl))] := hl
  refine lv_aload_n hx hb dX1_force_0 rfl (lv_at hl 0 rfl) ?_
  refine lv_aload_n hx hb dX1_force_1 rfl (lv_at hl 0 rfl) ?_
  refine va_get (ci := 1) (v := .int 0) (C := RX1) (T := TX1) (N := 14) hx hb hts inX1_force hown hK hP 0 rfl rfl 12 (by decide) (hts _ flX1_force_45) (fun _ h9 => h9) rfl dX1_force_2 ?_
  refine lv_iload_n hx hb dX1_force_5 rfl (lv_at hl 1 rfl) ?_
  refine lv_aload_n hx hb dX1_force_6 rfl (lv_at hl 0 rfl) ?_
  refine va_get (ci := 1) (v := .int (nI fi)) (C := RX1) (T := TX1) (N := 14) hx hb hts inX1_force hown hK hP 0 rfl rfl 7 (by decide) (hts _ flX1_force_35) (fun _ h9 => h9) rfl dX1_force_7 ?_
  refine n_lt (tgt := 21) hx hb (by omega) (by omega) dX1_force_10 (by decide) (fun c_10 => absurd c_10 (by omega)) (fun c_10 => ?_)
  refine lv_iload_n hx hb dX1_force_13 rfl (lv_at hl 1 rfl) ?_
  refine lv_aload_n hx hb dX1_force_14 rfl (lv_at hl 0 rfl) ?_
  refine va_get (ci := 1) (v := .int (nI en)) (C := RX1) (T := TX1) (N := 14) hx hb hts inX1_force hown hK hP 0 rfl rfl 9 (by decide) (hts _ flX1_force_52) (fun _ h9 => h9) rfl dX1_force_15 ?_
  refine n_le (tgt := 25) hx hb (by omega) (by omega) dX1_force_18 (by decide) (fun c_18 => ?_) (fun c_18 => absurd c_18 (by omega))
  refine lv_iconst (v := (0)) hx hb dX1_force_25 (by decide) ?_
  refine k_I (wr := []) hP hD hS hA (va_runV (As := [.int 0, .int 0]) (rest := []) ⟨hx, hb, hml, hown, hts⟩ ((tX1_refused_0 th bf pw hs lo lg rt nb fi fo en 0 cu ma) _) (cwV 2 hts gX1_force_X1_refused rfl rfl rfl (by decide +kernel) ⟨Nat.le_of_ble_eq_true rfl, Nat.le_of_ble_eq_true rfl⟩) (pV_B hP hD hK (ci := 1) (q0 := 0) rfl rfl rfl [0, 1] rfl [0, 1, 2, 3, 4, 5, 6] rfl rfl) rfl rfl hl.1 rfl (lv_room (Nat.le_of_ble_eq_true rfl)) dX1_force_26 ⟨Nat.le_of_ble_eq_true rfl, Nat.le_of_ble_eq_true rfl⟩) [0, 1, 2, 3, 4, 5, 6] [] rfl rfl rfl (by decide) (fun H locs hP hD hS => ?_)
  have hP : va_P D vwCl (wM h0 a0 a1 a2 a3 a4 a5 cI cZ 0 bf pw hs lo lg rt nb (nI fi) (nI fo) (nI en) 0 cu ma) H := hP
  have hD : va_D A (wM h0 a0 a1 a2 a3 a4 a5 cI cZ 0 bf pw hs lo lg rt nb (nI fi) (nI fo) (nI en) 0 cu ma) := hD
  refine lv_if_eq (tgt := 34) hx hb dX1_force_29 (by decide) (fun c_29 => ?_) (fun c_29 => absurd (by decide) c_29)
  refine lv_iconst (v := (nI 0)) hx hb dX1_force_34 (by decide) ?_
  refine lv_istore_n (lv' := [(2, .int (nI 0)), (0, .ref h0), (1, .int (nI pl))]) hx hb dX1_force_35 rfl hl (by decide) rfl (fun ls hl => ?_)
  have lp_36 : ∀ (n9 f9 : Nat) (c9 m9 : Int32), f9 + n9 = pl → fo ≤ f9 → -1 ≤ c9 → fcut n9 c9 = false → fcu n9 c9 = fcu (pl - fo) cu → fma n9 c9 m9 = fma (pl - fo) cu ma → ∀ (H : Heap) (locs : List Loc) (ls : Array Slot), va_P D vwCl (wM h0 a0 a1 a2 a3 a4 a5 cI cZ 0 bf pw hs lo lg rt nb (nI fi) (nI f9) (nI en) 0 c9 m9) H → va_D A (wM h0 a0 a1 a2 a3 a4 a5 cI cZ 0 bf pw hs lo lg rt nb (nI fi) (nI f9) (nI en) 0 c9 m9) → va_S A s.heap H locs → lv_has ls 3 [(0, .ref h0), (1, .int (nI pl)), (2, .int (nI (f9 - fo)))] → W p l e (rmL 8 0 0) s m ([.ref h0, .int (nI pl)] : List Value).toArray below meth c H locs 0 0 (MQ below (qcI D A (nI (pl - fo)) (wM h0 a0 a1 a2 a3 a4 a5 cI cZ 0 bf pw hs lo lg rt nb (nI fi) (nI pl) (nI en) 0 (fcu (pl - fo) cu) (fma (pl - fo) cu ma))) ([.ref h0, .int (nI pl)] : List Value).toArray s 0 0 A) (F0 m 36 ls []) := by
    intro n9
    induction n9 with
    | zero =>
      intro f9 c9 m9 hi hge hn9 hz hcu hma H locs ls hP hD hS hl
      obtain rfl : f9 = pl := by omega
      refine lv_aload_n hx hb dX1_force_36 rfl (lv_at hl 0 rfl) ?_
      refine va_get (ci := 1) (v := .int (nI f9)) (C := RX1) (T := TX1) (N := 14) hx hb hts inX1_force hown hK hP 0 rfl rfl 8 (by decide) (hts _ flX1_force_49) (fun _ h9 => h9) rfl dX1_force_37 ?_
      refine lv_iload_n hx hb dX1_force_40 rfl (lv_at hl 1 rfl) ?_
      refine n_ge (tgt := 69) hx hb (by omega) (by omega) dX1_force_41 (by decide) (fun c_41 => ?_) (fun c_41 => absurd c_41 (by omega))
      have hP : va_P D vwCl (wM h0 a0 a1 a2 a3 a4 a5 cI cZ 0 bf pw hs lo lg rt nb (nI fi) (nI f9) (nI en) 0 (fcu (f9 - fo) cu) (fma (f9 - fo) cu ma)) H := by rw [← hcu, ← hma]; exact hP
      have hD : va_D A (wM h0 a0 a1 a2 a3 a4 a5 cI cZ 0 bf pw hs lo lg rt nb (nI fi) (nI f9) (nI en) 0 (fcu (f9 - fo) cu) (fma (f9 - fo) cu ma)) := by rw [← hcu, ← hma]; exact hD
      refine lv_iload_n hx hb dX1_force_69 rfl (lv_at hl 2 rfl) ?_
      exact e_I hx hb hr hlocks hP hD hS rfl dX1_force_70
    | succ n9 ih =>
      intro f9 c9 m9 hi hge hn9 hz hcu hma H locs ls hP hD hS hl
      have hc := fcut_nz hz
      obtain ⟨q1, q2, q3, q4⟩ := fcut_s (n := n9) hc
      refine lv_aload_n hx hb dX1_force_36 rfl (lv_at hl 0 rfl) ?_
      refine va_get (ci := 1) (v := .int (nI f9)) (C := RX1) (T := TX1) (N := 14) hx hb hts inX1_force hown hK hP 0 rfl rfl 8 (by decide) (hts _ flX1_force_49) (fun _ h9 => h9) rfl dX1_force_37 ?_
      refine lv_iload_n hx hb dX1_force_40 rfl (lv_at hl 1 rfl) ?_
      refine n_ge (tgt := 69) hx hb (by omega) (by omega) dX1_force_41 (by decide) (fun c_41 => absurd c_41 (by omega)) (fun c_41 => ?_)
      refine lv_aload_n hx hb dX1_force_44 rfl (lv_at hl 0 rfl) ?_
      refine k_I (wr := []) hP hD hS hA (va_runV (As := []) (rest := []) ⟨hx, hb, hml, hown, hts⟩ ((tX1_canWrite_ok 0 bf pw hs lo lg rt nb fi f9 en 0 c9 m9 hc hn9) _) (cwV 0 hts gX1_force_X1_canWrite rfl rfl rfl (by decide +kernel) ⟨Nat.le_of_ble_eq_true rfl, Nat.le_of_ble_eq_true rfl⟩) (pV_B hP hD hK (ci := 1) (q0 := 0) rfl rfl rfl [0, 1] rfl [0, 1, 2, 3, 4, 5, 6] rfl rfl) rfl rfl hl.1 rfl (lv_room (Nat.le_of_ble_eq_true rfl)) dX1_force_45 ⟨Nat.le_of_ble_eq_true rfl, Nat.le_of_ble_eq_true rfl⟩) [0, 1, 2, 3, 4, 5, 6] [] rfl rfl rfl (by decide) (fun H locs hP hD hS => ?_)
      have hP : va_P D vwCl (wM h0 a0 a1 a2 a3 a4 a5 cI cZ 0 bf pw hs lo lg rt nb (nI fi) (nI f9) (nI en) 0 (dcu c9) (m9 + 1)) H := hP
      have hD : va_D A (wM h0 a0 a1 a2 a3 a4 a5 cI cZ 0 bf pw hs lo lg rt nb (nI fi) (nI f9) (nI en) 0 (dcu c9) (m9 + 1)) := hD
      refine lv_if_ne (tgt := 53) hx hb dX1_force_48 (by decide) (fun c_48 => ?_) (fun c_48 => absurd c_48 (by decide))
      refine lv_aload_n hx hb dX1_force_53 rfl (lv_at hl 0 rfl) ?_
      refine lv_dup hx hb dX1_force_54 rfl ?_
      refine va_get (ci := 1) (v := .int (nI f9)) (C := RX1) (T := TX1) (N := 14) hx hb hts inX1_force hown hK hP 0 rfl rfl 8 (by decide) (hts _ flX1_force_49) (fun _ h9 => h9) rfl dX1_force_55 ?_
      refine lv_iconst (v := (nI 1)) hx hb dX1_force_58 (by decide) ?_
      refine n_iadd hx hb dX1_force_59 ?_
      refine va_put (ci := 1) (v := .int (nI (f9 + 1))) (ty := .int) (C := RX1) (T := TX1) (N := 14) hx hb hts inX1_force tyX1 tyX1_ok nmX1 hown hK hP hD hS 0 rfl rfl 8 (by decide) (hts _ flX1_force_49) (fun _ h9 => h9) rfl (by decide +kernel) rfl rfl (Nat.le_of_ble_eq_true rfl) dX1_force_60 (fun H locs hP hD hS => ?_)
      have hP : va_P D vwCl (wM h0 a0 a1 a2 a3 a4 a5 cI cZ 0 bf pw hs lo lg rt nb (nI fi) (nI (f9 + 1)) (nI en) 0 (dcu c9) (m9 + 1)) H := hP
      have hD : va_D A (wM h0 a0 a1 a2 a3 a4 a5 cI cZ 0 bf pw hs lo lg rt nb (nI fi) (nI (f9 + 1)) (nI en) 0 (dcu c9) (m9 + 1)) := hD
      refine n_iinc (lv' := [(2, .int (nI ((f9 - fo) + 1))), (0, .ref h0), (1, .int (nI pl))]) hx hb dX1_force_63 hl (k := 2) rfl (by decide) rfl (fun ls hl => ?_)
      refine lv_goto (tgt := 36) hx hb dX1_force_66 (by decide) ?_
      rw [show f9 - fo + 1 = f9 + 1 - fo from by omega] at hl
      exact ih (f9 + 1) (dcu c9) (m9 + 1) (by omega) (by omega) (dcu_ge hc hn9) (q1 ▸ hz) (q2 ▸ hcu) ((q3 m9) ▸ hma) _ _ _ hP hD hS (lv_sub hl [1, 2, 0] rfl)
  have hl : lv_has ls 3 [(2, .int (nI (fo - fo))), (0, .ref h0), (1, .int (nI pl))] := by rw [Nat.sub_self]; exact hl
  exact lp_36 (pl - fo) fo cu ma (by omega) (Nat.le_refl fo) hn hcut rfl rfl _ _ _ hP hD hS (lv_sub hl [1, 2, 0] rfl)
set_option maxHeartbeats 4000000 in
set_option maxRecDepth 100000 in
theorem tX1_force_cut {l : Launch} {D : va_G} {cI cZ : ClassId} {h0 a0 a1 a2 a3 a4 a5 : Nat} (th : Int32) (bf pw hs lo lg rt : Nat → Int32) (nb : Int32) (fi fo en : Nat) (cu ma : Int32) (pl : Nat) (h1 : fi ≤ pl) (h2 : pl ≤ en) (h3 : fo ≤ pl) (he : en ≤ 60000) (hn : -1 ≤ cu) (hcut : fcut (pl - fo) cu = true) : RI l yX1_force wsX1_force 8 0 0 D (tyC cI cZ) (wM h0 a0 a1 a2 a3 a4 a5 cI cZ th bf pw hs lo lg rt nb (nI fi) (nI fo) (nI en) 0 cu ma) [.ref h0, .int (nI pl)] (-1) (wM h0 a0 a1 a2 a3 a4 a5 cI cZ 0 (zf bf) pw hs lo lg rt nb (nI fi) (nI (fo + fmk (pl - fo) cu)) (nI (fo + fmk (pl - fo) cu)) 1 (fcu (pl - fo) cu) (fma (pl - fo) cu ma)) := by
  refine st_I (cc := cX1_force) (maxL := 3) (ret := (some .int)) (by decide +kernel) rfl (Nat.le_of_ble_eq_true rfl) ?_
  intro p e s m below meth c A hx hb hr hts hown hml hlocks hK hP hD hA hS ls hl
  have hown : s.vm.findClass RX1 = some m.cls := hown
  have hl : lv_has ls 3 [(0, .ref h0), (1, .int (nI pl))] := hl
  refine lv_aload_n hx hb dX1_force_0 rfl (lv_at hl 0 rfl) ?_
  refine lv_aload_n hx hb dX1_force_1 rfl (lv_at hl 0 rfl) ?_
  refine va_get (ci := 1) (v := .int 0) (C := RX1) (T := TX1) (N := 14) hx hb hts inX1_force hown hK hP 0 rfl rfl 12 (by decide) (hts _ flX1_force_45) (fun _ h9 => h9) rfl dX1_force_2 ?_
  refine lv_iload_n hx hb dX1_force_5 rfl (lv_at hl 1 rfl) ?_
  refine lv_aload_n hx hb dX1_force_6 rfl (lv_at hl 0 rfl) ?_
  refine va_get (ci := 1) (v := .int (nI fi)) (C := RX1) (T := TX1) (N := 14) hx hb hts inX1_force hown hK hP 0 rfl rfl 7 (by decide) (hts _ flX1_force_35) (fun _ h9 => h9) rfl dX1_force_7 ?_
  refine n_lt (tgt := 21) hx hb (by omega) (by omega) dX1_force_10 (by decide) (fun c_10 => absurd c_10 (by omega)) (fun c_10 => ?_)
  refine lv_iload_n hx hb dX1_force_13 rfl (lv_at hl 1 rfl) ?_
  refine lv_aload_n hx hb dX1_force_14 rfl (lv_at hl 0 rfl) ?_
  refine va_get (ci := 1) (v := .int (nI en)) (C := RX1) (T := TX1) (N := 14) hx hb hts inX1_force hown hK hP 0 rfl rfl 9 (by decide) (hts _ flX1_force_52) (fun _ h9 => h9) rfl dX1_force_15 ?_
  refine n_le (tgt := 25) hx hb (by omega) (by omega) dX1_force_18 (by decide) (fun c_18 => ?_) (fun c_18 => absurd c_18 (by omega))
  refine lv_iconst (v := (0)) hx hb dX1_force_25 (by decide) ?_
  refine k_I (wr := []) hP hD hS hA (va_runV (As := [.int 0, .int 0]) (rest := []) ⟨hx, hb, hml, hown, hts⟩ ((tX1_refused_0 th bf pw hs lo lg rt nb fi fo en 0 cu ma) _) (cwV 2 hts gX1_force_X1_refused rfl rfl rfl (by decide +kernel) ⟨Nat.le_of_ble_eq_true rfl, Nat.le_of_ble_eq_true rfl⟩) (pV_B hP hD hK (ci := 1) (q0 := 0) rfl rfl rfl [0, 1] rfl [0, 1, 2, 3, 4, 5, 6] rfl rfl) rfl rfl hl.1 rfl (lv_room (Nat.le_of_ble_eq_true rfl)) dX1_force_26 ⟨Nat.le_of_ble_eq_true rfl, Nat.le_of_ble_eq_true rfl⟩) [0, 1, 2, 3, 4, 5, 6] [] rfl rfl rfl (by decide) (fun H locs hP hD hS => ?_)
  have hP : va_P D vwCl (wM h0 a0 a1 a2 a3 a4 a5 cI cZ 0 bf pw hs lo lg rt nb (nI fi) (nI fo) (nI en) 0 cu ma) H := hP
  have hD : va_D A (wM h0 a0 a1 a2 a3 a4 a5 cI cZ 0 bf pw hs lo lg rt nb (nI fi) (nI fo) (nI en) 0 cu ma) := hD
  refine lv_if_eq (tgt := 34) hx hb dX1_force_29 (by decide) (fun c_29 => ?_) (fun c_29 => absurd (by decide) c_29)
  refine lv_iconst (v := (nI 0)) hx hb dX1_force_34 (by decide) ?_
  refine lv_istore_n (lv' := [(2, .int (nI 0)), (0, .ref h0), (1, .int (nI pl))]) hx hb dX1_force_35 rfl hl (by decide) rfl (fun ls hl => ?_)
  have lp_36 : ∀ (n9 f9 : Nat) (c9 m9 : Int32), f9 + n9 = pl → fo ≤ f9 → -1 ≤ c9 → fcut n9 c9 = true → fcu n9 c9 = fcu (pl - fo) cu → fma n9 c9 m9 = fma (pl - fo) cu ma → f9 + fmk n9 c9 = fo + fmk (pl - fo) cu → ∀ (H : Heap) (locs : List Loc) (ls : Array Slot), va_P D vwCl (wM h0 a0 a1 a2 a3 a4 a5 cI cZ 0 bf pw hs lo lg rt nb (nI fi) (nI f9) (nI en) 0 c9 m9) H → va_D A (wM h0 a0 a1 a2 a3 a4 a5 cI cZ 0 bf pw hs lo lg rt nb (nI fi) (nI f9) (nI en) 0 c9 m9) → va_S A s.heap H locs → lv_has ls 3 [(0, .ref h0), (1, .int (nI pl)), (2, .int (nI (f9 - fo)))] → W p l e (rmL 8 0 0) s m ([.ref h0, .int (nI pl)] : List Value).toArray below meth c H locs 0 0 (MQ below (qcI D A (-1) (wM h0 a0 a1 a2 a3 a4 a5 cI cZ 0 (zf bf) pw hs lo lg rt nb (nI fi) (nI (fo + fmk (pl - fo) cu)) (nI (fo + fmk (pl - fo) cu)) 1 (fcu (pl - fo) cu) (fma (pl - fo) cu ma))) ([.ref h0, .int (nI pl)] : List Value).toArray s 0 0 A) (F0 m 36 ls []) := by
    intro n9
    induction n9 with
    | zero =>
      intro f9 c9 m9 hi hge hn9 hz hcu hma hmk H locs ls hP hD hS hl
      cases hz
    | succ n9 ih =>
      intro f9 c9 m9 hi hge hn9 hz hcu hma hmk H locs ls hP hD hS hl
      by_cases hc : c9 = 0
      · obtain ⟨q1, q2, q3, q4⟩ := fcut_z (n := n9) hc
        refine lv_aload_n hx hb dX1_force_36 rfl (lv_at hl 0 rfl) ?_
        refine va_get (ci := 1) (v := .int (nI f9)) (C := RX1) (T := TX1) (N := 14) hx hb hts inX1_force hown hK hP 0 rfl rfl 8 (by decide) (hts _ flX1_force_49) (fun _ h9 => h9) rfl dX1_force_37 ?_
        refine lv_iload_n hx hb dX1_force_40 rfl (lv_at hl 1 rfl) ?_
        refine n_ge (tgt := 69) hx hb (by omega) (by omega) dX1_force_41 (by decide) (fun c_41 => absurd c_41 (by omega)) (fun c_41 => ?_)
        refine lv_aload_n hx hb dX1_force_44 rfl (lv_at hl 0 rfl) ?_
        refine k_I (wr := []) hP hD hS hA (va_runV (As := []) (rest := []) ⟨hx, hb, hml, hown, hts⟩ ((tX1_canWrite_cut 0 bf pw hs lo lg rt nb fi f9 en 0 c9 m9 hc) _) (cwV 0 hts gX1_force_X1_canWrite rfl rfl rfl (by decide +kernel) ⟨Nat.le_of_ble_eq_true rfl, Nat.le_of_ble_eq_true rfl⟩) (pV_B hP hD hK (ci := 1) (q0 := 0) rfl rfl rfl [0, 1] rfl [0, 1, 2, 3, 4, 5, 6] rfl rfl) rfl rfl hl.1 rfl (lv_room (Nat.le_of_ble_eq_true rfl)) dX1_force_45 ⟨Nat.le_of_ble_eq_true rfl, Nat.le_of_ble_eq_true rfl⟩) [0, 1, 2, 3, 4, 5, 6] [] rfl rfl rfl (by decide) (fun H locs hP hD hS => ?_)
        have hP : va_P D vwCl (wM h0 a0 a1 a2 a3 a4 a5 cI cZ 0 (zf bf) pw hs lo lg rt nb (nI fi) (nI f9) (nI f9) 1 c9 m9) H := hP
        have hD : va_D A (wM h0 a0 a1 a2 a3 a4 a5 cI cZ 0 (zf bf) pw hs lo lg rt nb (nI fi) (nI f9) (nI f9) 1 c9 m9) := hD
        refine lv_if_ne (tgt := 53) hx hb dX1_force_48 (by decide) (fun c_48 => absurd (by decide) c_48) (fun c_48 => ?_)
        have e9 : fo + fmk (pl - fo) cu = f9 := by omega
        have hP : va_P D vwCl (wM h0 a0 a1 a2 a3 a4 a5 cI cZ 0 (zf bf) pw hs lo lg rt nb (nI fi) (nI (fo + fmk (pl - fo) cu)) (nI (fo + fmk (pl - fo) cu)) 1 (fcu (pl - fo) cu) (fma (pl - fo) cu ma)) H := by rw [e9, ← hcu, ← hma, q2, q3]; exact hP
        have hD : va_D A (wM h0 a0 a1 a2 a3 a4 a5 cI cZ 0 (zf bf) pw hs lo lg rt nb (nI fi) (nI (fo + fmk (pl - fo) cu)) (nI (fo + fmk (pl - fo) cu)) 1 (fcu (pl - fo) cu) (fma (pl - fo) cu ma)) := by rw [e9, ← hcu, ← hma, q2, q3]; exact hD
        refine lv_iconst (v := (-1)) hx hb dX1_force_51 (by decide) ?_
        exact e_I hx hb hr hlocks hP hD hS rfl dX1_force_52
      · obtain ⟨q1, q2, q3, q4⟩ := fcut_s (n := n9) hc
        refine lv_aload_n hx hb dX1_force_36 rfl (lv_at hl 0 rfl) ?_
        refine va_get (ci := 1) (v := .int (nI f9)) (C := RX1) (T := TX1) (N := 14) hx hb hts inX1_force hown hK hP 0 rfl rfl 8 (by decide) (hts _ flX1_force_49) (fun _ h9 => h9) rfl dX1_force_37 ?_
        refine lv_iload_n hx hb dX1_force_40 rfl (lv_at hl 1 rfl) ?_
        refine n_ge (tgt := 69) hx hb (by omega) (by omega) dX1_force_41 (by decide) (fun c_41 => absurd c_41 (by omega)) (fun c_41 => ?_)
        refine lv_aload_n hx hb dX1_force_44 rfl (lv_at hl 0 rfl) ?_
        refine k_I (wr := []) hP hD hS hA (va_runV (As := []) (rest := []) ⟨hx, hb, hml, hown, hts⟩ ((tX1_canWrite_ok 0 bf pw hs lo lg rt nb fi f9 en 0 c9 m9 hc hn9) _) (cwV 0 hts gX1_force_X1_canWrite rfl rfl rfl (by decide +kernel) ⟨Nat.le_of_ble_eq_true rfl, Nat.le_of_ble_eq_true rfl⟩) (pV_B hP hD hK (ci := 1) (q0 := 0) rfl rfl rfl [0, 1] rfl [0, 1, 2, 3, 4, 5, 6] rfl rfl) rfl rfl hl.1 rfl (lv_room (Nat.le_of_ble_eq_true rfl)) dX1_force_45 ⟨Nat.le_of_ble_eq_true rfl, Nat.le_of_ble_eq_true rfl⟩) [0, 1, 2, 3, 4, 5, 6] [] rfl rfl rfl (by decide) (fun H locs hP hD hS => ?_)
        have hP : va_P D vwCl (wM h0 a0 a1 a2 a3 a4 a5 cI cZ 0 bf pw hs lo lg rt nb (nI fi) (nI f9) (nI en) 0 (dcu c9) (m9 + 1)) H := hP
        have hD : va_D A (wM h0 a0 a1 a2 a3 a4 a5 cI cZ 0 bf pw hs lo lg rt nb (nI fi) (nI f9) (nI en) 0 (dcu c9) (m9 + 1)) := hD
        refine lv_if_ne (tgt := 53) hx hb dX1_force_48 (by decide) (fun c_48 => ?_) (fun c_48 => absurd c_48 (by decide))
        refine lv_aload_n hx hb dX1_force_53 rfl (lv_at hl 0 rfl) ?_
        refine lv_dup hx hb dX1_force_54 rfl ?_
        refine va_get (ci := 1) (v := .int (nI f9)) (C := RX1) (T := TX1) (N := 14) hx hb hts inX1_force hown hK hP 0 rfl rfl 8 (by decide) (hts _ flX1_force_49) (fun _ h9 => h9) rfl dX1_force_55 ?_
        refine lv_iconst (v := (nI 1)) hx hb dX1_force_58 (by decide) ?_
        refine n_iadd hx hb dX1_force_59 ?_
        refine va_put (ci := 1) (v := .int (nI (f9 + 1))) (ty := .int) (C := RX1) (T := TX1) (N := 14) hx hb hts inX1_force tyX1 tyX1_ok nmX1 hown hK hP hD hS 0 rfl rfl 8 (by decide) (hts _ flX1_force_49) (fun _ h9 => h9) rfl (by decide +kernel) rfl rfl (Nat.le_of_ble_eq_true rfl) dX1_force_60 (fun H locs hP hD hS => ?_)
        have hP : va_P D vwCl (wM h0 a0 a1 a2 a3 a4 a5 cI cZ 0 bf pw hs lo lg rt nb (nI fi) (nI (f9 + 1)) (nI en) 0 (dcu c9) (m9 + 1)) H := hP
        have hD : va_D A (wM h0 a0 a1 a2 a3 a4 a5 cI cZ 0 bf pw hs lo lg rt nb (nI fi) (nI (f9 + 1)) (nI en) 0 (dcu c9) (m9 + 1)) := hD
        refine n_iinc (lv' := [(2, .int (nI ((f9 - fo) + 1))), (0, .ref h0), (1, .int (nI pl))]) hx hb dX1_force_63 hl (k := 2) rfl (by decide) rfl (fun ls hl => ?_)
        refine lv_goto (tgt := 36) hx hb dX1_force_66 (by decide) ?_
        rw [show f9 - fo + 1 = f9 + 1 - fo from by omega] at hl
        exact ih (f9 + 1) (dcu c9) (m9 + 1) (by omega) (by omega) (dcu_ge hc hn9) (q1 ▸ hz) (q2 ▸ hcu) ((q3 m9) ▸ hma) (by omega) _ _ _ hP hD hS (lv_sub hl [1, 2, 0] rfl)
  have hl : lv_has ls 3 [(2, .int (nI (fo - fo))), (0, .ref h0), (1, .int (nI pl))] := by rw [Nat.sub_self]; exact hl
  exact lp_36 (pl - fo) fo cu ma (by omega) (Nat.le_refl fo) hn hcut rfl rfl rfl _ _ _ hP hD hS (lv_sub hl [1, 2, 0] rfl)
set_option maxHeartbeats 4000000 in
set_option maxRecDepth 100000 in
theorem tX1_force_no {l : Launch} {D : va_G} {cI cZ : ClassId} {h0 a0 a1 a2 a3 a4 a5 : Nat} (th : Int32) (bf pw hs lo lg rt : Nat → Int32) (nb : Int32) (fi fo en : Nat) (cu ma : Int32) (pl : Nat) (h1 : fi ≤ pl) (h2 : pl ≤ en) (h3 : pl ≤ fo) (he : en ≤ 60000) (hfo : fo ≤ en) : RI l yX1_force wsX1_force 8 0 0 D (tyC cI cZ) (wM h0 a0 a1 a2 a3 a4 a5 cI cZ th bf pw hs lo lg rt nb (nI fi) (nI fo) (nI en) 0 cu ma) [.ref h0, .int (nI pl)] 0 (wM h0 a0 a1 a2 a3 a4 a5 cI cZ 0 bf pw hs lo lg rt nb (nI fi) (nI fo) (nI en) 0 cu ma) := by
  refine st_I (cc := cX1_force) (maxL := 3) (ret := (some .int)) (by decide +kernel) rfl (Nat.le_of_ble_eq_true rfl) ?_
  intro p e s m below meth c A hx hb hr hts hown hml hlocks hK hP hD hA hS ls hl
  have hown : s.vm.findClass RX1 = some m.cls := hown
  have hl : lv_has ls 3 [(0, .ref h0), (1, .int (nI pl))] := hl
  refine lv_aload_n hx hb dX1_force_0 rfl (lv_at hl 0 rfl) ?_
  refine lv_aload_n hx hb dX1_force_1 rfl (lv_at hl 0 rfl) ?_
  refine va_get (ci := 1) (v := .int 0) (C := RX1) (T := TX1) (N := 14) hx hb hts inX1_force hown hK hP 0 rfl rfl 12 (by decide) (hts _ flX1_force_45) (fun _ h9 => h9) rfl dX1_force_2 ?_
  refine lv_iload_n hx hb dX1_force_5 rfl (lv_at hl 1 rfl) ?_
  refine lv_aload_n hx hb dX1_force_6 rfl (lv_at hl 0 rfl) ?_
  refine va_get (ci := 1) (v := .int (nI fi)) (C := RX1) (T := TX1) (N := 14) hx hb hts inX1_force hown hK hP 0 rfl rfl 7 (by decide) (hts _ flX1_force_35) (fun _ h9 => h9) rfl dX1_force_7 ?_
  refine n_lt (tgt := 21) hx hb (by omega) (by omega) dX1_force_10 (by decide) (fun c_10 => absurd c_10 (by omega)) (fun c_10 => ?_)
  refine lv_iload_n hx hb dX1_force_13 rfl (lv_at hl 1 rfl) ?_
  refine lv_aload_n hx hb dX1_force_14 rfl (lv_at hl 0 rfl) ?_
  refine va_get (ci := 1) (v := .int (nI en)) (C := RX1) (T := TX1) (N := 14) hx hb hts inX1_force hown hK hP 0 rfl rfl 9 (by decide) (hts _ flX1_force_52) (fun _ h9 => h9) rfl dX1_force_15 ?_
  refine n_le (tgt := 25) hx hb (by omega) (by omega) dX1_force_18 (by decide) (fun c_18 => ?_) (fun c_18 => absurd c_18 (by omega))
  refine lv_iconst (v := (0)) hx hb dX1_force_25 (by decide) ?_
  refine k_I (wr := []) hP hD hS hA (va_runV (As := [.int 0, .int 0]) (rest := []) ⟨hx, hb, hml, hown, hts⟩ ((tX1_refused_0 th bf pw hs lo lg rt nb fi fo en 0 cu ma) _) (cwV 2 hts gX1_force_X1_refused rfl rfl rfl (by decide +kernel) ⟨Nat.le_of_ble_eq_true rfl, Nat.le_of_ble_eq_true rfl⟩) (pV_B hP hD hK (ci := 1) (q0 := 0) rfl rfl rfl [0, 1] rfl [0, 1, 2, 3, 4, 5, 6] rfl rfl) rfl rfl hl.1 rfl (lv_room (Nat.le_of_ble_eq_true rfl)) dX1_force_26 ⟨Nat.le_of_ble_eq_true rfl, Nat.le_of_ble_eq_true rfl⟩) [0, 1, 2, 3, 4, 5, 6] [] rfl rfl rfl (by decide) (fun H locs hP hD hS => ?_)
  have hP : va_P D vwCl (wM h0 a0 a1 a2 a3 a4 a5 cI cZ 0 bf pw hs lo lg rt nb (nI fi) (nI fo) (nI en) 0 cu ma) H := hP
  have hD : va_D A (wM h0 a0 a1 a2 a3 a4 a5 cI cZ 0 bf pw hs lo lg rt nb (nI fi) (nI fo) (nI en) 0 cu ma) := hD
  refine lv_if_eq (tgt := 34) hx hb dX1_force_29 (by decide) (fun c_29 => ?_) (fun c_29 => absurd (by decide) c_29)
  refine lv_iconst (v := (nI 0)) hx hb dX1_force_34 (by decide) ?_
  refine lv_istore_n (lv' := [(2, .int (nI 0)), (0, .ref h0), (1, .int (nI pl))]) hx hb dX1_force_35 rfl hl (by decide) rfl (fun ls hl => ?_)
  refine lv_aload_n hx hb dX1_force_36 rfl (lv_at hl 1 rfl) ?_
  refine va_get (ci := 1) (v := .int (nI fo)) (C := RX1) (T := TX1) (N := 14) hx hb hts inX1_force hown hK hP 0 rfl rfl 8 (by decide) (hts _ flX1_force_49) (fun _ h9 => h9) rfl dX1_force_37 ?_
  refine lv_iload_n hx hb dX1_force_40 rfl (lv_at hl 2 rfl) ?_
  refine n_ge (tgt := 69) hx hb (by omega) (by omega) dX1_force_41 (by decide) (fun c_41 => ?_) (fun c_41 => absurd c_41 (by omega))
  refine lv_iload_n hx hb dX1_force_69 rfl (lv_at hl 0 rfl) ?_
  exact e_I hx hb hr hlocks hP hD hS rfl dX1_force_70
set_option maxHeartbeats 4000000 in
set_option maxRecDepth 100000 in
theorem tX1_readLog_x0 {l : Launch} {D : va_G} {cI cZ : ClassId} {h0 a0 a1 a2 a3 a4 a5 : Nat} (th : Int32) (bf pw hs lo lg rt : Nat → Int32) (nb : Int32) (fi fo en : Nat) (cu ma : Int32) (x y : Int32) : RV l yX1_readLog wsX1_readLog 8 0 0 D (tyC cI cZ) (wM h0 a0 a1 a2 a3 a4 a5 cI cZ th bf pw hs lo lg rt nb (nI fi) (nI fo) (nI en) 1 cu ma) [.ref h0, .int x, .int y] (wM h0 a0 a1 a2 a3 a4 a5 cI cZ 1 bf pw hs lo lg rt nb (nI fi) (nI fo) (nI en) 1 cu ma) := by
  refine st_V (cc := cX1_readLog) (maxL := 5) (ret := none) (by decide +kernel) rfl (Nat.le_of_ble_eq_true rfl) ?_
  intro p e s m below meth c A hx hb hr hts hown hml hlocks hK hP hD hA hS ls hl
  have hown : s.vm.findClass RX1 = some m.cls := hown
  have hl : lv_has ls 5 [(0, .ref h0), (1, .int x), (2, .int y)] := hl
  refine lv_iload_n hx hb dX1_readLog_0 rfl (lv_at hl 2 rfl) ?_
  refine lv_iconst (v := (nI 1)) hx hb dX1_readLog_1 (by decide) ?_
  refine lv_bipush (v := (nI 64)) hx hb dX1_readLog_2 (by decide) ?_
  refine k_I (wr := wM h0 a0 a1 a2 a3 a4 a5 cI cZ th bf pw hs lo lg rt nb (nI fi) (nI fo) (nI en) 1 cu ma) hP hD hS hA (va_runS (As := [.int y, .int (nI 1), .int (nI 64)]) (rest := []) ⟨hx, hb, hml, hown, hts⟩ ((tX1_in_e y (nI 1) (nI 64) (sp_in y (nI 1) (nI 64)) rfl) _) (va_cwS 3 hts gX1_readLog_X1_in rfl rfl rfl (by decide +kernel) ⟨Nat.le_of_ble_eq_true rfl, Nat.le_of_ble_eq_true rfl⟩) (pS_B hP hD hK [] rfl [] rfl rfl) rfl rfl hl.1 rfl (lv_room (Nat.le_of_ble_eq_true rfl)) dX1_readLog_4 ⟨Nat.le_of_ble_eq_true rfl, Nat.le_of_ble_eq_true rfl⟩) [] [0, 1, 2, 3, 4, 5, 6] rfl rfl rfl (by decide) (fun H locs hP hD hS => ?_)
  have hP : va_P D vwCl (wM h0 a0 a1 a2 a3 a4 a5 cI cZ th bf pw hs lo lg rt nb (nI fi) (nI fo) (nI en) 1 cu ma) H := hP
  have hD : va_D A (wM h0 a0 a1 a2 a3 a4 a5 cI cZ th bf pw hs lo lg rt nb (nI fi) (nI fo) (nI en) 1 cu ma) := hD
  refine lv_if_eq (tgt := 28) hx hb dX1_readLog_7 (by decide) (fun c_7 => ?_) (fun c_7 => ?_)
  · refine lv_iconst (v := (1)) hx hb dX1_readLog_28 (by decide) ?_
    refine lv_goto (tgt := 33) hx hb dX1_readLog_29 (by decide) ?_
    refine lv_istore_n (lv' := [(3, .int 1), (0, .ref h0), (1, .int x), (2, .int y)]) hx hb dX1_readLog_33 rfl hl (by decide) rfl (fun ls hl => ?_)
    refine lv_aload_n hx hb dX1_readLog_34 rfl (lv_at hl 1 rfl) ?_
    refine lv_aload_n hx hb dX1_readLog_35 rfl (lv_at hl 1 rfl) ?_
    refine va_get (ci := 1) (v := .int 1) (C := RX1) (T := TX1) (N := 14) hx hb hts inX1_readLog hown hK hP 0 rfl rfl 12 (by decide) (hts _ flX1_readLog_45) (fun _ h9 => h9) rfl dX1_readLog_36 ?_
    refine lv_iload_n hx hb dX1_readLog_39 rfl (lv_at hl 0 rfl) ?_
    refine k_I (wr := []) hP hD hS hA (va_runV (As := [.int 1, .int 1]) (rest := []) ⟨hx, hb, hml, hown, hts⟩ ((tX1_refused_1 th bf pw hs lo lg rt nb fi fo en 1 cu ma 1) _) (cwV 2 hts gX1_readLog_X1_refused rfl rfl rfl (by decide +kernel) ⟨Nat.le_of_ble_eq_true rfl, Nat.le_of_ble_eq_true rfl⟩) (pV_B hP hD hK (ci := 1) (q0 := 0) rfl rfl rfl [0, 1] rfl [0, 1, 2, 3, 4, 5, 6] rfl rfl) rfl rfl hl.1 rfl (lv_room (Nat.le_of_ble_eq_true rfl)) dX1_readLog_40 ⟨Nat.le_of_ble_eq_true rfl, Nat.le_of_ble_eq_true rfl⟩) [0, 1, 2, 3, 4, 5, 6] [] rfl rfl rfl (by decide) (fun H locs hP hD hS => ?_)
    have hP : va_P D vwCl (wM h0 a0 a1 a2 a3 a4 a5 cI cZ 1 bf pw hs lo lg rt nb (nI fi) (nI fo) (nI en) 1 cu ma) H := hP
    have hD : va_D A (wM h0 a0 a1 a2 a3 a4 a5 cI cZ 1 bf pw hs lo lg rt nb (nI fi) (nI fo) (nI en) 1 cu ma) := hD
    refine lv_if_ne (tgt := 80) hx hb dX1_readLog_43 (by decide) (fun c_43 => ?_) (fun c_43 => absurd c_43 (by decide))
    exact e_V hx hb hr hlocks hP hD hS dX1_readLog_80
  · refine lv_iload_n hx hb dX1_readLog_10 rfl (lv_at hl 1 rfl) ?_
    refine lv_aload_n hx hb dX1_readLog_11 rfl (lv_at hl 0 rfl) ?_
    refine va_get (ci := 1) (v := .int (nI fi)) (C := RX1) (T := TX1) (N := 14) hx hb hts inX1_readLog hown hK hP 0 rfl rfl 7 (by decide) (hts _ flX1_readLog_35) (fun _ h9 => h9) rfl dX1_readLog_12 ?_
    refine lv_icmp_lt (tgt := 28) hx hb dX1_readLog_15 (by decide) (fun c_15 => ?_) (fun c_15 => ?_)
    · refine lv_iconst (v := (1)) hx hb dX1_readLog_28 (by decide) ?_
      refine lv_goto (tgt := 33) hx hb dX1_readLog_29 (by decide) ?_
      refine lv_istore_n (lv' := [(3, .int 1), (0, .ref h0), (1, .int x), (2, .int y)]) hx hb dX1_readLog_33 rfl hl (by decide) rfl (fun ls hl => ?_)
      refine lv_aload_n hx hb dX1_readLog_34 rfl (lv_at hl 1 rfl) ?_
      refine lv_aload_n hx hb dX1_readLog_35 rfl (lv_at hl 1 rfl) ?_
      refine va_get (ci := 1) (v := .int 1) (C := RX1) (T := TX1) (N := 14) hx hb hts inX1_readLog hown hK hP 0 rfl rfl 12 (by decide) (hts _ flX1_readLog_45) (fun _ h9 => h9) rfl dX1_readLog_36 ?_
      refine lv_iload_n hx hb dX1_readLog_39 rfl (lv_at hl 0 rfl) ?_
      refine k_I (wr := []) hP hD hS hA (va_runV (As := [.int 1, .int 1]) (rest := []) ⟨hx, hb, hml, hown, hts⟩ ((tX1_refused_1 th bf pw hs lo lg rt nb fi fo en 1 cu ma 1) _) (cwV 2 hts gX1_readLog_X1_refused rfl rfl rfl (by decide +kernel) ⟨Nat.le_of_ble_eq_true rfl, Nat.le_of_ble_eq_true rfl⟩) (pV_B hP hD hK (ci := 1) (q0 := 0) rfl rfl rfl [0, 1] rfl [0, 1, 2, 3, 4, 5, 6] rfl rfl) rfl rfl hl.1 rfl (lv_room (Nat.le_of_ble_eq_true rfl)) dX1_readLog_40 ⟨Nat.le_of_ble_eq_true rfl, Nat.le_of_ble_eq_true rfl⟩) [0, 1, 2, 3, 4, 5, 6] [] rfl rfl rfl (by decide) (fun H locs hP hD hS => ?_)
      have hP : va_P D vwCl (wM h0 a0 a1 a2 a3 a4 a5 cI cZ 1 bf pw hs lo lg rt nb (nI fi) (nI fo) (nI en) 1 cu ma) H := hP
      have hD : va_D A (wM h0 a0 a1 a2 a3 a4 a5 cI cZ 1 bf pw hs lo lg rt nb (nI fi) (nI fo) (nI en) 1 cu ma) := hD
      refine lv_if_ne (tgt := 80) hx hb dX1_readLog_43 (by decide) (fun c_43 => ?_) (fun c_43 => absurd c_43 (by decide))
      exact e_V hx hb hr hlocks hP hD hS dX1_readLog_80
    · refine lv_iload_n hx hb dX1_readLog_18 rfl (lv_at hl 1 rfl) ?_
      refine lv_aload_n hx hb dX1_readLog_19 rfl (lv_at hl 0 rfl) ?_
      refine va_get (ci := 1) (v := .int (nI en)) (C := RX1) (T := TX1) (N := 14) hx hb hts inX1_readLog hown hK hP 0 rfl rfl 9 (by decide) (hts _ flX1_readLog_52) (fun _ h9 => h9) rfl dX1_readLog_20 ?_
      refine lv_iload_n hx hb dX1_readLog_23 rfl (lv_at hl 2 rfl) ?_
      refine lv_isub hx hb dX1_readLog_24 ?_
      refine lv_icmp_le (tgt := 32) hx hb dX1_readLog_25 (by decide) (fun c_25 => ?_) (fun c_25 => ?_)
      · refine lv_iconst (v := (0)) hx hb dX1_readLog_32 (by decide) ?_
        refine lv_istore_n (lv' := [(3, .int 0), (0, .ref h0), (1, .int x), (2, .int y)]) hx hb dX1_readLog_33 rfl hl (by decide) rfl (fun ls hl => ?_)
        refine lv_aload_n hx hb dX1_readLog_34 rfl (lv_at hl 1 rfl) ?_
        refine lv_aload_n hx hb dX1_readLog_35 rfl (lv_at hl 1 rfl) ?_
        refine va_get (ci := 1) (v := .int 1) (C := RX1) (T := TX1) (N := 14) hx hb hts inX1_readLog hown hK hP 0 rfl rfl 12 (by decide) (hts _ flX1_readLog_45) (fun _ h9 => h9) rfl dX1_readLog_36 ?_
        refine lv_iload_n hx hb dX1_readLog_39 rfl (lv_at hl 0 rfl) ?_
        refine k_I (wr := []) hP hD hS hA (va_runV (As := [.int 1, .int 0]) (rest := []) ⟨hx, hb, hml, hown, hts⟩ ((tX1_refused_1 th bf pw hs lo lg rt nb fi fo en 1 cu ma 0) _) (cwV 2 hts gX1_readLog_X1_refused rfl rfl rfl (by decide +kernel) ⟨Nat.le_of_ble_eq_true rfl, Nat.le_of_ble_eq_true rfl⟩) (pV_B hP hD hK (ci := 1) (q0 := 0) rfl rfl rfl [0, 1] rfl [0, 1, 2, 3, 4, 5, 6] rfl rfl) rfl rfl hl.1 rfl (lv_room (Nat.le_of_ble_eq_true rfl)) dX1_readLog_40 ⟨Nat.le_of_ble_eq_true rfl, Nat.le_of_ble_eq_true rfl⟩) [0, 1, 2, 3, 4, 5, 6] [] rfl rfl rfl (by decide) (fun H locs hP hD hS => ?_)
        have hP : va_P D vwCl (wM h0 a0 a1 a2 a3 a4 a5 cI cZ 1 bf pw hs lo lg rt nb (nI fi) (nI fo) (nI en) 1 cu ma) H := hP
        have hD : va_D A (wM h0 a0 a1 a2 a3 a4 a5 cI cZ 1 bf pw hs lo lg rt nb (nI fi) (nI fo) (nI en) 1 cu ma) := hD
        refine lv_if_ne (tgt := 80) hx hb dX1_readLog_43 (by decide) (fun c_43 => ?_) (fun c_43 => absurd c_43 (by decide))
        exact e_V hx hb hr hlocks hP hD hS dX1_readLog_80
      · refine lv_iconst (v := (1)) hx hb dX1_readLog_28 (by decide) ?_
        refine lv_goto (tgt := 33) hx hb dX1_readLog_29 (by decide) ?_
        refine lv_istore_n (lv' := [(3, .int 1), (0, .ref h0), (1, .int x), (2, .int y)]) hx hb dX1_readLog_33 rfl hl (by decide) rfl (fun ls hl => ?_)
        refine lv_aload_n hx hb dX1_readLog_34 rfl (lv_at hl 1 rfl) ?_
        refine lv_aload_n hx hb dX1_readLog_35 rfl (lv_at hl 1 rfl) ?_
        refine va_get (ci := 1) (v := .int 1) (C := RX1) (T := TX1) (N := 14) hx hb hts inX1_readLog hown hK hP 0 rfl rfl 12 (by decide) (hts _ flX1_readLog_45) (fun _ h9 => h9) rfl dX1_readLog_36 ?_
        refine lv_iload_n hx hb dX1_readLog_39 rfl (lv_at hl 0 rfl) ?_
        refine k_I (wr := []) hP hD hS hA (va_runV (As := [.int 1, .int 1]) (rest := []) ⟨hx, hb, hml, hown, hts⟩ ((tX1_refused_1 th bf pw hs lo lg rt nb fi fo en 1 cu ma 1) _) (cwV 2 hts gX1_readLog_X1_refused rfl rfl rfl (by decide +kernel) ⟨Nat.le_of_ble_eq_true rfl, Nat.le_of_ble_eq_true rfl⟩) (pV_B hP hD hK (ci := 1) (q0 := 0) rfl rfl rfl [0, 1] rfl [0, 1, 2, 3, 4, 5, 6] rfl rfl) rfl rfl hl.1 rfl (lv_room (Nat.le_of_ble_eq_true rfl)) dX1_readLog_40 ⟨Nat.le_of_ble_eq_true rfl, Nat.le_of_ble_eq_true rfl⟩) [0, 1, 2, 3, 4, 5, 6] [] rfl rfl rfl (by decide) (fun H locs hP hD hS => ?_)
        have hP : va_P D vwCl (wM h0 a0 a1 a2 a3 a4 a5 cI cZ 1 bf pw hs lo lg rt nb (nI fi) (nI fo) (nI en) 1 cu ma) H := hP
        have hD : va_D A (wM h0 a0 a1 a2 a3 a4 a5 cI cZ 1 bf pw hs lo lg rt nb (nI fi) (nI fo) (nI en) 1 cu ma) := hD
        refine lv_if_ne (tgt := 80) hx hb dX1_readLog_43 (by decide) (fun c_43 => ?_) (fun c_43 => absurd c_43 (by decide))
        exact e_V hx hb hr hlocks hP hD hS dX1_readLog_80
set_option maxHeartbeats 4000000 in
set_option maxRecDepth 100000 in
theorem tX1_readLog_xb {l : Launch} {D : va_G} {cI cZ : ClassId} {h0 a0 a1 a2 a3 a4 a5 : Nat} (th : Int32) (bf pw hs lo lg rt : Nat → Int32) (nb : Int32) (fi fo en : Nat) (cu ma : Int32) (x y : Int32) (h : badR fi en x y) : RV l yX1_readLog wsX1_readLog 8 0 0 D (tyC cI cZ) (wM h0 a0 a1 a2 a3 a4 a5 cI cZ th bf pw hs lo lg rt nb (nI fi) (nI fo) (nI en) 0 cu ma) [.ref h0, .int x, .int y] (wM h0 a0 a1 a2 a3 a4 a5 cI cZ 2 bf pw hs lo lg rt nb (nI fi) (nI fo) (nI en) 0 cu ma) := by
  refine st_V (cc := cX1_readLog) (maxL := 5) (ret := none) (by decide +kernel) rfl (Nat.le_of_ble_eq_true rfl) ?_
  intro p e s m below meth c A hx hb hr hts hown hml hlocks hK hP hD hA hS ls hl
  have hown : s.vm.findClass RX1 = some m.cls := hown
  have hl : lv_has ls 5 [(0, .ref h0), (1, .int x), (2, .int y)] := hl
  rcases h with h | ⟨k, h1, h2, rfl, h⟩
  · refine lv_iload_n hx hb dX1_readLog_0 rfl (lv_at hl 2 rfl) ?_
    refine lv_iconst (v := (nI 1)) hx hb dX1_readLog_1 (by decide) ?_
    refine lv_bipush (v := (nI 64)) hx hb dX1_readLog_2 (by decide) ?_
    refine k_I (wr := wM h0 a0 a1 a2 a3 a4 a5 cI cZ th bf pw hs lo lg rt nb (nI fi) (nI fo) (nI en) 0 cu ma) hP hD hS hA (va_runS (As := [.int y, .int (nI 1), .int (nI 64)]) (rest := []) ⟨hx, hb, hml, hown, hts⟩ ((tX1_in_e y (nI 1) (nI 64) 0 (sp_in_f h)) _) (va_cwS 3 hts gX1_readLog_X1_in rfl rfl rfl (by decide +kernel) ⟨Nat.le_of_ble_eq_true rfl, Nat.le_of_ble_eq_true rfl⟩) (pS_B hP hD hK [] rfl [] rfl rfl) rfl rfl hl.1 rfl (lv_room (Nat.le_of_ble_eq_true rfl)) dX1_readLog_4 ⟨Nat.le_of_ble_eq_true rfl, Nat.le_of_ble_eq_true rfl⟩) [] [0, 1, 2, 3, 4, 5, 6] rfl rfl rfl (by decide) (fun H locs hP hD hS => ?_)
    have hP : va_P D vwCl (wM h0 a0 a1 a2 a3 a4 a5 cI cZ th bf pw hs lo lg rt nb (nI fi) (nI fo) (nI en) 0 cu ma) H := hP
    have hD : va_D A (wM h0 a0 a1 a2 a3 a4 a5 cI cZ th bf pw hs lo lg rt nb (nI fi) (nI fo) (nI en) 0 cu ma) := hD
    refine lv_if_eq (tgt := 28) hx hb dX1_readLog_7 (by decide) (fun c_7 => ?_) (fun c_7 => absurd (by decide) c_7)
    refine lv_iconst (v := (1)) hx hb dX1_readLog_28 (by decide) ?_
    refine lv_goto (tgt := 33) hx hb dX1_readLog_29 (by decide) ?_
    refine lv_istore_n (lv' := [(3, .int 1), (0, .ref h0), (1, .int x), (2, .int y)]) hx hb dX1_readLog_33 rfl hl (by decide) rfl (fun ls hl => ?_)
    refine lv_aload_n hx hb dX1_readLog_34 rfl (lv_at hl 1 rfl) ?_
    refine lv_aload_n hx hb dX1_readLog_35 rfl (lv_at hl 1 rfl) ?_
    refine va_get (ci := 1) (v := .int 0) (C := RX1) (T := TX1) (N := 14) hx hb hts inX1_readLog hown hK hP 0 rfl rfl 12 (by decide) (hts _ flX1_readLog_45) (fun _ h9 => h9) rfl dX1_readLog_36 ?_
    refine lv_iload_n hx hb dX1_readLog_39 rfl (lv_at hl 0 rfl) ?_
    refine k_I (wr := []) hP hD hS hA (va_runV (As := [.int 0, .int 1]) (rest := []) ⟨hx, hb, hml, hown, hts⟩ ((tX1_refused_2 th bf pw hs lo lg rt nb fi fo en 0 cu ma) _) (cwV 2 hts gX1_readLog_X1_refused rfl rfl rfl (by decide +kernel) ⟨Nat.le_of_ble_eq_true rfl, Nat.le_of_ble_eq_true rfl⟩) (pV_B hP hD hK (ci := 1) (q0 := 0) rfl rfl rfl [0, 1] rfl [0, 1, 2, 3, 4, 5, 6] rfl rfl) rfl rfl hl.1 rfl (lv_room (Nat.le_of_ble_eq_true rfl)) dX1_readLog_40 ⟨Nat.le_of_ble_eq_true rfl, Nat.le_of_ble_eq_true rfl⟩) [0, 1, 2, 3, 4, 5, 6] [] rfl rfl rfl (by decide) (fun H locs hP hD hS => ?_)
    have hP : va_P D vwCl (wM h0 a0 a1 a2 a3 a4 a5 cI cZ 2 bf pw hs lo lg rt nb (nI fi) (nI fo) (nI en) 0 cu ma) H := hP
    have hD : va_D A (wM h0 a0 a1 a2 a3 a4 a5 cI cZ 2 bf pw hs lo lg rt nb (nI fi) (nI fo) (nI en) 0 cu ma) := hD
    refine lv_if_ne (tgt := 80) hx hb dX1_readLog_43 (by decide) (fun c_43 => ?_) (fun c_43 => absurd c_43 (by decide))
    exact e_V hx hb hr hlocks hP hD hS dX1_readLog_80
  · refine lv_iload_n hx hb dX1_readLog_0 rfl (lv_at hl 2 rfl) ?_
    refine lv_iconst (v := (nI 1)) hx hb dX1_readLog_1 (by decide) ?_
    refine lv_bipush (v := (nI 64)) hx hb dX1_readLog_2 (by decide) ?_
    refine k_I (wr := wM h0 a0 a1 a2 a3 a4 a5 cI cZ th bf pw hs lo lg rt nb (nI fi) (nI fo) (nI en) 0 cu ma) hP hD hS hA (va_runS (As := [.int (nI k), .int (nI 1), .int (nI 64)]) (rest := []) ⟨hx, hb, hml, hown, hts⟩ ((tX1_in_e (nI k) (nI 1) (nI 64) 1 (sp_in_t (by omega) (by omega) (by omega))) _) (va_cwS 3 hts gX1_readLog_X1_in rfl rfl rfl (by decide +kernel) ⟨Nat.le_of_ble_eq_true rfl, Nat.le_of_ble_eq_true rfl⟩) (pS_B hP hD hK [] rfl [] rfl rfl) rfl rfl hl.1 rfl (lv_room (Nat.le_of_ble_eq_true rfl)) dX1_readLog_4 ⟨Nat.le_of_ble_eq_true rfl, Nat.le_of_ble_eq_true rfl⟩) [] [0, 1, 2, 3, 4, 5, 6] rfl rfl rfl (by decide) (fun H locs hP hD hS => ?_)
    have hP : va_P D vwCl (wM h0 a0 a1 a2 a3 a4 a5 cI cZ th bf pw hs lo lg rt nb (nI fi) (nI fo) (nI en) 0 cu ma) H := hP
    have hD : va_D A (wM h0 a0 a1 a2 a3 a4 a5 cI cZ th bf pw hs lo lg rt nb (nI fi) (nI fo) (nI en) 0 cu ma) := hD
    refine lv_if_eq (tgt := 28) hx hb dX1_readLog_7 (by decide) (fun c_7 => absurd c_7 (by decide)) (fun c_7 => ?_)
    refine lv_iload_n hx hb dX1_readLog_10 rfl (lv_at hl 1 rfl) ?_
    refine lv_aload_n hx hb dX1_readLog_11 rfl (lv_at hl 0 rfl) ?_
    refine va_get (ci := 1) (v := .int (nI fi)) (C := RX1) (T := TX1) (N := 14) hx hb hts inX1_readLog hown hK hP 0 rfl rfl 7 (by decide) (hts _ flX1_readLog_35) (fun _ h9 => h9) rfl dX1_readLog_12 ?_
    refine lv_icmp_lt (tgt := 28) hx hb dX1_readLog_15 (by decide) (fun c_15 => ?_) (fun c_15 => ?_)
    · refine lv_iconst (v := (1)) hx hb dX1_readLog_28 (by decide) ?_
      refine lv_goto (tgt := 33) hx hb dX1_readLog_29 (by decide) ?_
      refine lv_istore_n (lv' := [(3, .int 1), (0, .ref h0), (1, .int x), (2, .int (nI k))]) hx hb dX1_readLog_33 rfl hl (by decide) rfl (fun ls hl => ?_)
      refine lv_aload_n hx hb dX1_readLog_34 rfl (lv_at hl 1 rfl) ?_
      refine lv_aload_n hx hb dX1_readLog_35 rfl (lv_at hl 1 rfl) ?_
      refine va_get (ci := 1) (v := .int 0) (C := RX1) (T := TX1) (N := 14) hx hb hts inX1_readLog hown hK hP 0 rfl rfl 12 (by decide) (hts _ flX1_readLog_45) (fun _ h9 => h9) rfl dX1_readLog_36 ?_
      refine lv_iload_n hx hb dX1_readLog_39 rfl (lv_at hl 0 rfl) ?_
      refine k_I (wr := []) hP hD hS hA (va_runV (As := [.int 0, .int 1]) (rest := []) ⟨hx, hb, hml, hown, hts⟩ ((tX1_refused_2 th bf pw hs lo lg rt nb fi fo en 0 cu ma) _) (cwV 2 hts gX1_readLog_X1_refused rfl rfl rfl (by decide +kernel) ⟨Nat.le_of_ble_eq_true rfl, Nat.le_of_ble_eq_true rfl⟩) (pV_B hP hD hK (ci := 1) (q0 := 0) rfl rfl rfl [0, 1] rfl [0, 1, 2, 3, 4, 5, 6] rfl rfl) rfl rfl hl.1 rfl (lv_room (Nat.le_of_ble_eq_true rfl)) dX1_readLog_40 ⟨Nat.le_of_ble_eq_true rfl, Nat.le_of_ble_eq_true rfl⟩) [0, 1, 2, 3, 4, 5, 6] [] rfl rfl rfl (by decide) (fun H locs hP hD hS => ?_)
      have hP : va_P D vwCl (wM h0 a0 a1 a2 a3 a4 a5 cI cZ 2 bf pw hs lo lg rt nb (nI fi) (nI fo) (nI en) 0 cu ma) H := hP
      have hD : va_D A (wM h0 a0 a1 a2 a3 a4 a5 cI cZ 2 bf pw hs lo lg rt nb (nI fi) (nI fo) (nI en) 0 cu ma) := hD
      refine lv_if_ne (tgt := 80) hx hb dX1_readLog_43 (by decide) (fun c_43 => ?_) (fun c_43 => absurd c_43 (by decide))
      exact e_V hx hb hr hlocks hP hD hS dX1_readLog_80
    · refine lv_iload_n hx hb dX1_readLog_18 rfl (lv_at hl 1 rfl) ?_
      refine lv_aload_n hx hb dX1_readLog_19 rfl (lv_at hl 0 rfl) ?_
      refine va_get (ci := 1) (v := .int (nI en)) (C := RX1) (T := TX1) (N := 14) hx hb hts inX1_readLog hown hK hP 0 rfl rfl 9 (by decide) (hts _ flX1_readLog_52) (fun _ h9 => h9) rfl dX1_readLog_20 ?_
      refine lv_iload_n hx hb dX1_readLog_23 rfl (lv_at hl 2 rfl) ?_
      refine lv_isub hx hb dX1_readLog_24 ?_
      refine lv_icmp_le (tgt := 32) hx hb dX1_readLog_25 (by decide) (fun c_25 => absurd c_25 (pl_nle h c_15)) (fun c_25 => ?_)
      refine lv_iconst (v := (1)) hx hb dX1_readLog_28 (by decide) ?_
      refine lv_goto (tgt := 33) hx hb dX1_readLog_29 (by decide) ?_
      refine lv_istore_n (lv' := [(3, .int 1), (0, .ref h0), (1, .int x), (2, .int (nI k))]) hx hb dX1_readLog_33 rfl hl (by decide) rfl (fun ls hl => ?_)
      refine lv_aload_n hx hb dX1_readLog_34 rfl (lv_at hl 1 rfl) ?_
      refine lv_aload_n hx hb dX1_readLog_35 rfl (lv_at hl 1 rfl) ?_
      refine va_get (ci := 1) (v := .int 0) (C := RX1) (T := TX1) (N := 14) hx hb hts inX1_readLog hown hK hP 0 rfl rfl 12 (by decide) (hts _ flX1_readLog_45) (fun _ h9 => h9) rfl dX1_readLog_36 ?_
      refine lv_iload_n hx hb dX1_readLog_39 rfl (lv_at hl 0 rfl) ?_
      refine k_I (wr := []) hP hD hS hA (va_runV (As := [.int 0, .int 1]) (rest := []) ⟨hx, hb, hml, hown, hts⟩ ((tX1_refused_2 th bf pw hs lo lg rt nb fi fo en 0 cu ma) _) (cwV 2 hts gX1_readLog_X1_refused rfl rfl rfl (by decide +kernel) ⟨Nat.le_of_ble_eq_true rfl, Nat.le_of_ble_eq_true rfl⟩) (pV_B hP hD hK (ci := 1) (q0 := 0) rfl rfl rfl [0, 1] rfl [0, 1, 2, 3, 4, 5, 6] rfl rfl) rfl rfl hl.1 rfl (lv_room (Nat.le_of_ble_eq_true rfl)) dX1_readLog_40 ⟨Nat.le_of_ble_eq_true rfl, Nat.le_of_ble_eq_true rfl⟩) [0, 1, 2, 3, 4, 5, 6] [] rfl rfl rfl (by decide) (fun H locs hP hD hS => ?_)
      have hP : va_P D vwCl (wM h0 a0 a1 a2 a3 a4 a5 cI cZ 2 bf pw hs lo lg rt nb (nI fi) (nI fo) (nI en) 0 cu ma) H := hP
      have hD : va_D A (wM h0 a0 a1 a2 a3 a4 a5 cI cZ 2 bf pw hs lo lg rt nb (nI fi) (nI fo) (nI en) 0 cu ma) := hD
      refine lv_if_ne (tgt := 80) hx hb dX1_readLog_43 (by decide) (fun c_43 => ?_) (fun c_43 => absurd c_43 (by decide))
      exact e_V hx hb hr hlocks hP hD hS dX1_readLog_80
set_option maxHeartbeats 4000000 in
set_option maxRecDepth 100000 in
theorem tX1_readLog_ok {l : Launch} {D : va_G} {cI cZ : ClassId} {h0 a0 a1 a2 a3 a4 a5 : Nat} (th : Int32) (bf pw hs lo lg rt : Nat → Int32) (nb : Int32) (fi fo en : Nat) (cu ma : Int32) (pl k : Nat) (hk : 1 ≤ k) (hk2 : k ≤ 64) (h1 : fi ≤ pl) (h2 : pl + k ≤ en) (he : en ≤ 60000) : RV l yX1_readLog wsX1_readLog 8 0 0 D (tyC cI cZ) (wM h0 a0 a1 a2 a3 a4 a5 cI cZ th bf pw hs lo lg rt nb (nI fi) (nI fo) (nI en) 0 cu ma) [.ref h0, .int (nI pl), .int (nI k)] (wM h0 a0 a1 a2 a3 a4 a5 cI cZ 0 (fl (fun j => lg ((pl + j) % 65536)) k bf) pw hs lo lg rt nb (nI fi) (nI fo) (nI en) 0 cu ma) := by
  refine st_V (cc := cX1_readLog) (maxL := 5) (ret := none) (by decide +kernel) rfl (Nat.le_of_ble_eq_true rfl) ?_
  intro p e s m below meth c A hx hb hr hts hown hml hlocks hK hP hD hA hS ls hl
  have hown : s.vm.findClass RX1 = some m.cls := hown
  have hl : lv_has ls 5 [(0, .ref h0), (1, .int (nI pl)), (2, .int (nI k))] := hl
  refine lv_iload_n hx hb dX1_readLog_0 rfl (lv_at hl 2 rfl) ?_
  refine lv_iconst (v := (nI 1)) hx hb dX1_readLog_1 (by decide) ?_
  refine lv_bipush (v := (nI 64)) hx hb dX1_readLog_2 (by decide) ?_
  refine k_I (wr := wM h0 a0 a1 a2 a3 a4 a5 cI cZ th bf pw hs lo lg rt nb (nI fi) (nI fo) (nI en) 0 cu ma) hP hD hS hA (va_runS (As := [.int (nI k), .int (nI 1), .int (nI 64)]) (rest := []) ⟨hx, hb, hml, hown, hts⟩ ((tX1_in_e (nI k) (nI 1) (nI 64) 1 (sp_in_t (by omega) (by omega) (by omega))) _) (va_cwS 3 hts gX1_readLog_X1_in rfl rfl rfl (by decide +kernel) ⟨Nat.le_of_ble_eq_true rfl, Nat.le_of_ble_eq_true rfl⟩) (pS_B hP hD hK [] rfl [] rfl rfl) rfl rfl hl.1 rfl (lv_room (Nat.le_of_ble_eq_true rfl)) dX1_readLog_4 ⟨Nat.le_of_ble_eq_true rfl, Nat.le_of_ble_eq_true rfl⟩) [] [0, 1, 2, 3, 4, 5, 6] rfl rfl rfl (by decide) (fun H locs hP hD hS => ?_)
  have hP : va_P D vwCl (wM h0 a0 a1 a2 a3 a4 a5 cI cZ th bf pw hs lo lg rt nb (nI fi) (nI fo) (nI en) 0 cu ma) H := hP
  have hD : va_D A (wM h0 a0 a1 a2 a3 a4 a5 cI cZ th bf pw hs lo lg rt nb (nI fi) (nI fo) (nI en) 0 cu ma) := hD
  refine lv_if_eq (tgt := 28) hx hb dX1_readLog_7 (by decide) (fun c_7 => absurd c_7 (by decide)) (fun c_7 => ?_)
  refine lv_iload_n hx hb dX1_readLog_10 rfl (lv_at hl 1 rfl) ?_
  refine lv_aload_n hx hb dX1_readLog_11 rfl (lv_at hl 0 rfl) ?_
  refine va_get (ci := 1) (v := .int (nI fi)) (C := RX1) (T := TX1) (N := 14) hx hb hts inX1_readLog hown hK hP 0 rfl rfl 7 (by decide) (hts _ flX1_readLog_35) (fun _ h9 => h9) rfl dX1_readLog_12 ?_
  refine n_lt (tgt := 28) hx hb (by omega) (by omega) dX1_readLog_15 (by decide) (fun c_15 => absurd c_15 (by omega)) (fun c_15 => ?_)
  refine lv_iload_n hx hb dX1_readLog_18 rfl (lv_at hl 1 rfl) ?_
  refine lv_aload_n hx hb dX1_readLog_19 rfl (lv_at hl 0 rfl) ?_
  refine va_get (ci := 1) (v := .int (nI en)) (C := RX1) (T := TX1) (N := 14) hx hb hts inX1_readLog hown hK hP 0 rfl rfl 9 (by decide) (hts _ flX1_readLog_52) (fun _ h9 => h9) rfl dX1_readLog_20 ?_
  refine lv_iload_n hx hb dX1_readLog_23 rfl (lv_at hl 2 rfl) ?_
  refine n_isub hx hb (by omega) dX1_readLog_24 ?_
  refine n_le (tgt := 32) hx hb (by omega) (by omega) dX1_readLog_25 (by decide) (fun c_25 => ?_) (fun c_25 => absurd c_25 (by omega))
  refine lv_iconst (v := (0)) hx hb dX1_readLog_32 (by decide) ?_
  refine lv_istore_n (lv' := [(3, .int 0), (0, .ref h0), (1, .int (nI pl)), (2, .int (nI k))]) hx hb dX1_readLog_33 rfl hl (by decide) rfl (fun ls hl => ?_)
  refine lv_aload_n hx hb dX1_readLog_34 rfl (lv_at hl 1 rfl) ?_
  refine lv_aload_n hx hb dX1_readLog_35 rfl (lv_at hl 1 rfl) ?_
  refine va_get (ci := 1) (v := .int 0) (C := RX1) (T := TX1) (N := 14) hx hb hts inX1_readLog hown hK hP 0 rfl rfl 12 (by decide) (hts _ flX1_readLog_45) (fun _ h9 => h9) rfl dX1_readLog_36 ?_
  refine lv_iload_n hx hb dX1_readLog_39 rfl (lv_at hl 0 rfl) ?_
  refine k_I (wr := []) hP hD hS hA (va_runV (As := [.int 0, .int 0]) (rest := []) ⟨hx, hb, hml, hown, hts⟩ ((tX1_refused_0 th bf pw hs lo lg rt nb fi fo en 0 cu ma) _) (cwV 2 hts gX1_readLog_X1_refused rfl rfl rfl (by decide +kernel) ⟨Nat.le_of_ble_eq_true rfl, Nat.le_of_ble_eq_true rfl⟩) (pV_B hP hD hK (ci := 1) (q0 := 0) rfl rfl rfl [0, 1] rfl [0, 1, 2, 3, 4, 5, 6] rfl rfl) rfl rfl hl.1 rfl (lv_room (Nat.le_of_ble_eq_true rfl)) dX1_readLog_40 ⟨Nat.le_of_ble_eq_true rfl, Nat.le_of_ble_eq_true rfl⟩) [0, 1, 2, 3, 4, 5, 6] [] rfl rfl rfl (by decide) (fun H locs hP hD hS => ?_)
  have hP : va_P D vwCl (wM h0 a0 a1 a2 a3 a4 a5 cI cZ 0 bf pw hs lo lg rt nb (nI fi) (nI fo) (nI en) 0 cu ma) H := hP
  have hD : va_D A (wM h0 a0 a1 a2 a3 a4 a5 cI cZ 0 bf pw hs lo lg rt nb (nI fi) (nI fo) (nI en) 0 cu ma) := hD
  refine lv_if_ne (tgt := 80) hx hb dX1_readLog_43 (by decide) (fun c_43 => absurd (by decide) c_43) (fun c_43 => ?_)
  refine lv_iconst (v := (nI 0)) hx hb dX1_readLog_46 (by decide) ?_
  refine lv_istore (lv' := [(4, .int (nI 0)), (3, .int 0), (0, .ref h0), (1, .int (nI pl)), (2, .int (nI k))]) hx hb dX1_readLog_47 hl (by decide) rfl (fun ls hl => ?_)
  have lp_49 : ∀ (n9 i : Nat), i + n9 = k → ∀ (H : Heap) (locs : List Loc) (ls : Array Slot), va_P D vwCl (wM h0 a0 a1 a2 a3 a4 a5 cI cZ 0 (fl (fun j => lg ((pl + j) % 65536)) i bf) pw hs lo lg rt nb (nI fi) (nI fo) (nI en) 0 cu ma) H → va_D A (wM h0 a0 a1 a2 a3 a4 a5 cI cZ 0 (fl (fun j => lg ((pl + j) % 65536)) i bf) pw hs lo lg rt nb (nI fi) (nI fo) (nI en) 0 cu ma) → va_S A s.heap H locs → lv_has ls 5 [(0, .ref h0), (1, .int (nI pl)), (2, .int (nI k)), (3, .int 0), (4, .int (nI i))] → W p l e (rmL 8 0 0) s m ([.ref h0, .int (nI pl), .int (nI k)] : List Value).toArray below meth c H locs 0 0 (MQ below (qcV D A (wM h0 a0 a1 a2 a3 a4 a5 cI cZ 0 (fl (fun j => lg ((pl + j) % 65536)) k bf) pw hs lo lg rt nb (nI fi) (nI fo) (nI en) 0 cu ma)) ([.ref h0, .int (nI pl), .int (nI k)] : List Value).toArray s 0 0 A) (F0 m 49 ls []) := by
    intro n9
    induction n9 with
    | zero =>
      intro i hi H locs ls hP hD hS hl
      obtain rfl : k = i := by omega
      refine lv_iload hx hb dX1_readLog_49 (lv_at hl 4 rfl) ?_
      refine lv_iload_n hx hb dX1_readLog_51 rfl (lv_at hl 2 rfl) ?_
      refine n_ge (tgt := 80) hx hb (by omega) (by omega) dX1_readLog_52 (by decide) (fun c_52 => ?_) (fun c_52 => absurd c_52 (by omega))
      exact e_V hx hb hr hlocks hP hD hS dX1_readLog_80
    | succ n9 ih =>
      intro i hi H locs ls hP hD hS hl
      refine lv_iload hx hb dX1_readLog_49 (lv_at hl 4 rfl) ?_
      refine lv_iload_n hx hb dX1_readLog_51 rfl (lv_at hl 2 rfl) ?_
      refine n_ge (tgt := 80) hx hb (by omega) (by omega) dX1_readLog_52 (by decide) (fun c_52 => absurd c_52 (by omega)) (fun c_52 => ?_)
      refine lv_aload_n hx hb dX1_readLog_55 rfl (lv_at hl 0 rfl) ?_
      refine va_get (ci := 1) (v := .ref a0) (C := RX1) (T := TX1) (N := 14) hx hb hts inX1_readLog hown hK hP 0 rfl rfl 6 (by decide) (hts _ flX1_readLog_28) (fun _ h9 => h9) rfl dX1_readLog_56 ?_
      refine lv_iload hx hb dX1_readLog_59 (lv_at hl 4 rfl) ?_
      refine lv_aload_n hx hb dX1_readLog_61 rfl (lv_at hl 0 rfl) ?_
      refine va_get (ci := 1) (v := .ref a4) (C := RX1) (T := TX1) (N := 14) hx hb hts inX1_readLog hown hK hP 0 rfl rfl 4 (by decide) (hts _ flX1_readLog_22) (fun _ h9 => h9) rfl dX1_readLog_62 ?_
      refine lv_iload_n hx hb dX1_readLog_65 rfl (lv_at hl 1 rfl) ?_
      refine lv_iload hx hb dX1_readLog_66 (lv_at hl 4 rfl) ?_
      refine n_iadd hx hb dX1_readLog_68 ?_
      refine lv_ldc (v := nI 65536) hx hb hown (hts (.constant RX1 21 (65536)) (by decide +kernel)) dX1_readLog_69 ?_
      refine n_r16 hx hb (by omega) dX1_readLog_71 ?_
      refine n_iald hx hb hK hP 5 0 rfl rfl ((pl + i) % 65536) (by omega) (by omega) dX1_readLog_72 ?_
      refine n_iast hx hb hK hP hD hS 1 0 rfl rfl i (by omega) (by omega) dX1_readLog_73 (fun H locs hP hD hS => ?_)
      have hP : va_P D vwCl (wM h0 a0 a1 a2 a3 a4 a5 cI cZ 0 (upd (fl (fun j => lg ((pl + j) % 65536)) i bf) i (lg ((pl + i) % 65536))) pw hs lo lg rt nb (nI fi) (nI fo) (nI en) 0 cu ma) H := hP
      have hD : va_D A (wM h0 a0 a1 a2 a3 a4 a5 cI cZ 0 (upd (fl (fun j => lg ((pl + j) % 65536)) i bf) i (lg ((pl + i) % 65536))) pw hs lo lg rt nb (nI fi) (nI fo) (nI en) 0 cu ma) := hD
      refine n_iinc (lv' := [(4, .int (nI (i + 1))), (0, .ref h0), (1, .int (nI pl)), (2, .int (nI k)), (3, .int 0)]) hx hb dX1_readLog_74 hl (k := 4) rfl (by decide) rfl (fun ls hl => ?_)
      refine lv_goto (tgt := 49) hx hb dX1_readLog_77 (by decide) ?_
      have hP : va_P D vwCl (wM h0 a0 a1 a2 a3 a4 a5 cI cZ 0 (fl (fun j => lg ((pl + j) % 65536)) (i + 1) bf) pw hs lo lg rt nb (nI fi) (nI fo) (nI en) 0 cu ma) H := by rw [← fl_s]; exact hP
      have hD : va_D A (wM h0 a0 a1 a2 a3 a4 a5 cI cZ 0 (fl (fun j => lg ((pl + j) % 65536)) (i + 1) bf) pw hs lo lg rt nb (nI fi) (nI fo) (nI en) 0 cu ma) := by rw [← fl_s]; exact hD
      exact ih (i + 1) (by omega) _ _ _ hP hD hS (lv_sub hl [1, 2, 3, 4, 0] rfl)
  have hP : va_P D vwCl (wM h0 a0 a1 a2 a3 a4 a5 cI cZ 0 (fl (fun j => lg ((pl + j) % 65536)) 0 bf) pw hs lo lg rt nb (nI fi) (nI fo) (nI en) 0 cu ma) H := by rw [fl_0]; exact hP
  have hD : va_D A (wM h0 a0 a1 a2 a3 a4 a5 cI cZ 0 (fl (fun j => lg ((pl + j) % 65536)) 0 bf) pw hs lo lg rt nb (nI fi) (nI fo) (nI en) 0 cu ma) := by rw [fl_0]; exact hD
  exact lp_49 k 0 (by omega) _ _ _ hP hD hS (lv_sub hl [2, 3, 4, 1, 0] rfl)
set_option maxHeartbeats 4000000 in
set_option maxRecDepth 100000 in
theorem tX1_giveBack_x0 {l : Launch} {D : va_G} {cI cZ : ClassId} {h0 a0 a1 a2 a3 a4 a5 : Nat} (th : Int32) (bf pw hs lo lg rt : Nat → Int32) (nb : Int32) (fi fo en : Nat) (cu ma : Int32) (x : Int32) : RV l yX1_giveBack wsX1_giveBack 8 0 0 D (tyC cI cZ) (wM h0 a0 a1 a2 a3 a4 a5 cI cZ th bf pw hs lo lg rt nb (nI fi) (nI fo) (nI en) 1 cu ma) [.ref h0, .int x] (wM h0 a0 a1 a2 a3 a4 a5 cI cZ 1 bf pw hs lo lg rt nb (nI fi) (nI fo) (nI en) 1 cu ma) := by
  refine st_V (cc := cX1_giveBack) (maxL := 2) (ret := none) (by decide +kernel) rfl (Nat.le_of_ble_eq_true rfl) ?_
  intro p e s m below meth c A hx hb hr hts hown hml hlocks hK hP hD hA hS ls hl
  have hown : s.vm.findClass RX1 = some m.cls := hown
  have hl : lv_has ls 2 [(0, .ref h0), (1, .int x)] := hl
  refine lv_aload_n hx hb dX1_giveBack_0 rfl (lv_at hl 0 rfl) ?_
  refine lv_aload_n hx hb dX1_giveBack_1 rfl (lv_at hl 0 rfl) ?_
  refine va_get (ci := 1) (v := .int 1) (C := RX1) (T := TX1) (N := 14) hx hb hts inX1_giveBack hown hK hP 0 rfl rfl 12 (by decide) (hts _ flX1_giveBack_45) (fun _ h9 => h9) rfl dX1_giveBack_2 ?_
  refine lv_iload_n hx hb dX1_giveBack_5 rfl (lv_at hl 1 rfl) ?_
  refine lv_aload_n hx hb dX1_giveBack_6 rfl (lv_at hl 0 rfl) ?_
  refine va_get (ci := 1) (v := .int (nI fi)) (C := RX1) (T := TX1) (N := 14) hx hb hts inX1_giveBack hown hK hP 0 rfl rfl 7 (by decide) (hts _ flX1_giveBack_35) (fun _ h9 => h9) rfl dX1_giveBack_7 ?_
  refine lv_icmp_lt (tgt := 21) hx hb dX1_giveBack_10 (by decide) (fun c_10 => ?_) (fun c_10 => ?_)
  · refine lv_iconst (v := (1)) hx hb dX1_giveBack_21 (by decide) ?_
    refine lv_goto (tgt := 26) hx hb dX1_giveBack_22 (by decide) ?_
    refine k_I (wr := []) hP hD hS hA (va_runV (As := [.int 1, .int 1]) (rest := []) ⟨hx, hb, hml, hown, hts⟩ ((tX1_refused_1 th bf pw hs lo lg rt nb fi fo en 1 cu ma 1) _) (cwV 2 hts gX1_giveBack_X1_refused rfl rfl rfl (by decide +kernel) ⟨Nat.le_of_ble_eq_true rfl, Nat.le_of_ble_eq_true rfl⟩) (pV_B hP hD hK (ci := 1) (q0 := 0) rfl rfl rfl [0, 1] rfl [0, 1, 2, 3, 4, 5, 6] rfl rfl) rfl rfl hl.1 rfl (lv_room (Nat.le_of_ble_eq_true rfl)) dX1_giveBack_26 ⟨Nat.le_of_ble_eq_true rfl, Nat.le_of_ble_eq_true rfl⟩) [0, 1, 2, 3, 4, 5, 6] [] rfl rfl rfl (by decide) (fun H locs hP hD hS => ?_)
    have hP : va_P D vwCl (wM h0 a0 a1 a2 a3 a4 a5 cI cZ 1 bf pw hs lo lg rt nb (nI fi) (nI fo) (nI en) 1 cu ma) H := hP
    have hD : va_D A (wM h0 a0 a1 a2 a3 a4 a5 cI cZ 1 bf pw hs lo lg rt nb (nI fi) (nI fo) (nI en) 1 cu ma) := hD
    refine lv_if_ne (tgt := 37) hx hb dX1_giveBack_29 (by decide) (fun c_29 => ?_) (fun c_29 => absurd c_29 (by decide))
    exact e_V hx hb hr hlocks hP hD hS dX1_giveBack_37
  · refine lv_iload_n hx hb dX1_giveBack_13 rfl (lv_at hl 1 rfl) ?_
    refine lv_aload_n hx hb dX1_giveBack_14 rfl (lv_at hl 0 rfl) ?_
    refine va_get (ci := 1) (v := .int (nI fo)) (C := RX1) (T := TX1) (N := 14) hx hb hts inX1_giveBack hown hK hP 0 rfl rfl 8 (by decide) (hts _ flX1_giveBack_49) (fun _ h9 => h9) rfl dX1_giveBack_15 ?_
    refine lv_icmp_le (tgt := 25) hx hb dX1_giveBack_18 (by decide) (fun c_18 => ?_) (fun c_18 => ?_)
    · refine lv_iconst (v := (0)) hx hb dX1_giveBack_25 (by decide) ?_
      refine k_I (wr := []) hP hD hS hA (va_runV (As := [.int 1, .int 0]) (rest := []) ⟨hx, hb, hml, hown, hts⟩ ((tX1_refused_1 th bf pw hs lo lg rt nb fi fo en 1 cu ma 0) _) (cwV 2 hts gX1_giveBack_X1_refused rfl rfl rfl (by decide +kernel) ⟨Nat.le_of_ble_eq_true rfl, Nat.le_of_ble_eq_true rfl⟩) (pV_B hP hD hK (ci := 1) (q0 := 0) rfl rfl rfl [0, 1] rfl [0, 1, 2, 3, 4, 5, 6] rfl rfl) rfl rfl hl.1 rfl (lv_room (Nat.le_of_ble_eq_true rfl)) dX1_giveBack_26 ⟨Nat.le_of_ble_eq_true rfl, Nat.le_of_ble_eq_true rfl⟩) [0, 1, 2, 3, 4, 5, 6] [] rfl rfl rfl (by decide) (fun H locs hP hD hS => ?_)
      have hP : va_P D vwCl (wM h0 a0 a1 a2 a3 a4 a5 cI cZ 1 bf pw hs lo lg rt nb (nI fi) (nI fo) (nI en) 1 cu ma) H := hP
      have hD : va_D A (wM h0 a0 a1 a2 a3 a4 a5 cI cZ 1 bf pw hs lo lg rt nb (nI fi) (nI fo) (nI en) 1 cu ma) := hD
      refine lv_if_ne (tgt := 37) hx hb dX1_giveBack_29 (by decide) (fun c_29 => ?_) (fun c_29 => absurd c_29 (by decide))
      exact e_V hx hb hr hlocks hP hD hS dX1_giveBack_37
    · refine lv_iconst (v := (1)) hx hb dX1_giveBack_21 (by decide) ?_
      refine lv_goto (tgt := 26) hx hb dX1_giveBack_22 (by decide) ?_
      refine k_I (wr := []) hP hD hS hA (va_runV (As := [.int 1, .int 1]) (rest := []) ⟨hx, hb, hml, hown, hts⟩ ((tX1_refused_1 th bf pw hs lo lg rt nb fi fo en 1 cu ma 1) _) (cwV 2 hts gX1_giveBack_X1_refused rfl rfl rfl (by decide +kernel) ⟨Nat.le_of_ble_eq_true rfl, Nat.le_of_ble_eq_true rfl⟩) (pV_B hP hD hK (ci := 1) (q0 := 0) rfl rfl rfl [0, 1] rfl [0, 1, 2, 3, 4, 5, 6] rfl rfl) rfl rfl hl.1 rfl (lv_room (Nat.le_of_ble_eq_true rfl)) dX1_giveBack_26 ⟨Nat.le_of_ble_eq_true rfl, Nat.le_of_ble_eq_true rfl⟩) [0, 1, 2, 3, 4, 5, 6] [] rfl rfl rfl (by decide) (fun H locs hP hD hS => ?_)
      have hP : va_P D vwCl (wM h0 a0 a1 a2 a3 a4 a5 cI cZ 1 bf pw hs lo lg rt nb (nI fi) (nI fo) (nI en) 1 cu ma) H := hP
      have hD : va_D A (wM h0 a0 a1 a2 a3 a4 a5 cI cZ 1 bf pw hs lo lg rt nb (nI fi) (nI fo) (nI en) 1 cu ma) := hD
      refine lv_if_ne (tgt := 37) hx hb dX1_giveBack_29 (by decide) (fun c_29 => ?_) (fun c_29 => absurd c_29 (by decide))
      exact e_V hx hb hr hlocks hP hD hS dX1_giveBack_37
set_option maxHeartbeats 4000000 in
set_option maxRecDepth 100000 in
theorem tX1_giveBack_xb {l : Launch} {D : va_G} {cI cZ : ClassId} {h0 a0 a1 a2 a3 a4 a5 : Nat} (th : Int32) (bf pw hs lo lg rt : Nat → Int32) (nb : Int32) (fi fo en : Nat) (cu ma : Int32) (x : Int32) (h : x < nI fi ∨ nI fo < x) : RV l yX1_giveBack wsX1_giveBack 8 0 0 D (tyC cI cZ) (wM h0 a0 a1 a2 a3 a4 a5 cI cZ th bf pw hs lo lg rt nb (nI fi) (nI fo) (nI en) 0 cu ma) [.ref h0, .int x] (wM h0 a0 a1 a2 a3 a4 a5 cI cZ 2 bf pw hs lo lg rt nb (nI fi) (nI fo) (nI en) 0 cu ma) := by
  refine st_V (cc := cX1_giveBack) (maxL := 2) (ret := none) (by decide +kernel) rfl (Nat.le_of_ble_eq_true rfl) ?_
  intro p e s m below meth c A hx hb hr hts hown hml hlocks hK hP hD hA hS ls hl
  have hown : s.vm.findClass RX1 = some m.cls := hown
  have hl : lv_has ls 2 [(0, .ref h0), (1, .int x)] := hl
  refine lv_aload_n hx hb dX1_giveBack_0 rfl (lv_at hl 0 rfl) ?_
  refine lv_aload_n hx hb dX1_giveBack_1 rfl (lv_at hl 0 rfl) ?_
  refine va_get (ci := 1) (v := .int 0) (C := RX1) (T := TX1) (N := 14) hx hb hts inX1_giveBack hown hK hP 0 rfl rfl 12 (by decide) (hts _ flX1_giveBack_45) (fun _ h9 => h9) rfl dX1_giveBack_2 ?_
  refine lv_iload_n hx hb dX1_giveBack_5 rfl (lv_at hl 1 rfl) ?_
  refine lv_aload_n hx hb dX1_giveBack_6 rfl (lv_at hl 0 rfl) ?_
  refine va_get (ci := 1) (v := .int (nI fi)) (C := RX1) (T := TX1) (N := 14) hx hb hts inX1_giveBack hown hK hP 0 rfl rfl 7 (by decide) (hts _ flX1_giveBack_35) (fun _ h9 => h9) rfl dX1_giveBack_7 ?_
  refine lv_icmp_lt (tgt := 21) hx hb dX1_giveBack_10 (by decide) (fun c_10 => ?_) (fun c_10 => ?_)
  · refine lv_iconst (v := (1)) hx hb dX1_giveBack_21 (by decide) ?_
    refine lv_goto (tgt := 26) hx hb dX1_giveBack_22 (by decide) ?_
    refine k_I (wr := []) hP hD hS hA (va_runV (As := [.int 0, .int 1]) (rest := []) ⟨hx, hb, hml, hown, hts⟩ ((tX1_refused_2 th bf pw hs lo lg rt nb fi fo en 0 cu ma) _) (cwV 2 hts gX1_giveBack_X1_refused rfl rfl rfl (by decide +kernel) ⟨Nat.le_of_ble_eq_true rfl, Nat.le_of_ble_eq_true rfl⟩) (pV_B hP hD hK (ci := 1) (q0 := 0) rfl rfl rfl [0, 1] rfl [0, 1, 2, 3, 4, 5, 6] rfl rfl) rfl rfl hl.1 rfl (lv_room (Nat.le_of_ble_eq_true rfl)) dX1_giveBack_26 ⟨Nat.le_of_ble_eq_true rfl, Nat.le_of_ble_eq_true rfl⟩) [0, 1, 2, 3, 4, 5, 6] [] rfl rfl rfl (by decide) (fun H locs hP hD hS => ?_)
    have hP : va_P D vwCl (wM h0 a0 a1 a2 a3 a4 a5 cI cZ 2 bf pw hs lo lg rt nb (nI fi) (nI fo) (nI en) 0 cu ma) H := hP
    have hD : va_D A (wM h0 a0 a1 a2 a3 a4 a5 cI cZ 2 bf pw hs lo lg rt nb (nI fi) (nI fo) (nI en) 0 cu ma) := hD
    refine lv_if_ne (tgt := 37) hx hb dX1_giveBack_29 (by decide) (fun c_29 => ?_) (fun c_29 => absurd c_29 (by decide))
    exact e_V hx hb hr hlocks hP hD hS dX1_giveBack_37
  · refine lv_iload_n hx hb dX1_giveBack_13 rfl (lv_at hl 1 rfl) ?_
    refine lv_aload_n hx hb dX1_giveBack_14 rfl (lv_at hl 0 rfl) ?_
    refine va_get (ci := 1) (v := .int (nI fo)) (C := RX1) (T := TX1) (N := 14) hx hb hts inX1_giveBack hown hK hP 0 rfl rfl 8 (by decide) (hts _ flX1_giveBack_49) (fun _ h9 => h9) rfl dX1_giveBack_15 ?_
    refine lv_icmp_le (tgt := 25) hx hb dX1_giveBack_18 (by decide) (fun c_18 => absurd c_18 (pl_nle h c_10)) (fun c_18 => ?_)
    refine lv_iconst (v := (1)) hx hb dX1_giveBack_21 (by decide) ?_
    refine lv_goto (tgt := 26) hx hb dX1_giveBack_22 (by decide) ?_
    refine k_I (wr := []) hP hD hS hA (va_runV (As := [.int 0, .int 1]) (rest := []) ⟨hx, hb, hml, hown, hts⟩ ((tX1_refused_2 th bf pw hs lo lg rt nb fi fo en 0 cu ma) _) (cwV 2 hts gX1_giveBack_X1_refused rfl rfl rfl (by decide +kernel) ⟨Nat.le_of_ble_eq_true rfl, Nat.le_of_ble_eq_true rfl⟩) (pV_B hP hD hK (ci := 1) (q0 := 0) rfl rfl rfl [0, 1] rfl [0, 1, 2, 3, 4, 5, 6] rfl rfl) rfl rfl hl.1 rfl (lv_room (Nat.le_of_ble_eq_true rfl)) dX1_giveBack_26 ⟨Nat.le_of_ble_eq_true rfl, Nat.le_of_ble_eq_true rfl⟩) [0, 1, 2, 3, 4, 5, 6] [] rfl rfl rfl (by decide) (fun H locs hP hD hS => ?_)
    have hP : va_P D vwCl (wM h0 a0 a1 a2 a3 a4 a5 cI cZ 2 bf pw hs lo lg rt nb (nI fi) (nI fo) (nI en) 0 cu ma) H := hP
    have hD : va_D A (wM h0 a0 a1 a2 a3 a4 a5 cI cZ 2 bf pw hs lo lg rt nb (nI fi) (nI fo) (nI en) 0 cu ma) := hD
    refine lv_if_ne (tgt := 37) hx hb dX1_giveBack_29 (by decide) (fun c_29 => ?_) (fun c_29 => absurd c_29 (by decide))
    exact e_V hx hb hr hlocks hP hD hS dX1_giveBack_37
set_option maxHeartbeats 4000000 in
set_option maxRecDepth 100000 in
theorem tX1_giveBack_ok {l : Launch} {D : va_G} {cI cZ : ClassId} {h0 a0 a1 a2 a3 a4 a5 : Nat} (th : Int32) (bf pw hs lo lg rt : Nat → Int32) (nb : Int32) (fi fo en : Nat) (cu ma : Int32) (pl : Nat) (h1 : fi ≤ pl) (h2 : pl ≤ fo) (h3 : fo ≤ 60000) : RV l yX1_giveBack wsX1_giveBack 8 0 0 D (tyC cI cZ) (wM h0 a0 a1 a2 a3 a4 a5 cI cZ th bf pw hs lo lg rt nb (nI fi) (nI fo) (nI en) 0 cu ma) [.ref h0, .int (nI pl)] (wM h0 a0 a1 a2 a3 a4 a5 cI cZ 0 bf pw hs lo lg rt nb (nI pl) (nI fo) (nI en) 0 cu ma) := by
  refine st_V (cc := cX1_giveBack) (maxL := 2) (ret := none) (by decide +kernel) rfl (Nat.le_of_ble_eq_true rfl) ?_
  intro p e s m below meth c A hx hb hr hts hown hml hlocks hK hP hD hA hS ls hl
  have hown : s.vm.findClass RX1 = some m.cls := hown
  have hl : lv_has ls 2 [(0, .ref h0), (1, .int (nI pl))] := hl
  refine lv_aload_n hx hb dX1_giveBack_0 rfl (lv_at hl 0 rfl) ?_
  refine lv_aload_n hx hb dX1_giveBack_1 rfl (lv_at hl 0 rfl) ?_
  refine va_get (ci := 1) (v := .int 0) (C := RX1) (T := TX1) (N := 14) hx hb hts inX1_giveBack hown hK hP 0 rfl rfl 12 (by decide) (hts _ flX1_giveBack_45) (fun _ h9 => h9) rfl dX1_giveBack_2 ?_
  refine lv_iload_n hx hb dX1_giveBack_5 rfl (lv_at hl 1 rfl) ?_
  refine lv_aload_n hx hb dX1_giveBack_6 rfl (lv_at hl 0 rfl) ?_
  refine va_get (ci := 1) (v := .int (nI fi)) (C := RX1) (T := TX1) (N := 14) hx hb hts inX1_giveBack hown hK hP 0 rfl rfl 7 (by decide) (hts _ flX1_giveBack_35) (fun _ h9 => h9) rfl dX1_giveBack_7 ?_
  refine n_lt (tgt := 21) hx hb (by omega) (by omega) dX1_giveBack_10 (by decide) (fun c_10 => absurd c_10 (by omega)) (fun c_10 => ?_)
  refine lv_iload_n hx hb dX1_giveBack_13 rfl (lv_at hl 1 rfl) ?_
  refine lv_aload_n hx hb dX1_giveBack_14 rfl (lv_at hl 0 rfl) ?_
  refine va_get (ci := 1) (v := .int (nI fo)) (C := RX1) (T := TX1) (N := 14) hx hb hts inX1_giveBack hown hK hP 0 rfl rfl 8 (by decide) (hts _ flX1_giveBack_49) (fun _ h9 => h9) rfl dX1_giveBack_15 ?_
  refine n_le (tgt := 25) hx hb (by omega) (by omega) dX1_giveBack_18 (by decide) (fun c_18 => ?_) (fun c_18 => absurd c_18 (by omega))
  refine lv_iconst (v := (0)) hx hb dX1_giveBack_25 (by decide) ?_
  refine k_I (wr := []) hP hD hS hA (va_runV (As := [.int 0, .int 0]) (rest := []) ⟨hx, hb, hml, hown, hts⟩ ((tX1_refused_0 th bf pw hs lo lg rt nb fi fo en 0 cu ma) _) (cwV 2 hts gX1_giveBack_X1_refused rfl rfl rfl (by decide +kernel) ⟨Nat.le_of_ble_eq_true rfl, Nat.le_of_ble_eq_true rfl⟩) (pV_B hP hD hK (ci := 1) (q0 := 0) rfl rfl rfl [0, 1] rfl [0, 1, 2, 3, 4, 5, 6] rfl rfl) rfl rfl hl.1 rfl (lv_room (Nat.le_of_ble_eq_true rfl)) dX1_giveBack_26 ⟨Nat.le_of_ble_eq_true rfl, Nat.le_of_ble_eq_true rfl⟩) [0, 1, 2, 3, 4, 5, 6] [] rfl rfl rfl (by decide) (fun H locs hP hD hS => ?_)
  have hP : va_P D vwCl (wM h0 a0 a1 a2 a3 a4 a5 cI cZ 0 bf pw hs lo lg rt nb (nI fi) (nI fo) (nI en) 0 cu ma) H := hP
  have hD : va_D A (wM h0 a0 a1 a2 a3 a4 a5 cI cZ 0 bf pw hs lo lg rt nb (nI fi) (nI fo) (nI en) 0 cu ma) := hD
  refine lv_if_ne (tgt := 37) hx hb dX1_giveBack_29 (by decide) (fun c_29 => absurd (by decide) c_29) (fun c_29 => ?_)
  refine lv_aload_n hx hb dX1_giveBack_32 rfl (lv_at hl 0 rfl) ?_
  refine lv_iload_n hx hb dX1_giveBack_33 rfl (lv_at hl 1 rfl) ?_
  refine va_put (ci := 1) (v := .int (nI pl)) (ty := .int) (C := RX1) (T := TX1) (N := 14) hx hb hts inX1_giveBack tyX1 tyX1_ok nmX1 hown hK hP hD hS 0 rfl rfl 7 (by decide) (hts _ flX1_giveBack_35) (fun _ h9 => h9) rfl (by decide +kernel) rfl rfl (Nat.le_of_ble_eq_true rfl) dX1_giveBack_34 (fun H locs hP hD hS => ?_)
  have hP : va_P D vwCl (wM h0 a0 a1 a2 a3 a4 a5 cI cZ 0 bf pw hs lo lg rt nb (nI pl) (nI fo) (nI en) 0 cu ma) H := hP
  have hD : va_D A (wM h0 a0 a1 a2 a3 a4 a5 cI cZ 0 bf pw hs lo lg rt nb (nI pl) (nI fo) (nI en) 0 cu ma) := hD
  exact e_V hx hb hr hlocks hP hD hS dX1_giveBack_37
set_option maxHeartbeats 4000000 in
set_option maxRecDepth 100000 in
theorem tX1_log_xb {l : Launch} {D : va_G} {cI cZ : ClassId} {h0 a0 a1 a2 a3 a4 a5 : Nat} (th : Int32) (bf pw hs lo lg rt : Nat → Int32) (nb : Int32) (fi fo en : Nat) (off cu ma : Int32) (x : Int32) (h : x < 0 ∨ nI 3 ≤ x) : RI l yX1_log wsX1_log 8 0 0 D (tyC cI cZ) (wM h0 a0 a1 a2 a3 a4 a5 cI cZ th bf pw hs lo lg rt nb (nI fi) (nI fo) (nI en) off cu ma) [.ref h0, .int x] 0 (wM h0 a0 a1 a2 a3 a4 a5 cI cZ 1 bf pw hs lo lg rt nb (nI fi) (nI fo) (nI en) off cu ma) := by
  refine st_I (cc := cX1_log) (maxL := 2) (ret := (some .int)) (by decide +kernel) rfl (Nat.le_of_ble_eq_true rfl) ?_
  intro p e s m below meth c A hx hb hr hts hown hml hlocks hK hP hD hA hS ls hl
  have hown : s.vm.findClass RX1 = some m.cls := hown
  have hl : lv_has ls 2 [(0, .ref h0), (1, .int x)] := hl
  refine lv_aload_n hx hb dX1_log_0 rfl (lv_at hl 0 rfl) ?_
  refine lv_iload_n hx hb dX1_log_1 rfl (lv_at hl 1 rfl) ?_
  refine lv_iconst (v := (nI 0)) hx hb dX1_log_2 (by decide) ?_
  refine lv_iconst (v := (nI 2)) hx hb dX1_log_3 (by decide) ?_
  refine k_I (wr := wM h0 a0 a1 a2 a3 a4 a5 cI cZ th bf pw hs lo lg rt nb (nI fi) (nI fo) (nI en) off cu ma) hP hD hS hA (va_runS (As := [.int x, .int (nI 0), .int (nI 2)]) (rest := [.ref h0]) ⟨hx, hb, hml, hown, hts⟩ ((tX1_in_e x (nI 0) (nI 2) 0 (sp_in_f (ix_in 2 (by omega) h))) _) (va_cwS 3 hts gX1_log_X1_in rfl rfl rfl (by decide +kernel) ⟨Nat.le_of_ble_eq_true rfl, Nat.le_of_ble_eq_true rfl⟩) (pS_B hP hD hK [] rfl [] rfl rfl) rfl rfl hl.1 rfl (lv_room (Nat.le_of_ble_eq_true rfl)) dX1_log_4 ⟨Nat.le_of_ble_eq_true rfl, Nat.le_of_ble_eq_true rfl⟩) [] [0, 1, 2, 3, 4, 5, 6] rfl rfl rfl (by decide) (fun H locs hP hD hS => ?_)
  have hP : va_P D vwCl (wM h0 a0 a1 a2 a3 a4 a5 cI cZ th bf pw hs lo lg rt nb (nI fi) (nI fo) (nI en) off cu ma) H := hP
  have hD : va_D A (wM h0 a0 a1 a2 a3 a4 a5 cI cZ th bf pw hs lo lg rt nb (nI fi) (nI fo) (nI en) off cu ma) := hD
  refine lv_if_ne (tgt := 14) hx hb dX1_log_7 (by decide) (fun c_7 => absurd (by decide) c_7) (fun c_7 => ?_)
  refine lv_iconst (v := (1)) hx hb dX1_log_10 (by decide) ?_
  refine lv_goto (tgt := 15) hx hb dX1_log_11 (by decide) ?_
  refine lv_iconst (v := (0)) hx hb dX1_log_15 (by decide) ?_
  refine k_I (wr := []) hP hD hS hA (va_runV (As := [.int 1, .int 0]) (rest := []) ⟨hx, hb, hml, hown, hts⟩ ((tX1_refused_1 th bf pw hs lo lg rt nb fi fo en off cu ma 0) _) (cwV 2 hts gX1_log_X1_refused rfl rfl rfl (by decide +kernel) ⟨Nat.le_of_ble_eq_true rfl, Nat.le_of_ble_eq_true rfl⟩) (pV_B hP hD hK (ci := 1) (q0 := 0) rfl rfl rfl [0, 1] rfl [0, 1, 2, 3, 4, 5, 6] rfl rfl) rfl rfl hl.1 rfl (lv_room (Nat.le_of_ble_eq_true rfl)) dX1_log_16 ⟨Nat.le_of_ble_eq_true rfl, Nat.le_of_ble_eq_true rfl⟩) [0, 1, 2, 3, 4, 5, 6] [] rfl rfl rfl (by decide) (fun H locs hP hD hS => ?_)
  have hP : va_P D vwCl (wM h0 a0 a1 a2 a3 a4 a5 cI cZ 1 bf pw hs lo lg rt nb (nI fi) (nI fo) (nI en) off cu ma) H := hP
  have hD : va_D A (wM h0 a0 a1 a2 a3 a4 a5 cI cZ 1 bf pw hs lo lg rt nb (nI fi) (nI fo) (nI en) off cu ma) := hD
  refine lv_if_eq (tgt := 24) hx hb dX1_log_19 (by decide) (fun c_19 => absurd c_19 (by decide)) (fun c_19 => ?_)
  refine lv_iconst (v := (0)) hx hb dX1_log_22 (by decide) ?_
  exact e_I hx hb hr hlocks hP hD hS rfl dX1_log_23
set_option maxHeartbeats 4000000 in
set_option maxRecDepth 100000 in
theorem tX1_log_ok0 {l : Launch} {D : va_G} {cI cZ : ClassId} {h0 a0 a1 a2 a3 a4 a5 : Nat} (th : Int32) (bf pw hs lo lg rt : Nat → Int32) (nb : Int32) (fi fo en : Nat) (off cu ma : Int32) : RI l yX1_log wsX1_log 8 0 0 D (tyC cI cZ) (wM h0 a0 a1 a2 a3 a4 a5 cI cZ th bf pw hs lo lg rt nb (nI fi) (nI fo) (nI en) off cu ma) [.ref h0, .int (nI 0)] (nI fi) (wM h0 a0 a1 a2 a3 a4 a5 cI cZ 0 bf pw hs lo lg rt nb (nI fi) (nI fo) (nI en) off cu ma) := by
  refine st_I (cc := cX1_log) (maxL := 2) (ret := (some .int)) (by decide +kernel) rfl (Nat.le_of_ble_eq_true rfl) ?_
  intro p e s m below meth c A hx hb hr hts hown hml hlocks hK hP hD hA hS ls hl
  have hown : s.vm.findClass RX1 = some m.cls := hown
  have hl : lv_has ls 2 [(0, .ref h0), (1, .int (nI 0))] := hl
  refine lv_aload_n hx hb dX1_log_0 rfl (lv_at hl 0 rfl) ?_
  refine lv_iload_n hx hb dX1_log_1 rfl (lv_at hl 1 rfl) ?_
  refine lv_iconst (v := (nI 0)) hx hb dX1_log_2 (by decide) ?_
  refine lv_iconst (v := (nI 2)) hx hb dX1_log_3 (by decide) ?_
  refine k_I (wr := wM h0 a0 a1 a2 a3 a4 a5 cI cZ th bf pw hs lo lg rt nb (nI fi) (nI fo) (nI en) off cu ma) hP hD hS hA (va_runS (As := [.int (nI 0), .int (nI 0), .int (nI 2)]) (rest := [.ref h0]) ⟨hx, hb, hml, hown, hts⟩ ((tX1_in_e (nI 0) (nI 0) (nI 2) 1 (sp_in_t (by omega) (by omega) (by omega))) _) (va_cwS 3 hts gX1_log_X1_in rfl rfl rfl (by decide +kernel) ⟨Nat.le_of_ble_eq_true rfl, Nat.le_of_ble_eq_true rfl⟩) (pS_B hP hD hK [] rfl [] rfl rfl) rfl rfl hl.1 rfl (lv_room (Nat.le_of_ble_eq_true rfl)) dX1_log_4 ⟨Nat.le_of_ble_eq_true rfl, Nat.le_of_ble_eq_true rfl⟩) [] [0, 1, 2, 3, 4, 5, 6] rfl rfl rfl (by decide) (fun H locs hP hD hS => ?_)
  have hP : va_P D vwCl (wM h0 a0 a1 a2 a3 a4 a5 cI cZ th bf pw hs lo lg rt nb (nI fi) (nI fo) (nI en) off cu ma) H := hP
  have hD : va_D A (wM h0 a0 a1 a2 a3 a4 a5 cI cZ th bf pw hs lo lg rt nb (nI fi) (nI fo) (nI en) off cu ma) := hD
  refine lv_if_ne (tgt := 14) hx hb dX1_log_7 (by decide) (fun c_7 => ?_) (fun c_7 => absurd c_7 (by decide))
  refine lv_iconst (v := (0)) hx hb dX1_log_14 (by decide) ?_
  refine lv_iconst (v := (0)) hx hb dX1_log_15 (by decide) ?_
  refine k_I (wr := []) hP hD hS hA (va_runV (As := [.int 0, .int 0]) (rest := []) ⟨hx, hb, hml, hown, hts⟩ ((tX1_refused_0 th bf pw hs lo lg rt nb fi fo en off cu ma) _) (cwV 2 hts gX1_log_X1_refused rfl rfl rfl (by decide +kernel) ⟨Nat.le_of_ble_eq_true rfl, Nat.le_of_ble_eq_true rfl⟩) (pV_B hP hD hK (ci := 1) (q0 := 0) rfl rfl rfl [0, 1] rfl [0, 1, 2, 3, 4, 5, 6] rfl rfl) rfl rfl hl.1 rfl (lv_room (Nat.le_of_ble_eq_true rfl)) dX1_log_16 ⟨Nat.le_of_ble_eq_true rfl, Nat.le_of_ble_eq_true rfl⟩) [0, 1, 2, 3, 4, 5, 6] [] rfl rfl rfl (by decide) (fun H locs hP hD hS => ?_)
  have hP : va_P D vwCl (wM h0 a0 a1 a2 a3 a4 a5 cI cZ 0 bf pw hs lo lg rt nb (nI fi) (nI fo) (nI en) off cu ma) H := hP
  have hD : va_D A (wM h0 a0 a1 a2 a3 a4 a5 cI cZ 0 bf pw hs lo lg rt nb (nI fi) (nI fo) (nI en) off cu ma) := hD
  refine lv_if_eq (tgt := 24) hx hb dX1_log_19 (by decide) (fun c_19 => ?_) (fun c_19 => absurd (by decide) c_19)
  refine lv_iload_n hx hb dX1_log_24 rfl (lv_at hl 1 rfl) ?_
  refine lv_if_ne (tgt := 35) hx hb dX1_log_25 (by decide) (fun c_25 => absurd (by decide) c_25) (fun c_25 => ?_)
  refine lv_aload_n hx hb dX1_log_28 rfl (lv_at hl 0 rfl) ?_
  refine va_get (ci := 1) (v := .int (nI fi)) (C := RX1) (T := TX1) (N := 14) hx hb hts inX1_log hown hK hP 0 rfl rfl 7 (by decide) (hts _ flX1_log_35) (fun _ h9 => h9) rfl dX1_log_29 ?_
  refine lv_goto (tgt := 51) hx hb dX1_log_32 (by decide) ?_
  exact e_I hx hb hr hlocks hP hD hS rfl dX1_log_51
set_option maxHeartbeats 4000000 in
set_option maxRecDepth 100000 in
theorem tX1_log_ok1 {l : Launch} {D : va_G} {cI cZ : ClassId} {h0 a0 a1 a2 a3 a4 a5 : Nat} (th : Int32) (bf pw hs lo lg rt : Nat → Int32) (nb : Int32) (fi fo en : Nat) (off cu ma : Int32) : RI l yX1_log wsX1_log 8 0 0 D (tyC cI cZ) (wM h0 a0 a1 a2 a3 a4 a5 cI cZ th bf pw hs lo lg rt nb (nI fi) (nI fo) (nI en) off cu ma) [.ref h0, .int (nI 1)] (nI fo) (wM h0 a0 a1 a2 a3 a4 a5 cI cZ 0 bf pw hs lo lg rt nb (nI fi) (nI fo) (nI en) off cu ma) := by
  refine st_I (cc := cX1_log) (maxL := 2) (ret := (some .int)) (by decide +kernel) rfl (Nat.le_of_ble_eq_true rfl) ?_
  intro p e s m below meth c A hx hb hr hts hown hml hlocks hK hP hD hA hS ls hl
  have hown : s.vm.findClass RX1 = some m.cls := hown
  have hl : lv_has ls 2 [(0, .ref h0), (1, .int (nI 1))] := hl
  refine lv_aload_n hx hb dX1_log_0 rfl (lv_at hl 0 rfl) ?_
  refine lv_iload_n hx hb dX1_log_1 rfl (lv_at hl 1 rfl) ?_
  refine lv_iconst (v := (nI 0)) hx hb dX1_log_2 (by decide) ?_
  refine lv_iconst (v := (nI 2)) hx hb dX1_log_3 (by decide) ?_
  refine k_I (wr := wM h0 a0 a1 a2 a3 a4 a5 cI cZ th bf pw hs lo lg rt nb (nI fi) (nI fo) (nI en) off cu ma) hP hD hS hA (va_runS (As := [.int (nI 1), .int (nI 0), .int (nI 2)]) (rest := [.ref h0]) ⟨hx, hb, hml, hown, hts⟩ ((tX1_in_e (nI 1) (nI 0) (nI 2) 1 (sp_in_t (by omega) (by omega) (by omega))) _) (va_cwS 3 hts gX1_log_X1_in rfl rfl rfl (by decide +kernel) ⟨Nat.le_of_ble_eq_true rfl, Nat.le_of_ble_eq_true rfl⟩) (pS_B hP hD hK [] rfl [] rfl rfl) rfl rfl hl.1 rfl (lv_room (Nat.le_of_ble_eq_true rfl)) dX1_log_4 ⟨Nat.le_of_ble_eq_true rfl, Nat.le_of_ble_eq_true rfl⟩) [] [0, 1, 2, 3, 4, 5, 6] rfl rfl rfl (by decide) (fun H locs hP hD hS => ?_)
  have hP : va_P D vwCl (wM h0 a0 a1 a2 a3 a4 a5 cI cZ th bf pw hs lo lg rt nb (nI fi) (nI fo) (nI en) off cu ma) H := hP
  have hD : va_D A (wM h0 a0 a1 a2 a3 a4 a5 cI cZ th bf pw hs lo lg rt nb (nI fi) (nI fo) (nI en) off cu ma) := hD
  refine lv_if_ne (tgt := 14) hx hb dX1_log_7 (by decide) (fun c_7 => ?_) (fun c_7 => absurd c_7 (by decide))
  refine lv_iconst (v := (0)) hx hb dX1_log_14 (by decide) ?_
  refine lv_iconst (v := (0)) hx hb dX1_log_15 (by decide) ?_
  refine k_I (wr := []) hP hD hS hA (va_runV (As := [.int 0, .int 0]) (rest := []) ⟨hx, hb, hml, hown, hts⟩ ((tX1_refused_0 th bf pw hs lo lg rt nb fi fo en off cu ma) _) (cwV 2 hts gX1_log_X1_refused rfl rfl rfl (by decide +kernel) ⟨Nat.le_of_ble_eq_true rfl, Nat.le_of_ble_eq_true rfl⟩) (pV_B hP hD hK (ci := 1) (q0 := 0) rfl rfl rfl [0, 1] rfl [0, 1, 2, 3, 4, 5, 6] rfl rfl) rfl rfl hl.1 rfl (lv_room (Nat.le_of_ble_eq_true rfl)) dX1_log_16 ⟨Nat.le_of_ble_eq_true rfl, Nat.le_of_ble_eq_true rfl⟩) [0, 1, 2, 3, 4, 5, 6] [] rfl rfl rfl (by decide) (fun H locs hP hD hS => ?_)
  have hP : va_P D vwCl (wM h0 a0 a1 a2 a3 a4 a5 cI cZ 0 bf pw hs lo lg rt nb (nI fi) (nI fo) (nI en) off cu ma) H := hP
  have hD : va_D A (wM h0 a0 a1 a2 a3 a4 a5 cI cZ 0 bf pw hs lo lg rt nb (nI fi) (nI fo) (nI en) off cu ma) := hD
  refine lv_if_eq (tgt := 24) hx hb dX1_log_19 (by decide) (fun c_19 => ?_) (fun c_19 => absurd (by decide) c_19)
  refine lv_iload_n hx hb dX1_log_24 rfl (lv_at hl 1 rfl) ?_
  refine lv_if_ne (tgt := 35) hx hb dX1_log_25 (by decide) (fun c_25 => ?_) (fun c_25 => absurd c_25 (by decide))
  refine lv_iload_n hx hb dX1_log_35 rfl (lv_at hl 1 rfl) ?_
  refine lv_iconst (v := (nI 1)) hx hb dX1_log_36 (by decide) ?_
  refine lv_icmp_ne (tgt := 47) hx hb dX1_log_37 (by decide) (fun c_37 => absurd (by decide) c_37) (fun c_37 => ?_)
  refine lv_aload_n hx hb dX1_log_40 rfl (lv_at hl 0 rfl) ?_
  refine va_get (ci := 1) (v := .int (nI fo)) (C := RX1) (T := TX1) (N := 14) hx hb hts inX1_log hown hK hP 0 rfl rfl 8 (by decide) (hts _ flX1_log_49) (fun _ h9 => h9) rfl dX1_log_41 ?_
  refine lv_goto (tgt := 51) hx hb dX1_log_44 (by decide) ?_
  exact e_I hx hb hr hlocks hP hD hS rfl dX1_log_51
set_option maxHeartbeats 4000000 in
set_option maxRecDepth 100000 in
theorem tX1_log_ok2 {l : Launch} {D : va_G} {cI cZ : ClassId} {h0 a0 a1 a2 a3 a4 a5 : Nat} (th : Int32) (bf pw hs lo lg rt : Nat → Int32) (nb : Int32) (fi fo en : Nat) (off cu ma : Int32) : RI l yX1_log wsX1_log 8 0 0 D (tyC cI cZ) (wM h0 a0 a1 a2 a3 a4 a5 cI cZ th bf pw hs lo lg rt nb (nI fi) (nI fo) (nI en) off cu ma) [.ref h0, .int (nI 2)] (nI en) (wM h0 a0 a1 a2 a3 a4 a5 cI cZ 0 bf pw hs lo lg rt nb (nI fi) (nI fo) (nI en) off cu ma) := by
  refine st_I (cc := cX1_log) (maxL := 2) (ret := (some .int)) (by decide +kernel) rfl (Nat.le_of_ble_eq_true rfl) ?_
  intro p e s m below meth c A hx hb hr hts hown hml hlocks hK hP hD hA hS ls hl
  have hown : s.vm.findClass RX1 = some m.cls := hown
  have hl : lv_has ls 2 [(0, .ref h0), (1, .int (nI 2))] := hl
  refine lv_aload_n hx hb dX1_log_0 rfl (lv_at hl 0 rfl) ?_
  refine lv_iload_n hx hb dX1_log_1 rfl (lv_at hl 1 rfl) ?_
  refine lv_iconst (v := (nI 0)) hx hb dX1_log_2 (by decide) ?_
  refine lv_iconst (v := (nI 2)) hx hb dX1_log_3 (by decide) ?_
  refine k_I (wr := wM h0 a0 a1 a2 a3 a4 a5 cI cZ th bf pw hs lo lg rt nb (nI fi) (nI fo) (nI en) off cu ma) hP hD hS hA (va_runS (As := [.int (nI 2), .int (nI 0), .int (nI 2)]) (rest := [.ref h0]) ⟨hx, hb, hml, hown, hts⟩ ((tX1_in_e (nI 2) (nI 0) (nI 2) 1 (sp_in_t (by omega) (by omega) (by omega))) _) (va_cwS 3 hts gX1_log_X1_in rfl rfl rfl (by decide +kernel) ⟨Nat.le_of_ble_eq_true rfl, Nat.le_of_ble_eq_true rfl⟩) (pS_B hP hD hK [] rfl [] rfl rfl) rfl rfl hl.1 rfl (lv_room (Nat.le_of_ble_eq_true rfl)) dX1_log_4 ⟨Nat.le_of_ble_eq_true rfl, Nat.le_of_ble_eq_true rfl⟩) [] [0, 1, 2, 3, 4, 5, 6] rfl rfl rfl (by decide) (fun H locs hP hD hS => ?_)
  have hP : va_P D vwCl (wM h0 a0 a1 a2 a3 a4 a5 cI cZ th bf pw hs lo lg rt nb (nI fi) (nI fo) (nI en) off cu ma) H := hP
  have hD : va_D A (wM h0 a0 a1 a2 a3 a4 a5 cI cZ th bf pw hs lo lg rt nb (nI fi) (nI fo) (nI en) off cu ma) := hD
  refine lv_if_ne (tgt := 14) hx hb dX1_log_7 (by decide) (fun c_7 => ?_) (fun c_7 => absurd c_7 (by decide))
  refine lv_iconst (v := (0)) hx hb dX1_log_14 (by decide) ?_
  refine lv_iconst (v := (0)) hx hb dX1_log_15 (by decide) ?_
  refine k_I (wr := []) hP hD hS hA (va_runV (As := [.int 0, .int 0]) (rest := []) ⟨hx, hb, hml, hown, hts⟩ ((tX1_refused_0 th bf pw hs lo lg rt nb fi fo en off cu ma) _) (cwV 2 hts gX1_log_X1_refused rfl rfl rfl (by decide +kernel) ⟨Nat.le_of_ble_eq_true rfl, Nat.le_of_ble_eq_true rfl⟩) (pV_B hP hD hK (ci := 1) (q0 := 0) rfl rfl rfl [0, 1] rfl [0, 1, 2, 3, 4, 5, 6] rfl rfl) rfl rfl hl.1 rfl (lv_room (Nat.le_of_ble_eq_true rfl)) dX1_log_16 ⟨Nat.le_of_ble_eq_true rfl, Nat.le_of_ble_eq_true rfl⟩) [0, 1, 2, 3, 4, 5, 6] [] rfl rfl rfl (by decide) (fun H locs hP hD hS => ?_)
  have hP : va_P D vwCl (wM h0 a0 a1 a2 a3 a4 a5 cI cZ 0 bf pw hs lo lg rt nb (nI fi) (nI fo) (nI en) off cu ma) H := hP
  have hD : va_D A (wM h0 a0 a1 a2 a3 a4 a5 cI cZ 0 bf pw hs lo lg rt nb (nI fi) (nI fo) (nI en) off cu ma) := hD
  refine lv_if_eq (tgt := 24) hx hb dX1_log_19 (by decide) (fun c_19 => ?_) (fun c_19 => absurd (by decide) c_19)
  refine lv_iload_n hx hb dX1_log_24 rfl (lv_at hl 1 rfl) ?_
  refine lv_if_ne (tgt := 35) hx hb dX1_log_25 (by decide) (fun c_25 => ?_) (fun c_25 => absurd c_25 (by decide))
  refine lv_iload_n hx hb dX1_log_35 rfl (lv_at hl 1 rfl) ?_
  refine lv_iconst (v := (nI 1)) hx hb dX1_log_36 (by decide) ?_
  refine lv_icmp_ne (tgt := 47) hx hb dX1_log_37 (by decide) (fun c_37 => ?_) (fun c_37 => absurd c_37 (by decide))
  refine lv_aload_n hx hb dX1_log_47 rfl (lv_at hl 0 rfl) ?_
  refine va_get (ci := 1) (v := .int (nI en)) (C := RX1) (T := TX1) (N := 14) hx hb hts inX1_log hown hK hP 0 rfl rfl 9 (by decide) (hts _ flX1_log_52) (fun _ h9 => h9) rfl dX1_log_48 ?_
  exact e_I hx hb hr hlocks hP hD hS rfl dX1_log_51
set_option maxHeartbeats 4000000 in
set_option maxRecDepth 100000 in
theorem tX1_setRoot_x0 {l : Launch} {D : va_G} {cI cZ : ClassId} {h0 a0 a1 a2 a3 a4 a5 : Nat} (th : Int32) (bf pw hs lo lg rt : Nat → Int32) (nb : Int32) (fi fo en : Nat) (cu ma : Int32) (x y : Int32) : RI l yX1_setRoot wsX1_setRoot 8 0 0 D (tyC cI cZ) (wM h0 a0 a1 a2 a3 a4 a5 cI cZ th bf pw hs lo lg rt nb (nI fi) (nI fo) (nI en) 1 cu ma) [.ref h0, .int x, .int y] 0 (wM h0 a0 a1 a2 a3 a4 a5 cI cZ 1 bf pw hs lo lg rt nb (nI fi) (nI fo) (nI en) 1 cu ma) := by
  refine st_I (cc := cX1_setRoot) (maxL := 3) (ret := (some .boolean)) (by decide +kernel) rfl (Nat.le_of_ble_eq_true rfl) ?_
  intro p e s m below meth c A hx hb hr hts hown hml hlocks hK hP hD hA hS ls hl
  have hown : s.vm.findClass RX1 = some m.cls := hown
  have hl : lv_has ls 3 [(0, .ref h0), (1, .int x), (2, .int y)] := hl
  refine lv_aload_n hx hb dX1_setRoot_0 rfl (lv_at hl 0 rfl) ?_
  refine lv_aload_n hx hb dX1_setRoot_1 rfl (lv_at hl 0 rfl) ?_
  refine va_get (ci := 1) (v := .int 1) (C := RX1) (T := TX1) (N := 14) hx hb hts inX1_setRoot hown hK hP 0 rfl rfl 12 (by decide) (hts _ flX1_setRoot_45) (fun _ h9 => h9) rfl dX1_setRoot_2 ?_
  refine lv_iload_n hx hb dX1_setRoot_5 rfl (lv_at hl 1 rfl) ?_
  refine lv_iconst (v := (nI 0)) hx hb dX1_setRoot_6 (by decide) ?_
  refine lv_iconst (v := (nI 3)) hx hb dX1_setRoot_7 (by decide) ?_
  refine k_I (wr := wM h0 a0 a1 a2 a3 a4 a5 cI cZ th bf pw hs lo lg rt nb (nI fi) (nI fo) (nI en) 1 cu ma) hP hD hS hA (va_runS (As := [.int x, .int (nI 0), .int (nI 3)]) (rest := [.int 1, .ref h0]) ⟨hx, hb, hml, hown, hts⟩ ((tX1_in_e x (nI 0) (nI 3) (sp_in x (nI 0) (nI 3)) rfl) _) (va_cwS 3 hts gX1_setRoot_X1_in rfl rfl rfl (by decide +kernel) ⟨Nat.le_of_ble_eq_true rfl, Nat.le_of_ble_eq_true rfl⟩) (pS_B hP hD hK [] rfl [] rfl rfl) rfl rfl hl.1 rfl (lv_room (Nat.le_of_ble_eq_true rfl)) dX1_setRoot_8 ⟨Nat.le_of_ble_eq_true rfl, Nat.le_of_ble_eq_true rfl⟩) [] [0, 1, 2, 3, 4, 5, 6] rfl rfl rfl (by decide) (fun H locs hP hD hS => ?_)
  have hP : va_P D vwCl (wM h0 a0 a1 a2 a3 a4 a5 cI cZ th bf pw hs lo lg rt nb (nI fi) (nI fo) (nI en) 1 cu ma) H := hP
  have hD : va_D A (wM h0 a0 a1 a2 a3 a4 a5 cI cZ th bf pw hs lo lg rt nb (nI fi) (nI fo) (nI en) 1 cu ma) := hD
  refine lv_if_ne (tgt := 18) hx hb dX1_setRoot_11 (by decide) (fun c_11 => ?_) (fun c_11 => ?_)
  · refine lv_iconst (v := (0)) hx hb dX1_setRoot_18 (by decide) ?_
    refine k_I (wr := []) hP hD hS hA (va_runV (As := [.int 1, .int 0]) (rest := []) ⟨hx, hb, hml, hown, hts⟩ ((tX1_refused_1 th bf pw hs lo lg rt nb fi fo en 1 cu ma 0) _) (cwV 2 hts gX1_setRoot_X1_refused rfl rfl rfl (by decide +kernel) ⟨Nat.le_of_ble_eq_true rfl, Nat.le_of_ble_eq_true rfl⟩) (pV_B hP hD hK (ci := 1) (q0 := 0) rfl rfl rfl [0, 1] rfl [0, 1, 2, 3, 4, 5, 6] rfl rfl) rfl rfl hl.1 rfl (lv_room (Nat.le_of_ble_eq_true rfl)) dX1_setRoot_19 ⟨Nat.le_of_ble_eq_true rfl, Nat.le_of_ble_eq_true rfl⟩) [0, 1, 2, 3, 4, 5, 6] [] rfl rfl rfl (by decide) (fun H locs hP hD hS => ?_)
    have hP : va_P D vwCl (wM h0 a0 a1 a2 a3 a4 a5 cI cZ 1 bf pw hs lo lg rt nb (nI fi) (nI fo) (nI en) 1 cu ma) H := hP
    have hD : va_D A (wM h0 a0 a1 a2 a3 a4 a5 cI cZ 1 bf pw hs lo lg rt nb (nI fi) (nI fo) (nI en) 1 cu ma) := hD
    refine lv_if_ne (tgt := 32) hx hb dX1_setRoot_22 (by decide) (fun c_22 => ?_) (fun c_22 => absurd c_22 (by decide))
    refine lv_iconst (v := (0)) hx hb dX1_setRoot_32 (by decide) ?_
    exact e_Z hx hb hr hlocks hP hD hS rfl rfl dX1_setRoot_33
  · refine lv_iconst (v := (1)) hx hb dX1_setRoot_14 (by decide) ?_
    refine lv_goto (tgt := 19) hx hb dX1_setRoot_15 (by decide) ?_
    refine k_I (wr := []) hP hD hS hA (va_runV (As := [.int 1, .int 1]) (rest := []) ⟨hx, hb, hml, hown, hts⟩ ((tX1_refused_1 th bf pw hs lo lg rt nb fi fo en 1 cu ma 1) _) (cwV 2 hts gX1_setRoot_X1_refused rfl rfl rfl (by decide +kernel) ⟨Nat.le_of_ble_eq_true rfl, Nat.le_of_ble_eq_true rfl⟩) (pV_B hP hD hK (ci := 1) (q0 := 0) rfl rfl rfl [0, 1] rfl [0, 1, 2, 3, 4, 5, 6] rfl rfl) rfl rfl hl.1 rfl (lv_room (Nat.le_of_ble_eq_true rfl)) dX1_setRoot_19 ⟨Nat.le_of_ble_eq_true rfl, Nat.le_of_ble_eq_true rfl⟩) [0, 1, 2, 3, 4, 5, 6] [] rfl rfl rfl (by decide) (fun H locs hP hD hS => ?_)
    have hP : va_P D vwCl (wM h0 a0 a1 a2 a3 a4 a5 cI cZ 1 bf pw hs lo lg rt nb (nI fi) (nI fo) (nI en) 1 cu ma) H := hP
    have hD : va_D A (wM h0 a0 a1 a2 a3 a4 a5 cI cZ 1 bf pw hs lo lg rt nb (nI fi) (nI fo) (nI en) 1 cu ma) := hD
    refine lv_if_ne (tgt := 32) hx hb dX1_setRoot_22 (by decide) (fun c_22 => ?_) (fun c_22 => absurd c_22 (by decide))
    refine lv_iconst (v := (0)) hx hb dX1_setRoot_32 (by decide) ?_
    exact e_Z hx hb hr hlocks hP hD hS rfl rfl dX1_setRoot_33
set_option maxHeartbeats 4000000 in
set_option maxRecDepth 100000 in
theorem tX1_setRoot_xb {l : Launch} {D : va_G} {cI cZ : ClassId} {h0 a0 a1 a2 a3 a4 a5 : Nat} (th : Int32) (bf pw hs lo lg rt : Nat → Int32) (nb : Int32) (fi fo en : Nat) (cu ma : Int32) (x y : Int32) (h : x < 0 ∨ nI 4 ≤ x) : RI l yX1_setRoot wsX1_setRoot 8 0 0 D (tyC cI cZ) (wM h0 a0 a1 a2 a3 a4 a5 cI cZ th bf pw hs lo lg rt nb (nI fi) (nI fo) (nI en) 0 cu ma) [.ref h0, .int x, .int y] 0 (wM h0 a0 a1 a2 a3 a4 a5 cI cZ 2 bf pw hs lo lg rt nb (nI fi) (nI fo) (nI en) 0 cu ma) := by
  refine st_I (cc := cX1_setRoot) (maxL := 3) (ret := (some .boolean)) (by decide +kernel) rfl (Nat.le_of_ble_eq_true rfl) ?_
  intro p e s m below meth c A hx hb hr hts hown hml hlocks hK hP hD hA hS ls hl
  have hown : s.vm.findClass RX1 = some m.cls := hown
  have hl : lv_has ls 3 [(0, .ref h0), (1, .int x), (2, .int y)] := hl
  refine lv_aload_n hx hb dX1_setRoot_0 rfl (lv_at hl 0 rfl) ?_
  refine lv_aload_n hx hb dX1_setRoot_1 rfl (lv_at hl 0 rfl) ?_
  refine va_get (ci := 1) (v := .int 0) (C := RX1) (T := TX1) (N := 14) hx hb hts inX1_setRoot hown hK hP 0 rfl rfl 12 (by decide) (hts _ flX1_setRoot_45) (fun _ h9 => h9) rfl dX1_setRoot_2 ?_
  refine lv_iload_n hx hb dX1_setRoot_5 rfl (lv_at hl 1 rfl) ?_
  refine lv_iconst (v := (nI 0)) hx hb dX1_setRoot_6 (by decide) ?_
  refine lv_iconst (v := (nI 3)) hx hb dX1_setRoot_7 (by decide) ?_
  refine k_I (wr := wM h0 a0 a1 a2 a3 a4 a5 cI cZ th bf pw hs lo lg rt nb (nI fi) (nI fo) (nI en) 0 cu ma) hP hD hS hA (va_runS (As := [.int x, .int (nI 0), .int (nI 3)]) (rest := [.int 0, .ref h0]) ⟨hx, hb, hml, hown, hts⟩ ((tX1_in_e x (nI 0) (nI 3) 0 (sp_in_f (ix_in 3 (by omega) h))) _) (va_cwS 3 hts gX1_setRoot_X1_in rfl rfl rfl (by decide +kernel) ⟨Nat.le_of_ble_eq_true rfl, Nat.le_of_ble_eq_true rfl⟩) (pS_B hP hD hK [] rfl [] rfl rfl) rfl rfl hl.1 rfl (lv_room (Nat.le_of_ble_eq_true rfl)) dX1_setRoot_8 ⟨Nat.le_of_ble_eq_true rfl, Nat.le_of_ble_eq_true rfl⟩) [] [0, 1, 2, 3, 4, 5, 6] rfl rfl rfl (by decide) (fun H locs hP hD hS => ?_)
  have hP : va_P D vwCl (wM h0 a0 a1 a2 a3 a4 a5 cI cZ th bf pw hs lo lg rt nb (nI fi) (nI fo) (nI en) 0 cu ma) H := hP
  have hD : va_D A (wM h0 a0 a1 a2 a3 a4 a5 cI cZ th bf pw hs lo lg rt nb (nI fi) (nI fo) (nI en) 0 cu ma) := hD
  refine lv_if_ne (tgt := 18) hx hb dX1_setRoot_11 (by decide) (fun c_11 => absurd (by decide) c_11) (fun c_11 => ?_)
  refine lv_iconst (v := (1)) hx hb dX1_setRoot_14 (by decide) ?_
  refine lv_goto (tgt := 19) hx hb dX1_setRoot_15 (by decide) ?_
  refine k_I (wr := []) hP hD hS hA (va_runV (As := [.int 0, .int 1]) (rest := []) ⟨hx, hb, hml, hown, hts⟩ ((tX1_refused_2 th bf pw hs lo lg rt nb fi fo en 0 cu ma) _) (cwV 2 hts gX1_setRoot_X1_refused rfl rfl rfl (by decide +kernel) ⟨Nat.le_of_ble_eq_true rfl, Nat.le_of_ble_eq_true rfl⟩) (pV_B hP hD hK (ci := 1) (q0 := 0) rfl rfl rfl [0, 1] rfl [0, 1, 2, 3, 4, 5, 6] rfl rfl) rfl rfl hl.1 rfl (lv_room (Nat.le_of_ble_eq_true rfl)) dX1_setRoot_19 ⟨Nat.le_of_ble_eq_true rfl, Nat.le_of_ble_eq_true rfl⟩) [0, 1, 2, 3, 4, 5, 6] [] rfl rfl rfl (by decide) (fun H locs hP hD hS => ?_)
  have hP : va_P D vwCl (wM h0 a0 a1 a2 a3 a4 a5 cI cZ 2 bf pw hs lo lg rt nb (nI fi) (nI fo) (nI en) 0 cu ma) H := hP
  have hD : va_D A (wM h0 a0 a1 a2 a3 a4 a5 cI cZ 2 bf pw hs lo lg rt nb (nI fi) (nI fo) (nI en) 0 cu ma) := hD
  refine lv_if_ne (tgt := 32) hx hb dX1_setRoot_22 (by decide) (fun c_22 => ?_) (fun c_22 => absurd c_22 (by decide))
  refine lv_iconst (v := (0)) hx hb dX1_setRoot_32 (by decide) ?_
  exact e_Z hx hb hr hlocks hP hD hS rfl rfl dX1_setRoot_33
set_option maxHeartbeats 4000000 in
set_option maxRecDepth 100000 in
theorem tX1_setRoot_cut {l : Launch} {D : va_G} {cI cZ : ClassId} {h0 a0 a1 a2 a3 a4 a5 : Nat} (th : Int32) (bf pw hs lo lg rt : Nat → Int32) (nb : Int32) (fi fo en : Nat) (cu ma : Int32) (k : Nat) (hk : k < 4) (y : Int32) (h : cu = 0) : RI l yX1_setRoot wsX1_setRoot 8 0 0 D (tyC cI cZ) (wM h0 a0 a1 a2 a3 a4 a5 cI cZ th bf pw hs lo lg rt nb (nI fi) (nI fo) (nI en) 0 cu ma) [.ref h0, .int (nI k), .int y] 0 (wM h0 a0 a1 a2 a3 a4 a5 cI cZ 0 (zf bf) pw hs lo lg rt nb (nI fi) (nI fo) (nI fo) 1 cu ma) := by
  refine st_I (cc := cX1_setRoot) (maxL := 3) (ret := (some .boolean)) (by decide +kernel) rfl (Nat.le_of_ble_eq_true rfl) ?_
  intro p e s m below meth c A hx hb hr hts hown hml hlocks hK hP hD hA hS ls hl
  have hown : s.vm.findClass RX1 = some m.cls := hown
  have hl : lv_has ls 3 [(0, .ref h0), (1, .int (nI k)), (2, .int y)] := hl
  refine lv_aload_n hx hb dX1_setRoot_0 rfl (lv_at hl 0 rfl) ?_
  refine lv_aload_n hx hb dX1_setRoot_1 rfl (lv_at hl 0 rfl) ?_
  refine va_get (ci := 1) (v := .int 0) (C := RX1) (T := TX1) (N := 14) hx hb hts inX1_setRoot hown hK hP 0 rfl rfl 12 (by decide) (hts _ flX1_setRoot_45) (fun _ h9 => h9) rfl dX1_setRoot_2 ?_
  refine lv_iload_n hx hb dX1_setRoot_5 rfl (lv_at hl 1 rfl) ?_
  refine lv_iconst (v := (nI 0)) hx hb dX1_setRoot_6 (by decide) ?_
  refine lv_iconst (v := (nI 3)) hx hb dX1_setRoot_7 (by decide) ?_
  refine k_I (wr := wM h0 a0 a1 a2 a3 a4 a5 cI cZ th bf pw hs lo lg rt nb (nI fi) (nI fo) (nI en) 0 cu ma) hP hD hS hA (va_runS (As := [.int (nI k), .int (nI 0), .int (nI 3)]) (rest := [.int 0, .ref h0]) ⟨hx, hb, hml, hown, hts⟩ ((tX1_in_e (nI k) (nI 0) (nI 3) 1 (sp_in_t (by omega) (by omega) (by omega))) _) (va_cwS 3 hts gX1_setRoot_X1_in rfl rfl rfl (by decide +kernel) ⟨Nat.le_of_ble_eq_true rfl, Nat.le_of_ble_eq_true rfl⟩) (pS_B hP hD hK [] rfl [] rfl rfl) rfl rfl hl.1 rfl (lv_room (Nat.le_of_ble_eq_true rfl)) dX1_setRoot_8 ⟨Nat.le_of_ble_eq_true rfl, Nat.le_of_ble_eq_true rfl⟩) [] [0, 1, 2, 3, 4, 5, 6] rfl rfl rfl (by decide) (fun H locs hP hD hS => ?_)
  have hP : va_P D vwCl (wM h0 a0 a1 a2 a3 a4 a5 cI cZ th bf pw hs lo lg rt nb (nI fi) (nI fo) (nI en) 0 cu ma) H := hP
  have hD : va_D A (wM h0 a0 a1 a2 a3 a4 a5 cI cZ th bf pw hs lo lg rt nb (nI fi) (nI fo) (nI en) 0 cu ma) := hD
  refine lv_if_ne (tgt := 18) hx hb dX1_setRoot_11 (by decide) (fun c_11 => ?_) (fun c_11 => absurd c_11 (by decide))
  refine lv_iconst (v := (0)) hx hb dX1_setRoot_18 (by decide) ?_
  refine k_I (wr := []) hP hD hS hA (va_runV (As := [.int 0, .int 0]) (rest := []) ⟨hx, hb, hml, hown, hts⟩ ((tX1_refused_0 th bf pw hs lo lg rt nb fi fo en 0 cu ma) _) (cwV 2 hts gX1_setRoot_X1_refused rfl rfl rfl (by decide +kernel) ⟨Nat.le_of_ble_eq_true rfl, Nat.le_of_ble_eq_true rfl⟩) (pV_B hP hD hK (ci := 1) (q0 := 0) rfl rfl rfl [0, 1] rfl [0, 1, 2, 3, 4, 5, 6] rfl rfl) rfl rfl hl.1 rfl (lv_room (Nat.le_of_ble_eq_true rfl)) dX1_setRoot_19 ⟨Nat.le_of_ble_eq_true rfl, Nat.le_of_ble_eq_true rfl⟩) [0, 1, 2, 3, 4, 5, 6] [] rfl rfl rfl (by decide) (fun H locs hP hD hS => ?_)
  have hP : va_P D vwCl (wM h0 a0 a1 a2 a3 a4 a5 cI cZ 0 bf pw hs lo lg rt nb (nI fi) (nI fo) (nI en) 0 cu ma) H := hP
  have hD : va_D A (wM h0 a0 a1 a2 a3 a4 a5 cI cZ 0 bf pw hs lo lg rt nb (nI fi) (nI fo) (nI en) 0 cu ma) := hD
  refine lv_if_ne (tgt := 32) hx hb dX1_setRoot_22 (by decide) (fun c_22 => absurd (by decide) c_22) (fun c_22 => ?_)
  refine lv_aload_n hx hb dX1_setRoot_25 rfl (lv_at hl 0 rfl) ?_
  refine k_I (wr := []) hP hD hS hA (va_runV (As := []) (rest := []) ⟨hx, hb, hml, hown, hts⟩ ((tX1_canWrite_cut 0 bf pw hs lo lg rt nb fi fo en 0 cu ma h) _) (cwV 0 hts gX1_setRoot_X1_canWrite rfl rfl rfl (by decide +kernel) ⟨Nat.le_of_ble_eq_true rfl, Nat.le_of_ble_eq_true rfl⟩) (pV_B hP hD hK (ci := 1) (q0 := 0) rfl rfl rfl [0, 1] rfl [0, 1, 2, 3, 4, 5, 6] rfl rfl) rfl rfl hl.1 rfl (lv_room (Nat.le_of_ble_eq_true rfl)) dX1_setRoot_26 ⟨Nat.le_of_ble_eq_true rfl, Nat.le_of_ble_eq_true rfl⟩) [0, 1, 2, 3, 4, 5, 6] [] rfl rfl rfl (by decide) (fun H locs hP hD hS => ?_)
  have hP : va_P D vwCl (wM h0 a0 a1 a2 a3 a4 a5 cI cZ 0 (zf bf) pw hs lo lg rt nb (nI fi) (nI fo) (nI fo) 1 cu ma) H := hP
  have hD : va_D A (wM h0 a0 a1 a2 a3 a4 a5 cI cZ 0 (zf bf) pw hs lo lg rt nb (nI fi) (nI fo) (nI fo) 1 cu ma) := hD
  refine lv_if_ne (tgt := 34) hx hb dX1_setRoot_29 (by decide) (fun c_29 => absurd (by decide) c_29) (fun c_29 => ?_)
  refine lv_iconst (v := (0)) hx hb dX1_setRoot_32 (by decide) ?_
  exact e_Z hx hb hr hlocks hP hD hS rfl rfl dX1_setRoot_33
set_option maxHeartbeats 4000000 in
set_option maxRecDepth 100000 in
theorem tX1_setRoot_ok {l : Launch} {D : va_G} {cI cZ : ClassId} {h0 a0 a1 a2 a3 a4 a5 : Nat} (th : Int32) (bf pw hs lo lg rt : Nat → Int32) (nb : Int32) (fi fo en : Nat) (cu ma : Int32) (k : Nat) (hk : k < 4) (y : Int32) (hn : -1 ≤ cu) (h : ¬ cu = 0) : RI l yX1_setRoot wsX1_setRoot 8 0 0 D (tyC cI cZ) (wM h0 a0 a1 a2 a3 a4 a5 cI cZ th bf pw hs lo lg rt nb (nI fi) (nI fo) (nI en) 0 cu ma) [.ref h0, .int (nI k), .int y] 1 (wM h0 a0 a1 a2 a3 a4 a5 cI cZ 0 bf pw hs lo lg (upd rt k y) nb (nI fi) (nI fo) (nI en) 0 (dcu cu) (ma + 1)) := by
  refine st_I (cc := cX1_setRoot) (maxL := 3) (ret := (some .boolean)) (by decide +kernel) rfl (Nat.le_of_ble_eq_true rfl) ?_
  intro p e s m below meth c A hx hb hr hts hown hml hlocks hK hP hD hA hS ls hl
  have hown : s.vm.findClass RX1 = some m.cls := hown
  have hl : lv_has ls 3 [(0, .ref h0), (1, .int (nI k)), (2, .int y)] := hl
  refine lv_aload_n hx hb dX1_setRoot_0 rfl (lv_at hl 0 rfl) ?_
  refine lv_aload_n hx hb dX1_setRoot_1 rfl (lv_at hl 0 rfl) ?_
  refine va_get (ci := 1) (v := .int 0) (C := RX1) (T := TX1) (N := 14) hx hb hts inX1_setRoot hown hK hP 0 rfl rfl 12 (by decide) (hts _ flX1_setRoot_45) (fun _ h9 => h9) rfl dX1_setRoot_2 ?_
  refine lv_iload_n hx hb dX1_setRoot_5 rfl (lv_at hl 1 rfl) ?_
  refine lv_iconst (v := (nI 0)) hx hb dX1_setRoot_6 (by decide) ?_
  refine lv_iconst (v := (nI 3)) hx hb dX1_setRoot_7 (by decide) ?_
  refine k_I (wr := wM h0 a0 a1 a2 a3 a4 a5 cI cZ th bf pw hs lo lg rt nb (nI fi) (nI fo) (nI en) 0 cu ma) hP hD hS hA (va_runS (As := [.int (nI k), .int (nI 0), .int (nI 3)]) (rest := [.int 0, .ref h0]) ⟨hx, hb, hml, hown, hts⟩ ((tX1_in_e (nI k) (nI 0) (nI 3) 1 (sp_in_t (by omega) (by omega) (by omega))) _) (va_cwS 3 hts gX1_setRoot_X1_in rfl rfl rfl (by decide +kernel) ⟨Nat.le_of_ble_eq_true rfl, Nat.le_of_ble_eq_true rfl⟩) (pS_B hP hD hK [] rfl [] rfl rfl) rfl rfl hl.1 rfl (lv_room (Nat.le_of_ble_eq_true rfl)) dX1_setRoot_8 ⟨Nat.le_of_ble_eq_true rfl, Nat.le_of_ble_eq_true rfl⟩) [] [0, 1, 2, 3, 4, 5, 6] rfl rfl rfl (by decide) (fun H locs hP hD hS => ?_)
  have hP : va_P D vwCl (wM h0 a0 a1 a2 a3 a4 a5 cI cZ th bf pw hs lo lg rt nb (nI fi) (nI fo) (nI en) 0 cu ma) H := hP
  have hD : va_D A (wM h0 a0 a1 a2 a3 a4 a5 cI cZ th bf pw hs lo lg rt nb (nI fi) (nI fo) (nI en) 0 cu ma) := hD
  refine lv_if_ne (tgt := 18) hx hb dX1_setRoot_11 (by decide) (fun c_11 => ?_) (fun c_11 => absurd c_11 (by decide))
  refine lv_iconst (v := (0)) hx hb dX1_setRoot_18 (by decide) ?_
  refine k_I (wr := []) hP hD hS hA (va_runV (As := [.int 0, .int 0]) (rest := []) ⟨hx, hb, hml, hown, hts⟩ ((tX1_refused_0 th bf pw hs lo lg rt nb fi fo en 0 cu ma) _) (cwV 2 hts gX1_setRoot_X1_refused rfl rfl rfl (by decide +kernel) ⟨Nat.le_of_ble_eq_true rfl, Nat.le_of_ble_eq_true rfl⟩) (pV_B hP hD hK (ci := 1) (q0 := 0) rfl rfl rfl [0, 1] rfl [0, 1, 2, 3, 4, 5, 6] rfl rfl) rfl rfl hl.1 rfl (lv_room (Nat.le_of_ble_eq_true rfl)) dX1_setRoot_19 ⟨Nat.le_of_ble_eq_true rfl, Nat.le_of_ble_eq_true rfl⟩) [0, 1, 2, 3, 4, 5, 6] [] rfl rfl rfl (by decide) (fun H locs hP hD hS => ?_)
  have hP : va_P D vwCl (wM h0 a0 a1 a2 a3 a4 a5 cI cZ 0 bf pw hs lo lg rt nb (nI fi) (nI fo) (nI en) 0 cu ma) H := hP
  have hD : va_D A (wM h0 a0 a1 a2 a3 a4 a5 cI cZ 0 bf pw hs lo lg rt nb (nI fi) (nI fo) (nI en) 0 cu ma) := hD
  refine lv_if_ne (tgt := 32) hx hb dX1_setRoot_22 (by decide) (fun c_22 => absurd (by decide) c_22) (fun c_22 => ?_)
  refine lv_aload_n hx hb dX1_setRoot_25 rfl (lv_at hl 0 rfl) ?_
  refine k_I (wr := []) hP hD hS hA (va_runV (As := []) (rest := []) ⟨hx, hb, hml, hown, hts⟩ ((tX1_canWrite_ok 0 bf pw hs lo lg rt nb fi fo en 0 cu ma h hn) _) (cwV 0 hts gX1_setRoot_X1_canWrite rfl rfl rfl (by decide +kernel) ⟨Nat.le_of_ble_eq_true rfl, Nat.le_of_ble_eq_true rfl⟩) (pV_B hP hD hK (ci := 1) (q0 := 0) rfl rfl rfl [0, 1] rfl [0, 1, 2, 3, 4, 5, 6] rfl rfl) rfl rfl hl.1 rfl (lv_room (Nat.le_of_ble_eq_true rfl)) dX1_setRoot_26 ⟨Nat.le_of_ble_eq_true rfl, Nat.le_of_ble_eq_true rfl⟩) [0, 1, 2, 3, 4, 5, 6] [] rfl rfl rfl (by decide) (fun H locs hP hD hS => ?_)
  have hP : va_P D vwCl (wM h0 a0 a1 a2 a3 a4 a5 cI cZ 0 bf pw hs lo lg rt nb (nI fi) (nI fo) (nI en) 0 (dcu cu) (ma + 1)) H := hP
  have hD : va_D A (wM h0 a0 a1 a2 a3 a4 a5 cI cZ 0 bf pw hs lo lg rt nb (nI fi) (nI fo) (nI en) 0 (dcu cu) (ma + 1)) := hD
  refine lv_if_ne (tgt := 34) hx hb dX1_setRoot_29 (by decide) (fun c_29 => ?_) (fun c_29 => absurd c_29 (by decide))
  refine lv_aload_n hx hb dX1_setRoot_34 rfl (lv_at hl 0 rfl) ?_
  refine va_get (ci := 1) (v := .ref a5) (C := RX1) (T := TX1) (N := 14) hx hb hts inX1_setRoot hown hK hP 0 rfl rfl 5 (by decide) (hts _ flX1_setRoot_25) (fun _ h9 => h9) rfl dX1_setRoot_35 ?_
  refine lv_iload_n hx hb dX1_setRoot_38 rfl (lv_at hl 1 rfl) ?_
  refine lv_iload_n hx hb dX1_setRoot_39 rfl (lv_at hl 2 rfl) ?_
  refine n_iast hx hb hK hP hD hS 6 0 rfl rfl k (by omega) (by omega) dX1_setRoot_40 (fun H locs hP hD hS => ?_)
  have hP : va_P D vwCl (wM h0 a0 a1 a2 a3 a4 a5 cI cZ 0 bf pw hs lo lg (upd rt k y) nb (nI fi) (nI fo) (nI en) 0 (dcu cu) (ma + 1)) H := hP
  have hD : va_D A (wM h0 a0 a1 a2 a3 a4 a5 cI cZ 0 bf pw hs lo lg (upd rt k y) nb (nI fi) (nI fo) (nI en) 0 (dcu cu) (ma + 1)) := hD
  refine lv_iconst (v := (1)) hx hb dX1_setRoot_41 (by decide) ?_
  exact e_Z hx hb hr hlocks hP hD hS rfl rfl dX1_setRoot_42
set_option maxHeartbeats 4000000 in
set_option maxRecDepth 100000 in
theorem tX1_root_xb {l : Launch} {D : va_G} {cI cZ : ClassId} {h0 a0 a1 a2 a3 a4 a5 : Nat} (th : Int32) (bf pw hs lo lg rt : Nat → Int32) (nb : Int32) (fi fo en : Nat) (off cu ma : Int32) (x : Int32) (h : x < 0 ∨ nI 4 ≤ x) : RI l yX1_root wsX1_root 8 0 0 D (tyC cI cZ) (wM h0 a0 a1 a2 a3 a4 a5 cI cZ th bf pw hs lo lg rt nb (nI fi) (nI fo) (nI en) off cu ma) [.ref h0, .int x] 0 (wM h0 a0 a1 a2 a3 a4 a5 cI cZ 1 bf pw hs lo lg rt nb (nI fi) (nI fo) (nI en) off cu ma) := by
  refine st_I (cc := cX1_root) (maxL := 2) (ret := (some .int)) (by decide +kernel) rfl (Nat.le_of_ble_eq_true rfl) ?_
  intro p e s m below meth c A hx hb hr hts hown hml hlocks hK hP hD hA hS ls hl
  have hown : s.vm.findClass RX1 = some m.cls := hown
  have hl : lv_has ls 2 [(0, .ref h0), (1, .int x)] := hl
  refine lv_aload_n hx hb dX1_root_0 rfl (lv_at hl 0 rfl) ?_
  refine lv_iload_n hx hb dX1_root_1 rfl (lv_at hl 1 rfl) ?_
  refine lv_iconst (v := (nI 0)) hx hb dX1_root_2 (by decide) ?_
  refine lv_iconst (v := (nI 3)) hx hb dX1_root_3 (by decide) ?_
  refine k_I (wr := wM h0 a0 a1 a2 a3 a4 a5 cI cZ th bf pw hs lo lg rt nb (nI fi) (nI fo) (nI en) off cu ma) hP hD hS hA (va_runS (As := [.int x, .int (nI 0), .int (nI 3)]) (rest := [.ref h0]) ⟨hx, hb, hml, hown, hts⟩ ((tX1_in_e x (nI 0) (nI 3) 0 (sp_in_f (ix_in 3 (by omega) h))) _) (va_cwS 3 hts gX1_root_X1_in rfl rfl rfl (by decide +kernel) ⟨Nat.le_of_ble_eq_true rfl, Nat.le_of_ble_eq_true rfl⟩) (pS_B hP hD hK [] rfl [] rfl rfl) rfl rfl hl.1 rfl (lv_room (Nat.le_of_ble_eq_true rfl)) dX1_root_4 ⟨Nat.le_of_ble_eq_true rfl, Nat.le_of_ble_eq_true rfl⟩) [] [0, 1, 2, 3, 4, 5, 6] rfl rfl rfl (by decide) (fun H locs hP hD hS => ?_)
  have hP : va_P D vwCl (wM h0 a0 a1 a2 a3 a4 a5 cI cZ th bf pw hs lo lg rt nb (nI fi) (nI fo) (nI en) off cu ma) H := hP
  have hD : va_D A (wM h0 a0 a1 a2 a3 a4 a5 cI cZ th bf pw hs lo lg rt nb (nI fi) (nI fo) (nI en) off cu ma) := hD
  refine lv_if_ne (tgt := 14) hx hb dX1_root_7 (by decide) (fun c_7 => absurd (by decide) c_7) (fun c_7 => ?_)
  refine lv_iconst (v := (1)) hx hb dX1_root_10 (by decide) ?_
  refine lv_goto (tgt := 15) hx hb dX1_root_11 (by decide) ?_
  refine lv_iconst (v := (0)) hx hb dX1_root_15 (by decide) ?_
  refine k_I (wr := []) hP hD hS hA (va_runV (As := [.int 1, .int 0]) (rest := []) ⟨hx, hb, hml, hown, hts⟩ ((tX1_refused_1 th bf pw hs lo lg rt nb fi fo en off cu ma 0) _) (cwV 2 hts gX1_root_X1_refused rfl rfl rfl (by decide +kernel) ⟨Nat.le_of_ble_eq_true rfl, Nat.le_of_ble_eq_true rfl⟩) (pV_B hP hD hK (ci := 1) (q0 := 0) rfl rfl rfl [0, 1] rfl [0, 1, 2, 3, 4, 5, 6] rfl rfl) rfl rfl hl.1 rfl (lv_room (Nat.le_of_ble_eq_true rfl)) dX1_root_16 ⟨Nat.le_of_ble_eq_true rfl, Nat.le_of_ble_eq_true rfl⟩) [0, 1, 2, 3, 4, 5, 6] [] rfl rfl rfl (by decide) (fun H locs hP hD hS => ?_)
  have hP : va_P D vwCl (wM h0 a0 a1 a2 a3 a4 a5 cI cZ 1 bf pw hs lo lg rt nb (nI fi) (nI fo) (nI en) off cu ma) H := hP
  have hD : va_D A (wM h0 a0 a1 a2 a3 a4 a5 cI cZ 1 bf pw hs lo lg rt nb (nI fi) (nI fo) (nI en) off cu ma) := hD
  refine lv_if_eq (tgt := 26) hx hb dX1_root_19 (by decide) (fun c_19 => absurd c_19 (by decide)) (fun c_19 => ?_)
  refine lv_iconst (v := (0)) hx hb dX1_root_22 (by decide) ?_
  refine lv_goto (tgt := 32) hx hb dX1_root_23 (by decide) ?_
  exact e_I hx hb hr hlocks hP hD hS rfl dX1_root_32
set_option maxHeartbeats 4000000 in
set_option maxRecDepth 100000 in
theorem tX1_root_ok {l : Launch} {D : va_G} {cI cZ : ClassId} {h0 a0 a1 a2 a3 a4 a5 : Nat} (th : Int32) (bf pw hs lo lg rt : Nat → Int32) (nb : Int32) (fi fo en : Nat) (off cu ma : Int32) (k : Nat) (hk : k < 4) : RI l yX1_root wsX1_root 8 0 0 D (tyC cI cZ) (wM h0 a0 a1 a2 a3 a4 a5 cI cZ th bf pw hs lo lg rt nb (nI fi) (nI fo) (nI en) off cu ma) [.ref h0, .int (nI k)] (rt k) (wM h0 a0 a1 a2 a3 a4 a5 cI cZ 0 bf pw hs lo lg rt nb (nI fi) (nI fo) (nI en) off cu ma) := by
  refine st_I (cc := cX1_root) (maxL := 2) (ret := (some .int)) (by decide +kernel) rfl (Nat.le_of_ble_eq_true rfl) ?_
  intro p e s m below meth c A hx hb hr hts hown hml hlocks hK hP hD hA hS ls hl
  have hown : s.vm.findClass RX1 = some m.cls := hown
  have hl : lv_has ls 2 [(0, .ref h0), (1, .int (nI k))] := hl
  refine lv_aload_n hx hb dX1_root_0 rfl (lv_at hl 0 rfl) ?_
  refine lv_iload_n hx hb dX1_root_1 rfl (lv_at hl 1 rfl) ?_
  refine lv_iconst (v := (nI 0)) hx hb dX1_root_2 (by decide) ?_
  refine lv_iconst (v := (nI 3)) hx hb dX1_root_3 (by decide) ?_
  refine k_I (wr := wM h0 a0 a1 a2 a3 a4 a5 cI cZ th bf pw hs lo lg rt nb (nI fi) (nI fo) (nI en) off cu ma) hP hD hS hA (va_runS (As := [.int (nI k), .int (nI 0), .int (nI 3)]) (rest := [.ref h0]) ⟨hx, hb, hml, hown, hts⟩ ((tX1_in_e (nI k) (nI 0) (nI 3) 1 (sp_in_t (by omega) (by omega) (by omega))) _) (va_cwS 3 hts gX1_root_X1_in rfl rfl rfl (by decide +kernel) ⟨Nat.le_of_ble_eq_true rfl, Nat.le_of_ble_eq_true rfl⟩) (pS_B hP hD hK [] rfl [] rfl rfl) rfl rfl hl.1 rfl (lv_room (Nat.le_of_ble_eq_true rfl)) dX1_root_4 ⟨Nat.le_of_ble_eq_true rfl, Nat.le_of_ble_eq_true rfl⟩) [] [0, 1, 2, 3, 4, 5, 6] rfl rfl rfl (by decide) (fun H locs hP hD hS => ?_)
  have hP : va_P D vwCl (wM h0 a0 a1 a2 a3 a4 a5 cI cZ th bf pw hs lo lg rt nb (nI fi) (nI fo) (nI en) off cu ma) H := hP
  have hD : va_D A (wM h0 a0 a1 a2 a3 a4 a5 cI cZ th bf pw hs lo lg rt nb (nI fi) (nI fo) (nI en) off cu ma) := hD
  refine lv_if_ne (tgt := 14) hx hb dX1_root_7 (by decide) (fun c_7 => ?_) (fun c_7 => absurd c_7 (by decide))
  refine lv_iconst (v := (0)) hx hb dX1_root_14 (by decide) ?_
  refine lv_iconst (v := (0)) hx hb dX1_root_15 (by decide) ?_
  refine k_I (wr := []) hP hD hS hA (va_runV (As := [.int 0, .int 0]) (rest := []) ⟨hx, hb, hml, hown, hts⟩ ((tX1_refused_0 th bf pw hs lo lg rt nb fi fo en off cu ma) _) (cwV 2 hts gX1_root_X1_refused rfl rfl rfl (by decide +kernel) ⟨Nat.le_of_ble_eq_true rfl, Nat.le_of_ble_eq_true rfl⟩) (pV_B hP hD hK (ci := 1) (q0 := 0) rfl rfl rfl [0, 1] rfl [0, 1, 2, 3, 4, 5, 6] rfl rfl) rfl rfl hl.1 rfl (lv_room (Nat.le_of_ble_eq_true rfl)) dX1_root_16 ⟨Nat.le_of_ble_eq_true rfl, Nat.le_of_ble_eq_true rfl⟩) [0, 1, 2, 3, 4, 5, 6] [] rfl rfl rfl (by decide) (fun H locs hP hD hS => ?_)
  have hP : va_P D vwCl (wM h0 a0 a1 a2 a3 a4 a5 cI cZ 0 bf pw hs lo lg rt nb (nI fi) (nI fo) (nI en) off cu ma) H := hP
  have hD : va_D A (wM h0 a0 a1 a2 a3 a4 a5 cI cZ 0 bf pw hs lo lg rt nb (nI fi) (nI fo) (nI en) off cu ma) := hD
  refine lv_if_eq (tgt := 26) hx hb dX1_root_19 (by decide) (fun c_19 => ?_) (fun c_19 => absurd (by decide) c_19)
  refine lv_aload_n hx hb dX1_root_26 rfl (lv_at hl 0 rfl) ?_
  refine va_get (ci := 1) (v := .ref a5) (C := RX1) (T := TX1) (N := 14) hx hb hts inX1_root hown hK hP 0 rfl rfl 5 (by decide) (hts _ flX1_root_25) (fun _ h9 => h9) rfl dX1_root_27 ?_
  refine lv_iload_n hx hb dX1_root_30 rfl (lv_at hl 1 rfl) ?_
  refine n_iald hx hb hK hP 6 0 rfl rfl k (by omega) (by omega) dX1_root_31 ?_
  exact e_I hx hb hr hlocks hP hD hS rfl dX1_root_32
set_option maxHeartbeats 4000000 in
set_option maxRecDepth 100000 in
theorem tX1_writes_ok {l : Launch} {D : va_G} {cI cZ : ClassId} {h0 a0 a1 a2 a3 a4 a5 : Nat} (th : Int32) (bf pw hs lo lg rt : Nat → Int32) (nb : Int32) (fi fo en : Nat) (off cu ma : Int32) : RI l yX1_writes wsX1_writes 8 0 0 D (tyC cI cZ) (wM h0 a0 a1 a2 a3 a4 a5 cI cZ th bf pw hs lo lg rt nb (nI fi) (nI fo) (nI en) off cu ma) [.ref h0] ma (wM h0 a0 a1 a2 a3 a4 a5 cI cZ 0 bf pw hs lo lg rt nb (nI fi) (nI fo) (nI en) off cu ma) := by
  refine st_I (cc := cX1_writes) (maxL := 1) (ret := (some .int)) (by decide +kernel) rfl (Nat.le_of_ble_eq_true rfl) ?_
  intro p e s m below meth c A hx hb hr hts hown hml hlocks hK hP hD hA hS ls hl
  have hown : s.vm.findClass RX1 = some m.cls := hown
  have hl : lv_has ls 1 [(0, .ref h0)] := hl
  refine lv_aload_n hx hb dX1_writes_0 rfl (lv_at hl 0 rfl) ?_
  refine lv_iconst (v := (0)) hx hb dX1_writes_1 (by decide) ?_
  refine va_put (ci := 1) (v := .int 0) (ty := .int) (C := RX1) (T := TX1) (N := 14) hx hb hts inX1_writes tyX1 tyX1_ok nmX1 hown hK hP hD hS 0 rfl rfl 0 (by decide) (hts _ flX1_writes_38) (fun _ h9 => h9) rfl (by decide +kernel) rfl rfl (Nat.le_of_ble_eq_true rfl) dX1_writes_2 (fun H locs hP hD hS => ?_)
  have hP : va_P D vwCl (wM h0 a0 a1 a2 a3 a4 a5 cI cZ 0 bf pw hs lo lg rt nb (nI fi) (nI fo) (nI en) off cu ma) H := hP
  have hD : va_D A (wM h0 a0 a1 a2 a3 a4 a5 cI cZ 0 bf pw hs lo lg rt nb (nI fi) (nI fo) (nI en) off cu ma) := hD
  refine lv_aload_n hx hb dX1_writes_5 rfl (lv_at hl 0 rfl) ?_
  refine va_get (ci := 1) (v := .int ma) (C := RX1) (T := TX1) (N := 14) hx hb hts inX1_writes hown hK hP 0 rfl rfl 11 (by decide) (hts _ flX1_writes_58) (fun _ h9 => h9) rfl dX1_writes_6 ?_
  exact e_I hx hb hr hlocks hP hD hS rfl dX1_writes_9
set_option maxHeartbeats 4000000 in
set_option maxRecDepth 100000 in
theorem tX1_cutAfter_xb {l : Launch} {D : va_G} {cI cZ : ClassId} {h0 a0 a1 a2 a3 a4 a5 : Nat} (th : Int32) (bf pw hs lo lg rt : Nat → Int32) (nb : Int32) (fi fo en : Nat) (off cu ma : Int32) (x : Int32) (h : x < -1) : RV l yX1_cutAfter wsX1_cutAfter 8 0 0 D (tyC cI cZ) (wM h0 a0 a1 a2 a3 a4 a5 cI cZ th bf pw hs lo lg rt nb (nI fi) (nI fo) (nI en) off cu ma) [.ref h0, .int x] (wM h0 a0 a1 a2 a3 a4 a5 cI cZ 1 bf pw hs lo lg rt nb (nI fi) (nI fo) (nI en) off cu ma) := by
  refine st_V (cc := cX1_cutAfter) (maxL := 2) (ret := none) (by decide +kernel) rfl (Nat.le_of_ble_eq_true rfl) ?_
  intro p e s m below meth c A hx hb hr hts hown hml hlocks hK hP hD hA hS ls hl
  have hown : s.vm.findClass RX1 = some m.cls := hown
  have hl : lv_has ls 2 [(0, .ref h0), (1, .int x)] := hl
  refine lv_aload_n hx hb dX1_cutAfter_0 rfl (lv_at hl 0 rfl) ?_
  refine lv_iload_n hx hb dX1_cutAfter_1 rfl (lv_at hl 1 rfl) ?_
  refine lv_iconst (v := (-1)) hx hb dX1_cutAfter_2 (by decide) ?_
  refine lv_icmp_ge (tgt := 10) hx hb dX1_cutAfter_3 (by decide) (fun c_3 => absurd c_3 (Int32.not_le.mpr h)) (fun c_3 => ?_)
  refine lv_iconst (v := (1)) hx hb dX1_cutAfter_6 (by decide) ?_
  refine lv_goto (tgt := 11) hx hb dX1_cutAfter_7 (by decide) ?_
  refine lv_iconst (v := (0)) hx hb dX1_cutAfter_11 (by decide) ?_
  refine k_I (wr := []) hP hD hS hA (va_runV (As := [.int 1, .int 0]) (rest := []) ⟨hx, hb, hml, hown, hts⟩ ((tX1_refused_1 th bf pw hs lo lg rt nb fi fo en off cu ma 0) _) (cwV 2 hts gX1_cutAfter_X1_refused rfl rfl rfl (by decide +kernel) ⟨Nat.le_of_ble_eq_true rfl, Nat.le_of_ble_eq_true rfl⟩) (pV_B hP hD hK (ci := 1) (q0 := 0) rfl rfl rfl [0, 1] rfl [0, 1, 2, 3, 4, 5, 6] rfl rfl) rfl rfl hl.1 rfl (lv_room (Nat.le_of_ble_eq_true rfl)) dX1_cutAfter_12 ⟨Nat.le_of_ble_eq_true rfl, Nat.le_of_ble_eq_true rfl⟩) [0, 1, 2, 3, 4, 5, 6] [] rfl rfl rfl (by decide) (fun H locs hP hD hS => ?_)
  have hP : va_P D vwCl (wM h0 a0 a1 a2 a3 a4 a5 cI cZ 1 bf pw hs lo lg rt nb (nI fi) (nI fo) (nI en) off cu ma) H := hP
  have hD : va_D A (wM h0 a0 a1 a2 a3 a4 a5 cI cZ 1 bf pw hs lo lg rt nb (nI fi) (nI fo) (nI en) off cu ma) := hD
  refine lv_if_ne (tgt := 23) hx hb dX1_cutAfter_15 (by decide) (fun c_15 => ?_) (fun c_15 => absurd c_15 (by decide))
  exact e_V hx hb hr hlocks hP hD hS dX1_cutAfter_23
set_option maxHeartbeats 4000000 in
set_option maxRecDepth 100000 in
theorem tX1_cutAfter_ok {l : Launch} {D : va_G} {cI cZ : ClassId} {h0 a0 a1 a2 a3 a4 a5 : Nat} (th : Int32) (bf pw hs lo lg rt : Nat → Int32) (nb : Int32) (fi fo en : Nat) (off cu ma : Int32) (x : Int32) (h : -1 ≤ x) : RV l yX1_cutAfter wsX1_cutAfter 8 0 0 D (tyC cI cZ) (wM h0 a0 a1 a2 a3 a4 a5 cI cZ th bf pw hs lo lg rt nb (nI fi) (nI fo) (nI en) off cu ma) [.ref h0, .int x] (wM h0 a0 a1 a2 a3 a4 a5 cI cZ 0 bf pw hs lo lg rt nb (nI fi) (nI fo) (nI en) off x ma) := by
  refine st_V (cc := cX1_cutAfter) (maxL := 2) (ret := none) (by decide +kernel) rfl (Nat.le_of_ble_eq_true rfl) ?_
  intro p e s m below meth c A hx hb hr hts hown hml hlocks hK hP hD hA hS ls hl
  have hown : s.vm.findClass RX1 = some m.cls := hown
  have hl : lv_has ls 2 [(0, .ref h0), (1, .int x)] := hl
  refine lv_aload_n hx hb dX1_cutAfter_0 rfl (lv_at hl 0 rfl) ?_
  refine lv_iload_n hx hb dX1_cutAfter_1 rfl (lv_at hl 1 rfl) ?_
  refine lv_iconst (v := (-1)) hx hb dX1_cutAfter_2 (by decide) ?_
  refine lv_icmp_ge (tgt := 10) hx hb dX1_cutAfter_3 (by decide) (fun c_3 => ?_) (fun c_3 => absurd (h) c_3)
  refine lv_iconst (v := (0)) hx hb dX1_cutAfter_10 (by decide) ?_
  refine lv_iconst (v := (0)) hx hb dX1_cutAfter_11 (by decide) ?_
  refine k_I (wr := []) hP hD hS hA (va_runV (As := [.int 0, .int 0]) (rest := []) ⟨hx, hb, hml, hown, hts⟩ ((tX1_refused_0 th bf pw hs lo lg rt nb fi fo en off cu ma) _) (cwV 2 hts gX1_cutAfter_X1_refused rfl rfl rfl (by decide +kernel) ⟨Nat.le_of_ble_eq_true rfl, Nat.le_of_ble_eq_true rfl⟩) (pV_B hP hD hK (ci := 1) (q0 := 0) rfl rfl rfl [0, 1] rfl [0, 1, 2, 3, 4, 5, 6] rfl rfl) rfl rfl hl.1 rfl (lv_room (Nat.le_of_ble_eq_true rfl)) dX1_cutAfter_12 ⟨Nat.le_of_ble_eq_true rfl, Nat.le_of_ble_eq_true rfl⟩) [0, 1, 2, 3, 4, 5, 6] [] rfl rfl rfl (by decide) (fun H locs hP hD hS => ?_)
  have hP : va_P D vwCl (wM h0 a0 a1 a2 a3 a4 a5 cI cZ 0 bf pw hs lo lg rt nb (nI fi) (nI fo) (nI en) off cu ma) H := hP
  have hD : va_D A (wM h0 a0 a1 a2 a3 a4 a5 cI cZ 0 bf pw hs lo lg rt nb (nI fi) (nI fo) (nI en) off cu ma) := hD
  refine lv_if_ne (tgt := 23) hx hb dX1_cutAfter_15 (by decide) (fun c_15 => absurd (by decide) c_15) (fun c_15 => ?_)
  refine lv_aload_n hx hb dX1_cutAfter_18 rfl (lv_at hl 0 rfl) ?_
  refine lv_iload_n hx hb dX1_cutAfter_19 rfl (lv_at hl 1 rfl) ?_
  refine va_put (ci := 1) (v := .int x) (ty := .int) (C := RX1) (T := TX1) (N := 14) hx hb hts inX1_cutAfter tyX1 tyX1_ok nmX1 hown hK hP hD hS 0 rfl rfl 13 (by decide) (hts _ flX1_cutAfter_31) (fun _ h9 => h9) rfl (by decide +kernel) rfl rfl (Nat.le_of_ble_eq_true rfl) dX1_cutAfter_20 (fun H locs hP hD hS => ?_)
  have hP : va_P D vwCl (wM h0 a0 a1 a2 a3 a4 a5 cI cZ 0 bf pw hs lo lg rt nb (nI fi) (nI fo) (nI en) off x ma) H := hP
  have hD : va_D A (wM h0 a0 a1 a2 a3 a4 a5 cI cZ 0 bf pw hs lo lg rt nb (nI fi) (nI fo) (nI en) off x ma) := hD
  exact e_V hx hb hr hlocks hP hD hS dX1_cutAfter_23
set_option maxHeartbeats 4000000 in
set_option maxRecDepth 100000 in
theorem tX1_cut_off {l : Launch} {D : va_G} {cI cZ : ClassId} {h0 a0 a1 a2 a3 a4 a5 : Nat} (th : Int32) (bf pw hs lo lg rt : Nat → Int32) (nb : Int32) (fi fo en : Nat) (cu ma : Int32) : RI l yX1_cut wsX1_cut 8 0 0 D (tyC cI cZ) (wM h0 a0 a1 a2 a3 a4 a5 cI cZ th bf pw hs lo lg rt nb (nI fi) (nI fo) (nI en) 1 cu ma) [.ref h0] 0 (wM h0 a0 a1 a2 a3 a4 a5 cI cZ 0 bf pw hs lo lg rt nb (nI fi) (nI fo) (nI en) 1 cu ma) := by
  refine st_I (cc := cX1_cut) (maxL := 1) (ret := (some .boolean)) (by decide +kernel) rfl (Nat.le_of_ble_eq_true rfl) ?_
  intro p e s m below meth c A hx hb hr hts hown hml hlocks hK hP hD hA hS ls hl
  have hown : s.vm.findClass RX1 = some m.cls := hown
  have hl : lv_has ls 1 [(0, .ref h0)] := hl
  refine lv_aload_n hx hb dX1_cut_0 rfl (lv_at hl 0 rfl) ?_
  refine lv_iconst (v := (0)) hx hb dX1_cut_1 (by decide) ?_
  refine va_put (ci := 1) (v := .int 0) (ty := .int) (C := RX1) (T := TX1) (N := 14) hx hb hts inX1_cut tyX1 tyX1_ok nmX1 hown hK hP hD hS 0 rfl rfl 0 (by decide) (hts _ flX1_cut_38) (fun _ h9 => h9) rfl (by decide +kernel) rfl rfl (Nat.le_of_ble_eq_true rfl) dX1_cut_2 (fun H locs hP hD hS => ?_)
  have hP : va_P D vwCl (wM h0 a0 a1 a2 a3 a4 a5 cI cZ 0 bf pw hs lo lg rt nb (nI fi) (nI fo) (nI en) 1 cu ma) H := hP
  have hD : va_D A (wM h0 a0 a1 a2 a3 a4 a5 cI cZ 0 bf pw hs lo lg rt nb (nI fi) (nI fo) (nI en) 1 cu ma) := hD
  refine lv_aload_n hx hb dX1_cut_5 rfl (lv_at hl 0 rfl) ?_
  refine va_get (ci := 1) (v := .int 1) (C := RX1) (T := TX1) (N := 14) hx hb hts inX1_cut hown hK hP 0 rfl rfl 12 (by decide) (hts _ flX1_cut_45) (fun _ h9 => h9) rfl dX1_cut_6 ?_
  refine lv_if_eq (tgt := 14) hx hb dX1_cut_9 (by decide) (fun c_9 => absurd c_9 (by decide)) (fun c_9 => ?_)
  refine lv_iconst (v := (0)) hx hb dX1_cut_12 (by decide) ?_
  exact e_Z hx hb hr hlocks hP hD hS rfl rfl dX1_cut_13
set_option maxHeartbeats 4000000 in
set_option maxRecDepth 100000 in
theorem tX1_cut_ok {l : Launch} {D : va_G} {cI cZ : ClassId} {h0 a0 a1 a2 a3 a4 a5 : Nat} (th : Int32) (bf pw hs lo lg rt : Nat → Int32) (nb : Int32) (fi fo en : Nat) (cu ma : Int32) : RI l yX1_cut wsX1_cut 8 0 0 D (tyC cI cZ) (wM h0 a0 a1 a2 a3 a4 a5 cI cZ th bf pw hs lo lg rt nb (nI fi) (nI fo) (nI en) 0 cu ma) [.ref h0] 1 (wM h0 a0 a1 a2 a3 a4 a5 cI cZ 0 (zf bf) pw hs lo lg rt nb (nI fi) (nI fo) (nI fo) 1 cu ma) := by
  refine st_I (cc := cX1_cut) (maxL := 1) (ret := (some .boolean)) (by decide +kernel) rfl (Nat.le_of_ble_eq_true rfl) ?_
  intro p e s m below meth c A hx hb hr hts hown hml hlocks hK hP hD hA hS ls hl
  have hown : s.vm.findClass RX1 = some m.cls := hown
  have hl : lv_has ls 1 [(0, .ref h0)] := hl
  refine lv_aload_n hx hb dX1_cut_0 rfl (lv_at hl 0 rfl) ?_
  refine lv_iconst (v := (0)) hx hb dX1_cut_1 (by decide) ?_
  refine va_put (ci := 1) (v := .int 0) (ty := .int) (C := RX1) (T := TX1) (N := 14) hx hb hts inX1_cut tyX1 tyX1_ok nmX1 hown hK hP hD hS 0 rfl rfl 0 (by decide) (hts _ flX1_cut_38) (fun _ h9 => h9) rfl (by decide +kernel) rfl rfl (Nat.le_of_ble_eq_true rfl) dX1_cut_2 (fun H locs hP hD hS => ?_)
  have hP : va_P D vwCl (wM h0 a0 a1 a2 a3 a4 a5 cI cZ 0 bf pw hs lo lg rt nb (nI fi) (nI fo) (nI en) 0 cu ma) H := hP
  have hD : va_D A (wM h0 a0 a1 a2 a3 a4 a5 cI cZ 0 bf pw hs lo lg rt nb (nI fi) (nI fo) (nI en) 0 cu ma) := hD
  refine lv_aload_n hx hb dX1_cut_5 rfl (lv_at hl 0 rfl) ?_
  refine va_get (ci := 1) (v := .int 0) (C := RX1) (T := TX1) (N := 14) hx hb hts inX1_cut hown hK hP 0 rfl rfl 12 (by decide) (hts _ flX1_cut_45) (fun _ h9 => h9) rfl dX1_cut_6 ?_
  refine lv_if_eq (tgt := 14) hx hb dX1_cut_9 (by decide) (fun c_9 => ?_) (fun c_9 => absurd (by decide) c_9)
  refine lv_aload_n hx hb dX1_cut_14 rfl (lv_at hl 0 rfl) ?_
  refine k_V (wr := []) hP hD hS hA (va_runV (As := []) (rest := []) ⟨hx, hb, hml, hown, hts⟩ ((tX1_fail 0 bf pw hs lo lg rt nb fi fo en 0 cu ma) _) (cwV 0 hts gX1_cut_X1_fail rfl rfl rfl (by decide +kernel) ⟨Nat.le_of_ble_eq_true rfl, Nat.le_of_ble_eq_true rfl⟩) (pV_B hP hD hK (ci := 1) (q0 := 0) rfl rfl rfl [0, 1] rfl [0, 1, 2, 3, 4, 5, 6] rfl rfl) rfl rfl hl.1 rfl (lv_room (Nat.le_of_ble_eq_true rfl)) dX1_cut_15 ⟨Nat.le_of_ble_eq_true rfl, Nat.le_of_ble_eq_true rfl⟩) [0, 1, 2, 3, 4, 5, 6] [] rfl rfl rfl (by decide) (fun H locs hP hD hS => ?_)
  have hP : va_P D vwCl (wM h0 a0 a1 a2 a3 a4 a5 cI cZ 0 (zf bf) pw hs lo lg rt nb (nI fi) (nI fo) (nI fo) 1 cu ma) H := hP
  have hD : va_D A (wM h0 a0 a1 a2 a3 a4 a5 cI cZ 0 (zf bf) pw hs lo lg rt nb (nI fi) (nI fo) (nI fo) 1 cu ma) := hD
  refine lv_iconst (v := (1)) hx hb dX1_cut_18 (by decide) ?_
  exact e_Z hx hb hr hlocks hP hD hS rfl rfl dX1_cut_19
set_option maxHeartbeats 4000000 in
set_option maxRecDepth 100000 in
theorem tX1_start_no {l : Launch} {D : va_G} {cI cZ : ClassId} {h0 a0 a1 a2 a3 a4 a5 : Nat} (th : Int32) (bf pw hs lo lg rt : Nat → Int32) (nb : Int32) (fi fo en : Nat) (cu ma : Int32) : RI l yX1_start wsX1_start 8 0 0 D (tyC cI cZ) (wM h0 a0 a1 a2 a3 a4 a5 cI cZ th bf pw hs lo lg rt nb (nI fi) (nI fo) (nI en) 0 cu ma) [.ref h0] 0 (wM h0 a0 a1 a2 a3 a4 a5 cI cZ 0 bf pw hs lo lg rt nb (nI fi) (nI fo) (nI en) 0 cu ma) := by
  refine st_I (cc := cX1_start) (maxL := 1) (ret := (some .boolean)) (by decide +kernel) rfl (Nat.le_of_ble_eq_true rfl) ?_
  intro p e s m below meth c A hx hb hr hts hown hml hlocks hK hP hD hA hS ls hl
  have hown : s.vm.findClass RX1 = some m.cls := hown
  have hl : lv_has ls 1 [(0, .ref h0)] := hl
  refine lv_aload_n hx hb dX1_start_0 rfl (lv_at hl 0 rfl) ?_
  refine lv_iconst (v := (0)) hx hb dX1_start_1 (by decide) ?_
  refine va_put (ci := 1) (v := .int 0) (ty := .int) (C := RX1) (T := TX1) (N := 14) hx hb hts inX1_start tyX1 tyX1_ok nmX1 hown hK hP hD hS 0 rfl rfl 0 (by decide) (hts _ flX1_start_38) (fun _ h9 => h9) rfl (by decide +kernel) rfl rfl (Nat.le_of_ble_eq_true rfl) dX1_start_2 (fun H locs hP hD hS => ?_)
  have hP : va_P D vwCl (wM h0 a0 a1 a2 a3 a4 a5 cI cZ 0 bf pw hs lo lg rt nb (nI fi) (nI fo) (nI en) 0 cu ma) H := hP
  have hD : va_D A (wM h0 a0 a1 a2 a3 a4 a5 cI cZ 0 bf pw hs lo lg rt nb (nI fi) (nI fo) (nI en) 0 cu ma) := hD
  refine lv_aload_n hx hb dX1_start_5 rfl (lv_at hl 0 rfl) ?_
  refine va_get (ci := 1) (v := .int 0) (C := RX1) (T := TX1) (N := 14) hx hb hts inX1_start hown hK hP 0 rfl rfl 12 (by decide) (hts _ flX1_start_45) (fun _ h9 => h9) rfl dX1_start_6 ?_
  refine lv_if_ne (tgt := 14) hx hb dX1_start_9 (by decide) (fun c_9 => absurd (by decide) c_9) (fun c_9 => ?_)
  refine lv_iconst (v := (0)) hx hb dX1_start_12 (by decide) ?_
  exact e_Z hx hb hr hlocks hP hD hS rfl rfl dX1_start_13
set_option maxHeartbeats 4000000 in
set_option maxRecDepth 100000 in
theorem tX1_start_ok {l : Launch} {D : va_G} {cI cZ : ClassId} {h0 a0 a1 a2 a3 a4 a5 : Nat} (th : Int32) (bf pw hs lo lg rt : Nat → Int32) (nb : Int32) (fi fo en : Nat) (cu ma : Int32) : RI l yX1_start wsX1_start 8 0 0 D (tyC cI cZ) (wM h0 a0 a1 a2 a3 a4 a5 cI cZ th bf pw hs lo lg rt nb (nI fi) (nI fo) (nI en) 1 cu ma) [.ref h0] 1 (wM h0 a0 a1 a2 a3 a4 a5 cI cZ 0 bf pw hs lo lg rt nb (nI fi) (nI fo) (nI en) 0 (-1) ma) := by
  refine st_I (cc := cX1_start) (maxL := 1) (ret := (some .boolean)) (by decide +kernel) rfl (Nat.le_of_ble_eq_true rfl) ?_
  intro p e s m below meth c A hx hb hr hts hown hml hlocks hK hP hD hA hS ls hl
  have hown : s.vm.findClass RX1 = some m.cls := hown
  have hl : lv_has ls 1 [(0, .ref h0)] := hl
  refine lv_aload_n hx hb dX1_start_0 rfl (lv_at hl 0 rfl) ?_
  refine lv_iconst (v := (0)) hx hb dX1_start_1 (by decide) ?_
  refine va_put (ci := 1) (v := .int 0) (ty := .int) (C := RX1) (T := TX1) (N := 14) hx hb hts inX1_start tyX1 tyX1_ok nmX1 hown hK hP hD hS 0 rfl rfl 0 (by decide) (hts _ flX1_start_38) (fun _ h9 => h9) rfl (by decide +kernel) rfl rfl (Nat.le_of_ble_eq_true rfl) dX1_start_2 (fun H locs hP hD hS => ?_)
  have hP : va_P D vwCl (wM h0 a0 a1 a2 a3 a4 a5 cI cZ 0 bf pw hs lo lg rt nb (nI fi) (nI fo) (nI en) 1 cu ma) H := hP
  have hD : va_D A (wM h0 a0 a1 a2 a3 a4 a5 cI cZ 0 bf pw hs lo lg rt nb (nI fi) (nI fo) (nI en) 1 cu ma) := hD
  refine lv_aload_n hx hb dX1_start_5 rfl (lv_at hl 0 rfl) ?_
  refine va_get (ci := 1) (v := .int 1) (C := RX1) (T := TX1) (N := 14) hx hb hts inX1_start hown hK hP 0 rfl rfl 12 (by decide) (hts _ flX1_start_45) (fun _ h9 => h9) rfl dX1_start_6 ?_
  refine lv_if_ne (tgt := 14) hx hb dX1_start_9 (by decide) (fun c_9 => ?_) (fun c_9 => absurd c_9 (by decide))
  refine lv_aload_n hx hb dX1_start_14 rfl (lv_at hl 0 rfl) ?_
  refine lv_iconst (v := (0)) hx hb dX1_start_15 (by decide) ?_
  refine va_put (ci := 1) (v := .int 0) (ty := .boolean) (C := RX1) (T := TX1) (N := 14) hx hb hts inX1_start tyX1 tyX1_ok nmX1 hown hK hP hD hS 0 rfl rfl 12 (by decide) (hts _ flX1_start_45) (fun _ h9 => h9) rfl (by decide +kernel) rfl rfl (Nat.le_of_ble_eq_true rfl) dX1_start_16 (fun H locs hP hD hS => ?_)
  have hP : va_P D vwCl (wM h0 a0 a1 a2 a3 a4 a5 cI cZ 0 bf pw hs lo lg rt nb (nI fi) (nI fo) (nI en) 0 cu ma) H := hP
  have hD : va_D A (wM h0 a0 a1 a2 a3 a4 a5 cI cZ 0 bf pw hs lo lg rt nb (nI fi) (nI fo) (nI en) 0 cu ma) := hD
  refine lv_aload_n hx hb dX1_start_19 rfl (lv_at hl 0 rfl) ?_
  refine lv_iconst (v := (-1)) hx hb dX1_start_20 (by decide) ?_
  refine va_put (ci := 1) (v := .int (-1)) (ty := .int) (C := RX1) (T := TX1) (N := 14) hx hb hts inX1_start tyX1 tyX1_ok nmX1 hown hK hP hD hS 0 rfl rfl 13 (by decide) (hts _ flX1_start_31) (fun _ h9 => h9) rfl (by decide +kernel) rfl rfl (Nat.le_of_ble_eq_true rfl) dX1_start_21 (fun H locs hP hD hS => ?_)
  have hP : va_P D vwCl (wM h0 a0 a1 a2 a3 a4 a5 cI cZ 0 bf pw hs lo lg rt nb (nI fi) (nI fo) (nI en) 0 (-1) ma) H := hP
  have hD : va_D A (wM h0 a0 a1 a2 a3 a4 a5 cI cZ 0 bf pw hs lo lg rt nb (nI fi) (nI fo) (nI en) 0 (-1) ma) := hD
  refine lv_iconst (v := (1)) hx hb dX1_start_24 (by decide) ?_
  exact e_Z hx hb hr hlocks hP hD hS rfl rfl dX1_start_25
set_option maxHeartbeats 4000000 in
set_option maxRecDepth 100000 in
theorem tX1_isOn_on {l : Launch} {D : va_G} {cI cZ : ClassId} {h0 a0 a1 a2 a3 a4 a5 : Nat} (th : Int32) (bf pw hs lo lg rt : Nat → Int32) (nb : Int32) (fi fo en : Nat) (cu ma : Int32) : RI l yX1_isOn wsX1_isOn 8 0 0 D (tyC cI cZ) (wM h0 a0 a1 a2 a3 a4 a5 cI cZ th bf pw hs lo lg rt nb (nI fi) (nI fo) (nI en) 0 cu ma) [.ref h0] 1 (wM h0 a0 a1 a2 a3 a4 a5 cI cZ 0 bf pw hs lo lg rt nb (nI fi) (nI fo) (nI en) 0 cu ma) := by
  refine st_I (cc := cX1_isOn) (maxL := 1) (ret := (some .boolean)) (by decide +kernel) rfl (Nat.le_of_ble_eq_true rfl) ?_
  intro p e s m below meth c A hx hb hr hts hown hml hlocks hK hP hD hA hS ls hl
  have hown : s.vm.findClass RX1 = some m.cls := hown
  have hl : lv_has ls 1 [(0, .ref h0)] := hl
  refine lv_aload_n hx hb dX1_isOn_0 rfl (lv_at hl 0 rfl) ?_
  refine lv_iconst (v := (0)) hx hb dX1_isOn_1 (by decide) ?_
  refine va_put (ci := 1) (v := .int 0) (ty := .int) (C := RX1) (T := TX1) (N := 14) hx hb hts inX1_isOn tyX1 tyX1_ok nmX1 hown hK hP hD hS 0 rfl rfl 0 (by decide) (hts _ flX1_isOn_38) (fun _ h9 => h9) rfl (by decide +kernel) rfl rfl (Nat.le_of_ble_eq_true rfl) dX1_isOn_2 (fun H locs hP hD hS => ?_)
  have hP : va_P D vwCl (wM h0 a0 a1 a2 a3 a4 a5 cI cZ 0 bf pw hs lo lg rt nb (nI fi) (nI fo) (nI en) 0 cu ma) H := hP
  have hD : va_D A (wM h0 a0 a1 a2 a3 a4 a5 cI cZ 0 bf pw hs lo lg rt nb (nI fi) (nI fo) (nI en) 0 cu ma) := hD
  refine lv_aload_n hx hb dX1_isOn_5 rfl (lv_at hl 0 rfl) ?_
  refine va_get (ci := 1) (v := .int 0) (C := RX1) (T := TX1) (N := 14) hx hb hts inX1_isOn hown hK hP 0 rfl rfl 12 (by decide) (hts _ flX1_isOn_45) (fun _ h9 => h9) rfl dX1_isOn_6 ?_
  refine lv_if_ne (tgt := 16) hx hb dX1_isOn_9 (by decide) (fun c_9 => absurd (by decide) c_9) (fun c_9 => ?_)
  refine lv_iconst (v := (1)) hx hb dX1_isOn_12 (by decide) ?_
  refine lv_goto (tgt := 17) hx hb dX1_isOn_13 (by decide) ?_
  exact e_Z hx hb hr hlocks hP hD hS rfl rfl dX1_isOn_17
set_option maxHeartbeats 4000000 in
set_option maxRecDepth 100000 in
theorem tX1_isOn_off {l : Launch} {D : va_G} {cI cZ : ClassId} {h0 a0 a1 a2 a3 a4 a5 : Nat} (th : Int32) (bf pw hs lo lg rt : Nat → Int32) (nb : Int32) (fi fo en : Nat) (cu ma : Int32) : RI l yX1_isOn wsX1_isOn 8 0 0 D (tyC cI cZ) (wM h0 a0 a1 a2 a3 a4 a5 cI cZ th bf pw hs lo lg rt nb (nI fi) (nI fo) (nI en) 1 cu ma) [.ref h0] 0 (wM h0 a0 a1 a2 a3 a4 a5 cI cZ 0 bf pw hs lo lg rt nb (nI fi) (nI fo) (nI en) 1 cu ma) := by
  refine st_I (cc := cX1_isOn) (maxL := 1) (ret := (some .boolean)) (by decide +kernel) rfl (Nat.le_of_ble_eq_true rfl) ?_
  intro p e s m below meth c A hx hb hr hts hown hml hlocks hK hP hD hA hS ls hl
  have hown : s.vm.findClass RX1 = some m.cls := hown
  have hl : lv_has ls 1 [(0, .ref h0)] := hl
  refine lv_aload_n hx hb dX1_isOn_0 rfl (lv_at hl 0 rfl) ?_
  refine lv_iconst (v := (0)) hx hb dX1_isOn_1 (by decide) ?_
  refine va_put (ci := 1) (v := .int 0) (ty := .int) (C := RX1) (T := TX1) (N := 14) hx hb hts inX1_isOn tyX1 tyX1_ok nmX1 hown hK hP hD hS 0 rfl rfl 0 (by decide) (hts _ flX1_isOn_38) (fun _ h9 => h9) rfl (by decide +kernel) rfl rfl (Nat.le_of_ble_eq_true rfl) dX1_isOn_2 (fun H locs hP hD hS => ?_)
  have hP : va_P D vwCl (wM h0 a0 a1 a2 a3 a4 a5 cI cZ 0 bf pw hs lo lg rt nb (nI fi) (nI fo) (nI en) 1 cu ma) H := hP
  have hD : va_D A (wM h0 a0 a1 a2 a3 a4 a5 cI cZ 0 bf pw hs lo lg rt nb (nI fi) (nI fo) (nI en) 1 cu ma) := hD
  refine lv_aload_n hx hb dX1_isOn_5 rfl (lv_at hl 0 rfl) ?_
  refine va_get (ci := 1) (v := .int 1) (C := RX1) (T := TX1) (N := 14) hx hb hts inX1_isOn hown hK hP 0 rfl rfl 12 (by decide) (hts _ flX1_isOn_45) (fun _ h9 => h9) rfl dX1_isOn_6 ?_
  refine lv_if_ne (tgt := 16) hx hb dX1_isOn_9 (by decide) (fun c_9 => ?_) (fun c_9 => absurd c_9 (by decide))
  refine lv_iconst (v := (0)) hx hb dX1_isOn_16 (by decide) ?_
  exact e_Z hx hb hr hlocks hP hD hS rfl rfl dX1_isOn_17
set_option maxHeartbeats 4000000 in
set_option maxRecDepth 100000 in
theorem tX1_thrown {l : Launch} {D : va_G} {cI cZ : ClassId} {h0 a0 a1 a2 a3 a4 a5 : Nat} (th : Int32) (bf pw hs lo lg rt : Nat → Int32) (nb : Int32) (fi fo en : Nat) (off cu ma : Int32) : RI l yX1_thrown wsX1_thrown 8 0 0 D (tyC cI cZ) (wM h0 a0 a1 a2 a3 a4 a5 cI cZ th bf pw hs lo lg rt nb (nI fi) (nI fo) (nI en) off cu ma) [.ref h0] th (wM h0 a0 a1 a2 a3 a4 a5 cI cZ th bf pw hs lo lg rt nb (nI fi) (nI fo) (nI en) off cu ma) := by
  refine st_I (cc := cX1_thrown) (maxL := 1) (ret := (some .int)) (by decide +kernel) rfl (Nat.le_of_ble_eq_true rfl) ?_
  intro p e s m below meth c A hx hb hr hts hown hml hlocks hK hP hD hA hS ls hl
  have hown : s.vm.findClass RX1 = some m.cls := hown
  have hl : lv_has ls 1 [(0, .ref h0)] := hl
  refine lv_aload_n hx hb dX1_thrown_0 rfl (lv_at hl 0 rfl) ?_
  refine va_get (ci := 1) (v := .int th) (C := RX1) (T := TX1) (N := 14) hx hb hts inX1_thrown hown hK hP 0 rfl rfl 0 (by decide) (hts _ flX1_thrown_38) (fun _ h9 => h9) rfl dX1_thrown_1 ?_
  exact e_I hx hb hr hlocks hP hD hS rfl dX1_thrown_4
