/-! OWN ROWS, by program: the class, its log, roots and power -/
set_option maxHeartbeats 4000000 in
set_option maxRecDepth 100000 in
theorem tX0_append_xb {l : Launch} {D : va_G} {cI cZ : ClassId} {h0 a0 a1 a2 a3 a4 a5 : Nat} (hl0 : l.stackTraces = false) (bf pw hs lo lg rt : Nat → Int32) (nb : Int32) (fi fo en : Nat) (cu ma : Int32) (x : Int32) (h : x < nI 1 ∨ nI 64 < x) : RX l yX0_append wsX0_append 8 D (tyC cI cZ) (wC h0 a0 a1 a2 a3 a4 a5 cI cZ bf pw hs lo lg rt nb (nI fi) (nI fo) (nI en) 1 cu ma) [.ref h0, .int x] xIAE := by
  refine st_X (cc := cX0_append) (maxL := 4) (ret := (some .int)) (by decide +kernel) rfl (Nat.le_of_ble_eq_true rfl) ?_
  intro p e s m below meth c A hx hb hr hts hown hml hlocks hK hP hD hA hS ls hl hT hex
  have hown : s.vm.findClass RX0 = some m.cls := hown
  have hl : lv_has ls 4 [(0, .ref h0), (1, .int x)] := hl
  refine lv_aload_n hx hb dX0_append_0 rfl (lv_at hl 0 rfl) ?_
  refine k_V (wr := []) hP hD hS hA (va_runV (As := []) (rest := []) ⟨hx, hb, hml, hown, hts⟩ ((tX0_needPower_ok bf pw hs lo lg rt nb fi fo en cu ma) _) (cwV 0 hts gX0_append_X0_needPower rfl rfl rfl (by decide +kernel) ⟨Nat.le_of_ble_eq_true rfl, Nat.le_of_ble_eq_true rfl⟩) (pV_B hP hD hK (ci := 0) (q0 := 0) rfl rfl rfl [0, 1] rfl [0, 1, 2, 3, 4, 5, 6] rfl rfl) rfl rfl hl.1 rfl (lv_room (Nat.le_of_ble_eq_true rfl)) dX0_append_1 ⟨Nat.le_of_ble_eq_true rfl, Nat.le_of_ble_eq_true rfl⟩) [0, 1, 2, 3, 4, 5, 6] [] rfl rfl rfl (by decide) (fun H locs hP hD hS => ?_)
  have hP : va_P D vwCl (wC h0 a0 a1 a2 a3 a4 a5 cI cZ bf pw hs lo lg rt nb (nI fi) (nI fo) (nI en) 1 cu ma) H := hP
  have hD : va_D A (wC h0 a0 a1 a2 a3 a4 a5 cI cZ bf pw hs lo lg rt nb (nI fi) (nI fo) (nI en) 1 cu ma) := hD
  refine lv_iload_n hx hb dX0_append_4 rfl (lv_at hl 1 rfl) ?_
  exact k_XX hlocks hex (Nat.le_of_ble_eq_true rfl) (Nat.le_of_ble_eq_true rfl) (wr := wC h0 a0 a1 a2 a3 a4 a5 cI cZ bf pw hs lo lg rt nb (nI fi) (nI fo) (nI en) 1 cu ma) hP hD hS hA (vx_runS (As := [.int x]) (rest := []) ⟨hx, hb, hml, hown, hts⟩ ((tX0_needWordCount_x hl0 x h) _) (va_cwS 1 hts gX0_append_X0_needWordCount rfl rfl rfl (by decide +kernel) ⟨Nat.le_of_ble_eq_true rfl, Nat.le_of_ble_eq_true rfl⟩) (pS_X hP hD hK hS hA hT [] rfl [] rfl rfl) rfl rfl hl.1 rfl (lv_room (Nat.le_of_ble_eq_true rfl)) dX0_append_5 ⟨Nat.le_of_ble_eq_true rfl, Nat.le_of_ble_eq_true rfl⟩) [] [0, 1, 2, 3, 4, 5, 6] rfl rfl rfl (by decide)
set_option maxHeartbeats 4000000 in
set_option maxRecDepth 100000 in
theorem tX0_append_ok {l : Launch} {D : va_G} {cI cZ : ClassId} {h0 a0 a1 a2 a3 a4 a5 : Nat} (bf pw hs lo lg rt : Nat → Int32) (nb : Int32) (fi fo en : Nat) (cu ma : Int32) (k : Nat) (hk : 1 ≤ k) (hk2 : k ≤ 64) (hf : fi ≤ en) (he : en ≤ 60000) : RI l yX0_append wsX0_append 8 0 0 D (tyC cI cZ) (wC h0 a0 a1 a2 a3 a4 a5 cI cZ bf pw hs lo lg rt nb (nI fi) (nI fo) (nI en) 1 cu ma) [.ref h0, .int (nI k)] (nI en) (wC h0 a0 a1 a2 a3 a4 a5 cI cZ bf pw hs lo (sp_ap bf en lg k) rt nb (nI fi) (nI fo) (nI (en + k)) 1 cu ma) := by
  refine st_I (cc := cX0_append) (maxL := 4) (ret := (some .int)) (by decide +kernel) rfl (Nat.le_of_ble_eq_true rfl) ?_
  intro p e s m below meth c A hx hb hr hts hown hml hlocks hK hP hD hA hS ls hl
  have hown : s.vm.findClass RX0 = some m.cls := hown
  have hl : lv_has ls 4 [(0, .ref h0), (1, .int (nI k))] := hl
  refine lv_aload_n hx hb dX0_append_0 rfl (lv_at hl 0 rfl) ?_
  refine k_V (wr := []) hP hD hS hA (va_runV (As := []) (rest := []) ⟨hx, hb, hml, hown, hts⟩ ((tX0_needPower_ok bf pw hs lo lg rt nb fi fo en cu ma) _) (cwV 0 hts gX0_append_X0_needPower rfl rfl rfl (by decide +kernel) ⟨Nat.le_of_ble_eq_true rfl, Nat.le_of_ble_eq_true rfl⟩) (pV_B hP hD hK (ci := 0) (q0 := 0) rfl rfl rfl [0, 1] rfl [0, 1, 2, 3, 4, 5, 6] rfl rfl) rfl rfl hl.1 rfl (lv_room (Nat.le_of_ble_eq_true rfl)) dX0_append_1 ⟨Nat.le_of_ble_eq_true rfl, Nat.le_of_ble_eq_true rfl⟩) [0, 1, 2, 3, 4, 5, 6] [] rfl rfl rfl (by decide) (fun H locs hP hD hS => ?_)
  have hP : va_P D vwCl (wC h0 a0 a1 a2 a3 a4 a5 cI cZ bf pw hs lo lg rt nb (nI fi) (nI fo) (nI en) 1 cu ma) H := hP
  have hD : va_D A (wC h0 a0 a1 a2 a3 a4 a5 cI cZ bf pw hs lo lg rt nb (nI fi) (nI fo) (nI en) 1 cu ma) := hD
  refine lv_iload_n hx hb dX0_append_4 rfl (lv_at hl 1 rfl) ?_
  refine k_V (wr := wC h0 a0 a1 a2 a3 a4 a5 cI cZ bf pw hs lo lg rt nb (nI fi) (nI fo) (nI en) 1 cu ma) hP hD hS hA (va_runS (As := [.int (nI k)]) (rest := []) ⟨hx, hb, hml, hown, hts⟩ ((tX0_needWordCount_ok k (by omega) (by omega)) _) (va_cwS 1 hts gX0_append_X0_needWordCount rfl rfl rfl (by decide +kernel) ⟨Nat.le_of_ble_eq_true rfl, Nat.le_of_ble_eq_true rfl⟩) (pS_B hP hD hK [] rfl [] rfl rfl) rfl rfl hl.1 rfl (lv_room (Nat.le_of_ble_eq_true rfl)) dX0_append_5 ⟨Nat.le_of_ble_eq_true rfl, Nat.le_of_ble_eq_true rfl⟩) [] [0, 1, 2, 3, 4, 5, 6] rfl rfl rfl (by decide) (fun H locs hP hD hS => ?_)
  have hP : va_P D vwCl (wC h0 a0 a1 a2 a3 a4 a5 cI cZ bf pw hs lo lg rt nb (nI fi) (nI fo) (nI en) 1 cu ma) H := hP
  have hD : va_D A (wC h0 a0 a1 a2 a3 a4 a5 cI cZ bf pw hs lo lg rt nb (nI fi) (nI fo) (nI en) 1 cu ma) := hD
  refine lv_iload_n hx hb dX0_append_8 rfl (lv_at hl 1 rfl) ?_
  refine lv_ldc (v := nI 65536) hx hb hown (hts (.constant RX0 24 (65536)) (by decide +kernel)) dX0_append_9 ?_
  refine lv_aload_n hx hb dX0_append_11 rfl (lv_at hl 0 rfl) ?_
  refine va_get (ci := 0) (v := .int (nI en)) (C := RX0) (T := TX0) (N := 13) hx hb hts inX0_append hown hK hP 0 rfl rfl 8 (by decide) (hts _ flX0_append_84) (fun _ h9 => h9) rfl dX0_append_12 ?_
  refine lv_aload_n hx hb dX0_append_15 rfl (lv_at hl 0 rfl) ?_
  refine va_get (ci := 0) (v := .int (nI fi)) (C := RX0) (T := TX0) (N := 13) hx hb hts inX0_append hown hK hP 0 rfl rfl 6 (by decide) (hts _ flX0_append_87) (fun _ h9 => h9) rfl dX0_append_16 ?_
  refine n_isub hx hb (by omega) dX0_append_19 ?_
  refine n_isub hx hb (by omega) dX0_append_20 ?_
  refine n_le (tgt := 26) hx hb (by omega) (by omega) dX0_append_21 (by decide) (fun c_21 => ?_) (fun c_21 => absurd c_21 (by omega))
  refine lv_aload_n hx hb dX0_append_26 rfl (lv_at hl 0 rfl) ?_
  refine va_get (ci := 0) (v := .int (nI en)) (C := RX0) (T := TX0) (N := 13) hx hb hts inX0_append hown hK hP 0 rfl rfl 8 (by decide) (hts _ flX0_append_84) (fun _ h9 => h9) rfl dX0_append_27 ?_
  refine lv_istore_n (lv' := [(2, .int (nI en)), (0, .ref h0), (1, .int (nI k))]) hx hb dX0_append_30 rfl hl (by decide) rfl (fun ls hl => ?_)
  refine lv_iconst (v := (nI 0)) hx hb dX0_append_31 (by decide) ?_
  refine lv_istore_n (lv' := [(3, .int (nI 0)), (2, .int (nI en)), (0, .ref h0), (1, .int (nI k))]) hx hb dX0_append_32 rfl hl (by decide) rfl (fun ls hl => ?_)
  have lp_33 : ∀ (n9 i : Nat), i + n9 = k → ∀ (H : Heap) (locs : List Loc) (ls : Array Slot), va_P D vwCl (wC h0 a0 a1 a2 a3 a4 a5 cI cZ bf pw hs lo (sp_ap bf en lg i) rt nb (nI fi) (nI fo) (nI en) 1 cu ma) H → va_D A (wC h0 a0 a1 a2 a3 a4 a5 cI cZ bf pw hs lo (sp_ap bf en lg i) rt nb (nI fi) (nI fo) (nI en) 1 cu ma) → va_S A s.heap H locs → lv_has ls 4 [(0, .ref h0), (1, .int (nI k)), (2, .int (nI en)), (3, .int (nI i))] → W p l e (rmL 8 0 0) s m ([.ref h0, .int (nI k)] : List Value).toArray below meth c H locs 0 0 (MQ below (qcI D A (nI en) (wC h0 a0 a1 a2 a3 a4 a5 cI cZ bf pw hs lo (sp_ap bf en lg k) rt nb (nI fi) (nI fo) (nI (en + k)) 1 cu ma)) ([.ref h0, .int (nI k)] : List Value).toArray s 0 0 A) (F0 m 33 ls []) := by
    intro n9
    induction n9 with
    | zero =>
      intro i hi H locs ls hP hD hS hl
      obtain rfl : k = i := by omega
      refine lv_iload_n hx hb dX0_append_33 rfl (lv_at hl 3 rfl) ?_
      refine lv_iload_n hx hb dX0_append_34 rfl (lv_at hl 1 rfl) ?_
      refine n_ge (tgt := 61) hx hb (by omega) (by omega) dX0_append_35 (by decide) (fun c_35 => ?_) (fun c_35 => absurd c_35 (by omega))
      refine lv_aload_n hx hb dX0_append_61 rfl (lv_at hl 0 rfl) ?_
      refine lv_iload_n hx hb dX0_append_62 rfl (lv_at hl 2 rfl) ?_
      refine lv_iload_n hx hb dX0_append_63 rfl (lv_at hl 1 rfl) ?_
      refine n_iadd hx hb dX0_append_64 ?_
      refine va_put (ci := 0) (v := .int (nI (en + k))) (ty := .int) (C := RX0) (T := TX0) (N := 13) hx hb hts inX0_append tyX0 tyX0_ok nmX0 hown hK hP hD hS 0 rfl rfl 8 (by decide) (hts _ flX0_append_84) (fun _ h9 => h9) rfl (by decide +kernel) rfl rfl (Nat.le_of_ble_eq_true rfl) dX0_append_65 (fun H locs hP hD hS => ?_)
      have hP : va_P D vwCl (wC h0 a0 a1 a2 a3 a4 a5 cI cZ bf pw hs lo (sp_ap bf en lg k) rt nb (nI fi) (nI fo) (nI (en + k)) 1 cu ma) H := hP
      have hD : va_D A (wC h0 a0 a1 a2 a3 a4 a5 cI cZ bf pw hs lo (sp_ap bf en lg k) rt nb (nI fi) (nI fo) (nI (en + k)) 1 cu ma) := hD
      refine lv_iload_n hx hb dX0_append_68 rfl (lv_at hl 2 rfl) ?_
      exact e_I hx hb hr hlocks hP hD hS rfl dX0_append_69
    | succ n9 ih =>
      intro i hi H locs ls hP hD hS hl
      refine lv_iload_n hx hb dX0_append_33 rfl (lv_at hl 3 rfl) ?_
      refine lv_iload_n hx hb dX0_append_34 rfl (lv_at hl 1 rfl) ?_
      refine n_ge (tgt := 61) hx hb (by omega) (by omega) dX0_append_35 (by decide) (fun c_35 => absurd c_35 (by omega)) (fun c_35 => ?_)
      refine lv_aload_n hx hb dX0_append_38 rfl (lv_at hl 0 rfl) ?_
      refine va_get (ci := 0) (v := .ref a4) (C := RX0) (T := TX0) (N := 13) hx hb hts inX0_append hown hK hP 0 rfl rfl 5 (by decide) (hts _ flX0_append_25) (fun _ h9 => h9) rfl dX0_append_39 ?_
      refine lv_iload_n hx hb dX0_append_42 rfl (lv_at hl 2 rfl) ?_
      refine lv_iload_n hx hb dX0_append_43 rfl (lv_at hl 3 rfl) ?_
      refine n_iadd hx hb dX0_append_44 ?_
      refine k_I (wr := wC h0 a0 a1 a2 a3 a4 a5 cI cZ bf pw hs lo (sp_ap bf en lg i) rt nb (nI fi) (nI fo) (nI en) 1 cu ma) hP hD hS hA (va_runS (As := [.int (nI (en + i))]) (rest := [.ref a4]) ⟨hx, hb, hml, hown, hts⟩ ((tX0_logSlot (en + i) (by omega)) _) (va_cwS 1 hts gX0_append_X0_logSlot rfl rfl rfl (by decide +kernel) ⟨Nat.le_of_ble_eq_true rfl, Nat.le_of_ble_eq_true rfl⟩) (pS_B hP hD hK [] rfl [] rfl rfl) rfl rfl hl.1 rfl (lv_room (Nat.le_of_ble_eq_true rfl)) dX0_append_45 ⟨Nat.le_of_ble_eq_true rfl, Nat.le_of_ble_eq_true rfl⟩) [] [0, 1, 2, 3, 4, 5, 6] rfl rfl rfl (by decide) (fun H locs hP hD hS => ?_)
      have hP : va_P D vwCl (wC h0 a0 a1 a2 a3 a4 a5 cI cZ bf pw hs lo (sp_ap bf en lg i) rt nb (nI fi) (nI fo) (nI en) 1 cu ma) H := hP
      have hD : va_D A (wC h0 a0 a1 a2 a3 a4 a5 cI cZ bf pw hs lo (sp_ap bf en lg i) rt nb (nI fi) (nI fo) (nI en) 1 cu ma) := hD
      refine lv_aload_n hx hb dX0_append_48 rfl (lv_at hl 0 rfl) ?_
      refine va_get (ci := 0) (v := .ref a0) (C := RX0) (T := TX0) (N := 13) hx hb hts inX0_append hown hK hP 0 rfl rfl 0 (by decide) (hts _ flX0_append_9) (fun _ h9 => h9) rfl dX0_append_49 ?_
      refine lv_iload_n hx hb dX0_append_52 rfl (lv_at hl 3 rfl) ?_
      refine n_iald hx hb hK hP 1 0 rfl rfl i (by omega) (by omega) dX0_append_53 ?_
      refine n_iast hx hb hK hP hD hS 5 0 rfl rfl ((en + i) % 65536) (by omega) (by omega) dX0_append_54 (fun H locs hP hD hS => ?_)
      have hP : va_P D vwCl (wC h0 a0 a1 a2 a3 a4 a5 cI cZ bf pw hs lo (upd (sp_ap bf en lg i) ((en + i) % 65536) (bf i)) rt nb (nI fi) (nI fo) (nI en) 1 cu ma) H := hP
      have hD : va_D A (wC h0 a0 a1 a2 a3 a4 a5 cI cZ bf pw hs lo (upd (sp_ap bf en lg i) ((en + i) % 65536) (bf i)) rt nb (nI fi) (nI fo) (nI en) 1 cu ma) := hD
      refine n_iinc (lv' := [(3, .int (nI (i + 1))), (0, .ref h0), (1, .int (nI k)), (2, .int (nI en))]) hx hb dX0_append_55 hl (k := 3) rfl (by decide) rfl (fun ls hl => ?_)
      refine lv_goto (tgt := 33) hx hb dX0_append_58 (by decide) ?_
      have hP : va_P D vwCl (wC h0 a0 a1 a2 a3 a4 a5 cI cZ bf pw hs lo (sp_ap bf en lg (i + 1)) rt nb (nI fi) (nI fo) (nI en) 1 cu ma) H := by skip; exact hP
      have hD : va_D A (wC h0 a0 a1 a2 a3 a4 a5 cI cZ bf pw hs lo (sp_ap bf en lg (i + 1)) rt nb (nI fi) (nI fo) (nI en) 1 cu ma) := by skip; exact hD
      exact ih (i + 1) (by omega) _ _ _ hP hD hS (lv_sub hl [1, 2, 3, 0] rfl)
  have hP : va_P D vwCl (wC h0 a0 a1 a2 a3 a4 a5 cI cZ bf pw hs lo (sp_ap bf en lg 0) rt nb (nI fi) (nI fo) (nI en) 1 cu ma) H := by skip; exact hP
  have hD : va_D A (wC h0 a0 a1 a2 a3 a4 a5 cI cZ bf pw hs lo (sp_ap bf en lg 0) rt nb (nI fi) (nI fo) (nI en) 1 cu ma) := by skip; exact hD
  exact lp_33 k 0 (by omega) _ _ _ hP hD hS (lv_sub hl [2, 3, 1, 0] rfl)
set_option maxHeartbeats 4000000 in
set_option maxRecDepth 100000 in
theorem tX0_force_xb {l : Launch} {D : va_G} {cI cZ : ClassId} {h0 a0 a1 a2 a3 a4 a5 : Nat} (hl0 : l.stackTraces = false) (bf pw hs lo lg rt : Nat → Int32) (nb : Int32) (fi fo en : Nat) (cu ma : Int32) (x : Int32) (h : x < nI fi ∨ nI en < x) : RX l yX0_force wsX0_force 8 D (tyC cI cZ) (wC h0 a0 a1 a2 a3 a4 a5 cI cZ bf pw hs lo lg rt nb (nI fi) (nI fo) (nI en) 1 cu ma) [.ref h0, .int x] xIAE := by
  refine st_X (cc := cX0_force) (maxL := 3) (ret := (some .int)) (by decide +kernel) rfl (Nat.le_of_ble_eq_true rfl) ?_
  intro p e s m below meth c A hx hb hr hts hown hml hlocks hK hP hD hA hS ls hl hT hex
  have hown : s.vm.findClass RX0 = some m.cls := hown
  have hl : lv_has ls 3 [(0, .ref h0), (1, .int x)] := hl
  refine lv_aload_n hx hb dX0_force_0 rfl (lv_at hl 0 rfl) ?_
  refine k_V (wr := []) hP hD hS hA (va_runV (As := []) (rest := []) ⟨hx, hb, hml, hown, hts⟩ ((tX0_needPower_ok bf pw hs lo lg rt nb fi fo en cu ma) _) (cwV 0 hts gX0_force_X0_needPower rfl rfl rfl (by decide +kernel) ⟨Nat.le_of_ble_eq_true rfl, Nat.le_of_ble_eq_true rfl⟩) (pV_B hP hD hK (ci := 0) (q0 := 0) rfl rfl rfl [0, 1] rfl [0, 1, 2, 3, 4, 5, 6] rfl rfl) rfl rfl hl.1 rfl (lv_room (Nat.le_of_ble_eq_true rfl)) dX0_force_1 ⟨Nat.le_of_ble_eq_true rfl, Nat.le_of_ble_eq_true rfl⟩) [0, 1, 2, 3, 4, 5, 6] [] rfl rfl rfl (by decide) (fun H locs hP hD hS => ?_)
  have hP : va_P D vwCl (wC h0 a0 a1 a2 a3 a4 a5 cI cZ bf pw hs lo lg rt nb (nI fi) (nI fo) (nI en) 1 cu ma) H := hP
  have hD : va_D A (wC h0 a0 a1 a2 a3 a4 a5 cI cZ bf pw hs lo lg rt nb (nI fi) (nI fo) (nI en) 1 cu ma) := hD
  refine lv_aload_n hx hb dX0_force_4 rfl (lv_at hl 0 rfl) ?_
  refine lv_iload_n hx hb dX0_force_5 rfl (lv_at hl 1 rfl) ?_
  refine lv_aload_n hx hb dX0_force_6 rfl (lv_at hl 0 rfl) ?_
  refine va_get (ci := 0) (v := .int (nI en)) (C := RX0) (T := TX0) (N := 13) hx hb hts inX0_force hown hK hP 0 rfl rfl 8 (by decide) (hts _ flX0_force_84) (fun _ h9 => h9) rfl dX0_force_7 ?_
  exact k_XX hlocks hex (Nat.le_of_ble_eq_true rfl) (Nat.le_of_ble_eq_true rfl) (wr := []) hP hD hS hA (vx_runV (As := [.int x, .int (nI en)]) (rest := []) ⟨hx, hb, hml, hown, hts⟩ ((tX0_needPlace_x hl0 bf pw hs lo lg rt nb fi fo en 1 cu ma x (nI en) h) _) (cwV 2 hts gX0_force_X0_needPlace rfl rfl rfl (by decide +kernel) ⟨Nat.le_of_ble_eq_true rfl, Nat.le_of_ble_eq_true rfl⟩) (pV_X hP hD hK hS hA hT (ci := 0) (q0 := 0) rfl rfl rfl [0, 1] rfl [0, 1, 2, 3, 4, 5, 6] rfl rfl) rfl rfl hl.1 rfl (lv_room (Nat.le_of_ble_eq_true rfl)) dX0_force_10 ⟨Nat.le_of_ble_eq_true rfl, Nat.le_of_ble_eq_true rfl⟩) [0, 1, 2, 3, 4, 5, 6] [] rfl rfl rfl (by decide)
set_option maxHeartbeats 4000000 in
set_option maxRecDepth 100000 in
theorem tX0_force_ok {l : Launch} {D : va_G} {cI cZ : ClassId} {h0 a0 a1 a2 a3 a4 a5 : Nat} (bf pw hs lo lg rt : Nat → Int32) (nb : Int32) (fi fo en : Nat) (cu ma : Int32) (pl : Nat) (h1 : fi ≤ pl) (h2 : pl ≤ en) (h3 : fo ≤ pl) (he : en ≤ 60000) (hcut : fcut (pl - fo) cu = false) : RI l yX0_force wsX0_force 8 0 0 D (tyC cI cZ) (wC h0 a0 a1 a2 a3 a4 a5 cI cZ bf pw hs lo lg rt nb (nI fi) (nI fo) (nI en) 1 cu ma) [.ref h0, .int (nI pl)] (nI (pl - fo)) (wC h0 a0 a1 a2 a3 a4 a5 cI cZ bf pw hs lo lg rt nb (nI fi) (nI pl) (nI en) 1 (fcu (pl - fo) cu) (fma (pl - fo) cu ma)) := by
  refine st_I (cc := cX0_force) (maxL := 3) (ret := (some .int)) (by decide +kernel) rfl (Nat.le_of_ble_eq_true rfl) ?_
  intro p e s m below meth c A hx hb hr hts hown hml hlocks hK hP hD hA hS ls hl
  have hown : s.vm.findClass RX0 = some m.cls := hown
  have hl : lv_has ls 3 [(0, .ref h0), (1, .int (nI pl))] := hl
  refine lv_aload_n hx hb dX0_force_0 rfl (lv_at hl 0 rfl) ?_
  refine k_V (wr := []) hP hD hS hA (va_runV (As := []) (rest := []) ⟨hx, hb, hml, hown, hts⟩ ((tX0_needPower_ok bf pw hs lo lg rt nb fi fo en cu ma) _) (cwV 0 hts gX0_force_X0_needPower rfl rfl rfl (by decide +kernel) ⟨Nat.le_of_ble_eq_true rfl, Nat.le_of_ble_eq_true rfl⟩) (pV_B hP hD hK (ci := 0) (q0 := 0) rfl rfl rfl [0, 1] rfl [0, 1, 2, 3, 4, 5, 6] rfl rfl) rfl rfl hl.1 rfl (lv_room (Nat.le_of_ble_eq_true rfl)) dX0_force_1 ⟨Nat.le_of_ble_eq_true rfl, Nat.le_of_ble_eq_true rfl⟩) [0, 1, 2, 3, 4, 5, 6] [] rfl rfl rfl (by decide) (fun H locs hP hD hS => ?_)
  have hP : va_P D vwCl (wC h0 a0 a1 a2 a3 a4 a5 cI cZ bf pw hs lo lg rt nb (nI fi) (nI fo) (nI en) 1 cu ma) H := hP
  have hD : va_D A (wC h0 a0 a1 a2 a3 a4 a5 cI cZ bf pw hs lo lg rt nb (nI fi) (nI fo) (nI en) 1 cu ma) := hD
  refine lv_aload_n hx hb dX0_force_4 rfl (lv_at hl 0 rfl) ?_
  refine lv_iload_n hx hb dX0_force_5 rfl (lv_at hl 1 rfl) ?_
  refine lv_aload_n hx hb dX0_force_6 rfl (lv_at hl 0 rfl) ?_
  refine va_get (ci := 0) (v := .int (nI en)) (C := RX0) (T := TX0) (N := 13) hx hb hts inX0_force hown hK hP 0 rfl rfl 8 (by decide) (hts _ flX0_force_84) (fun _ h9 => h9) rfl dX0_force_7 ?_
  refine k_V (wr := []) hP hD hS hA (va_runV (As := [.int (nI pl), .int (nI en)]) (rest := []) ⟨hx, hb, hml, hown, hts⟩ ((tX0_needPlace_ok bf pw hs lo lg rt nb fi fo en 1 cu ma pl en (by omega) (by omega) (by omega)) _) (cwV 2 hts gX0_force_X0_needPlace rfl rfl rfl (by decide +kernel) ⟨Nat.le_of_ble_eq_true rfl, Nat.le_of_ble_eq_true rfl⟩) (pV_B hP hD hK (ci := 0) (q0 := 0) rfl rfl rfl [0, 1] rfl [0, 1, 2, 3, 4, 5, 6] rfl rfl) rfl rfl hl.1 rfl (lv_room (Nat.le_of_ble_eq_true rfl)) dX0_force_10 ⟨Nat.le_of_ble_eq_true rfl, Nat.le_of_ble_eq_true rfl⟩) [0, 1, 2, 3, 4, 5, 6] [] rfl rfl rfl (by decide) (fun H locs hP hD hS => ?_)
  have hP : va_P D vwCl (wC h0 a0 a1 a2 a3 a4 a5 cI cZ bf pw hs lo lg rt nb (nI fi) (nI fo) (nI en) 1 cu ma) H := hP
  have hD : va_D A (wC h0 a0 a1 a2 a3 a4 a5 cI cZ bf pw hs lo lg rt nb (nI fi) (nI fo) (nI en) 1 cu ma) := hD
  refine lv_aload_n hx hb dX0_force_13 rfl (lv_at hl 0 rfl) ?_
  refine va_get (ci := 0) (v := .int (nI fo)) (C := RX0) (T := TX0) (N := 13) hx hb hts inX0_force hown hK hP 0 rfl rfl 7 (by decide) (hts _ flX0_force_96) (fun _ h9 => h9) rfl dX0_force_14 ?_
  refine lv_istore_n (lv' := [(2, .int (nI fo)), (0, .ref h0), (1, .int (nI pl))]) hx hb dX0_force_17 rfl hl (by decide) rfl (fun ls hl => ?_)
  have lp_18 : ∀ (n9 f9 : Nat) (c9 m9 : Int32), f9 + n9 = pl → fo ≤ f9 → fcut n9 c9 = false → fcu n9 c9 = fcu (pl - fo) cu → fma n9 c9 m9 = fma (pl - fo) cu ma → ∀ (H : Heap) (locs : List Loc) (ls : Array Slot), va_P D vwCl (wC h0 a0 a1 a2 a3 a4 a5 cI cZ bf pw hs lo lg rt nb (nI fi) (nI f9) (nI en) 1 c9 m9) H → va_D A (wC h0 a0 a1 a2 a3 a4 a5 cI cZ bf pw hs lo lg rt nb (nI fi) (nI f9) (nI en) 1 c9 m9) → va_S A s.heap H locs → lv_has ls 3 [(0, .ref h0), (1, .int (nI pl)), (2, .int (nI fo))] → W p l e (rmL 8 0 0) s m ([.ref h0, .int (nI pl)] : List Value).toArray below meth c H locs 0 0 (MQ below (qcI D A (nI (pl - fo)) (wC h0 a0 a1 a2 a3 a4 a5 cI cZ bf pw hs lo lg rt nb (nI fi) (nI pl) (nI en) 1 (fcu (pl - fo) cu) (fma (pl - fo) cu ma))) ([.ref h0, .int (nI pl)] : List Value).toArray s 0 0 A) (F0 m 18 ls []) := by
    intro n9
    induction n9 with
    | zero =>
      intro f9 c9 m9 hi hge hz hcu hma H locs ls hP hD hS hl
      obtain rfl : f9 = pl := by omega
      refine lv_aload_n hx hb dX0_force_18 rfl (lv_at hl 0 rfl) ?_
      refine va_get (ci := 0) (v := .int (nI f9)) (C := RX0) (T := TX0) (N := 13) hx hb hts inX0_force hown hK hP 0 rfl rfl 7 (by decide) (hts _ flX0_force_96) (fun _ h9 => h9) rfl dX0_force_19 ?_
      refine lv_iload_n hx hb dX0_force_22 rfl (lv_at hl 1 rfl) ?_
      refine n_ge (tgt := 48) hx hb (by omega) (by omega) dX0_force_23 (by decide) (fun c_23 => ?_) (fun c_23 => absurd c_23 (by omega))
      have hP : va_P D vwCl (wC h0 a0 a1 a2 a3 a4 a5 cI cZ bf pw hs lo lg rt nb (nI fi) (nI f9) (nI en) 1 (fcu (f9 - fo) cu) (fma (f9 - fo) cu ma)) H := by rw [← hcu, ← hma]; exact hP
      have hD : va_D A (wC h0 a0 a1 a2 a3 a4 a5 cI cZ bf pw hs lo lg rt nb (nI fi) (nI f9) (nI en) 1 (fcu (f9 - fo) cu) (fma (f9 - fo) cu ma)) := by rw [← hcu, ← hma]; exact hD
      refine lv_aload_n hx hb dX0_force_48 rfl (lv_at hl 0 rfl) ?_
      refine va_get (ci := 0) (v := .int (nI f9)) (C := RX0) (T := TX0) (N := 13) hx hb hts inX0_force hown hK hP 0 rfl rfl 7 (by decide) (hts _ flX0_force_96) (fun _ h9 => h9) rfl dX0_force_49 ?_
      refine lv_iload_n hx hb dX0_force_52 rfl (lv_at hl 2 rfl) ?_
      refine n_isub hx hb (by omega) dX0_force_53 ?_
      exact e_I hx hb hr hlocks hP hD hS rfl dX0_force_54
    | succ n9 ih =>
      intro f9 c9 m9 hi hge hz hcu hma H locs ls hP hD hS hl
      have hc := fcut_nz hz
      obtain ⟨q1, q2, q3, q4⟩ := fcut_s (n := n9) hc
      refine lv_aload_n hx hb dX0_force_18 rfl (lv_at hl 0 rfl) ?_
      refine va_get (ci := 0) (v := .int (nI f9)) (C := RX0) (T := TX0) (N := 13) hx hb hts inX0_force hown hK hP 0 rfl rfl 7 (by decide) (hts _ flX0_force_96) (fun _ h9 => h9) rfl dX0_force_19 ?_
      refine lv_iload_n hx hb dX0_force_22 rfl (lv_at hl 1 rfl) ?_
      refine n_ge (tgt := 48) hx hb (by omega) (by omega) dX0_force_23 (by decide) (fun c_23 => absurd c_23 (by omega)) (fun c_23 => ?_)
      refine lv_aload_n hx hb dX0_force_26 rfl (lv_at hl 0 rfl) ?_
      refine k_I (wr := []) hP hD hS hA (va_runV (As := []) (rest := []) ⟨hx, hb, hml, hown, hts⟩ ((tX0_makeLeastWrite_ok bf pw hs lo lg rt nb fi f9 en 1 c9 m9 hc) _) (cwV 0 hts gX0_force_X0_makeLeastWrite rfl rfl rfl (by decide +kernel) ⟨Nat.le_of_ble_eq_true rfl, Nat.le_of_ble_eq_true rfl⟩) (pV_B hP hD hK (ci := 0) (q0 := 0) rfl rfl rfl [0, 1] rfl [0, 1, 2, 3, 4, 5, 6] rfl rfl) rfl rfl hl.1 rfl (lv_room (Nat.le_of_ble_eq_true rfl)) dX0_force_27 ⟨Nat.le_of_ble_eq_true rfl, Nat.le_of_ble_eq_true rfl⟩) [0, 1, 2, 3, 4, 5, 6] [] rfl rfl rfl (by decide) (fun H locs hP hD hS => ?_)
      have hP : va_P D vwCl (wC h0 a0 a1 a2 a3 a4 a5 cI cZ bf pw hs lo lg rt nb (nI fi) (nI f9) (nI en) 1 (dcu c9) (m9 + 1)) H := hP
      have hD : va_D A (wC h0 a0 a1 a2 a3 a4 a5 cI cZ bf pw hs lo lg rt nb (nI fi) (nI f9) (nI en) 1 (dcu c9) (m9 + 1)) := hD
      refine lv_if_ne (tgt := 35) hx hb dX0_force_30 (by decide) (fun c_30 => ?_) (fun c_30 => absurd c_30 (by decide))
      refine lv_aload_n hx hb dX0_force_35 rfl (lv_at hl 0 rfl) ?_
      refine lv_dup hx hb dX0_force_36 rfl ?_
      refine va_get (ci := 0) (v := .int (nI f9)) (C := RX0) (T := TX0) (N := 13) hx hb hts inX0_force hown hK hP 0 rfl rfl 7 (by decide) (hts _ flX0_force_96) (fun _ h9 => h9) rfl dX0_force_37 ?_
      refine lv_iconst (v := (nI 1)) hx hb dX0_force_40 (by decide) ?_
      refine n_iadd hx hb dX0_force_41 ?_
      refine va_put (ci := 0) (v := .int (nI (f9 + 1))) (ty := .int) (C := RX0) (T := TX0) (N := 13) hx hb hts inX0_force tyX0 tyX0_ok nmX0 hown hK hP hD hS 0 rfl rfl 7 (by decide) (hts _ flX0_force_96) (fun _ h9 => h9) rfl (by decide +kernel) rfl rfl (Nat.le_of_ble_eq_true rfl) dX0_force_42 (fun H locs hP hD hS => ?_)
      have hP : va_P D vwCl (wC h0 a0 a1 a2 a3 a4 a5 cI cZ bf pw hs lo lg rt nb (nI fi) (nI (f9 + 1)) (nI en) 1 (dcu c9) (m9 + 1)) H := hP
      have hD : va_D A (wC h0 a0 a1 a2 a3 a4 a5 cI cZ bf pw hs lo lg rt nb (nI fi) (nI (f9 + 1)) (nI en) 1 (dcu c9) (m9 + 1)) := hD
      refine lv_goto (tgt := 18) hx hb dX0_force_45 (by decide) ?_
      exact ih (f9 + 1) (dcu c9) (m9 + 1) (by omega) (by omega) (q1 ▸ hz) (q2 ▸ hcu) ((q3 m9) ▸ hma) _ _ _ hP hD hS (lv_sub hl [0, 1, 2] rfl)
  exact lp_18 (pl - fo) fo cu ma (by omega) (Nat.le_refl fo) hcut rfl rfl _ _ _ hP hD hS (lv_sub hl [1, 2, 0] rfl)
set_option maxHeartbeats 4000000 in
set_option maxRecDepth 100000 in
theorem tX0_force_cut {l : Launch} {D : va_G} {cI cZ : ClassId} {h0 a0 a1 a2 a3 a4 a5 : Nat} (bf pw hs lo lg rt : Nat → Int32) (nb : Int32) (fi fo en : Nat) (cu ma : Int32) (pl : Nat) (h1 : fi ≤ pl) (h2 : pl ≤ en) (h3 : fo ≤ pl) (he : en ≤ 60000) (hcut : fcut (pl - fo) cu = true) : RI l yX0_force wsX0_force 8 0 0 D (tyC cI cZ) (wC h0 a0 a1 a2 a3 a4 a5 cI cZ bf pw hs lo lg rt nb (nI fi) (nI fo) (nI en) 1 cu ma) [.ref h0, .int (nI pl)] (-1) (wC h0 a0 a1 a2 a3 a4 a5 cI cZ (zf bf) pw hs lo lg rt nb (nI fi) (nI (fo + fmk (pl - fo) cu)) (nI (fo + fmk (pl - fo) cu)) 0 (fcu (pl - fo) cu) (fma (pl - fo) cu ma)) := by
  refine st_I (cc := cX0_force) (maxL := 3) (ret := (some .int)) (by decide +kernel) rfl (Nat.le_of_ble_eq_true rfl) ?_
  intro p e s m below meth c A hx hb hr hts hown hml hlocks hK hP hD hA hS ls hl
  have hown : s.vm.findClass RX0 = some m.cls := hown
  have hl : lv_has ls 3 [(0, .ref h0), (1, .int (nI pl))] := hl
  refine lv_aload_n hx hb dX0_force_0 rfl (lv_at hl 0 rfl) ?_
  refine k_V (wr := []) hP hD hS hA (va_runV (As := []) (rest := []) ⟨hx, hb, hml, hown, hts⟩ ((tX0_needPower_ok bf pw hs lo lg rt nb fi fo en cu ma) _) (cwV 0 hts gX0_force_X0_needPower rfl rfl rfl (by decide +kernel) ⟨Nat.le_of_ble_eq_true rfl, Nat.le_of_ble_eq_true rfl⟩) (pV_B hP hD hK (ci := 0) (q0 := 0) rfl rfl rfl [0, 1] rfl [0, 1, 2, 3, 4, 5, 6] rfl rfl) rfl rfl hl.1 rfl (lv_room (Nat.le_of_ble_eq_true rfl)) dX0_force_1 ⟨Nat.le_of_ble_eq_true rfl, Nat.le_of_ble_eq_true rfl⟩) [0, 1, 2, 3, 4, 5, 6] [] rfl rfl rfl (by decide) (fun H locs hP hD hS => ?_)
  have hP : va_P D vwCl (wC h0 a0 a1 a2 a3 a4 a5 cI cZ bf pw hs lo lg rt nb (nI fi) (nI fo) (nI en) 1 cu ma) H := hP
  have hD : va_D A (wC h0 a0 a1 a2 a3 a4 a5 cI cZ bf pw hs lo lg rt nb (nI fi) (nI fo) (nI en) 1 cu ma) := hD
  refine lv_aload_n hx hb dX0_force_4 rfl (lv_at hl 0 rfl) ?_
  refine lv_iload_n hx hb dX0_force_5 rfl (lv_at hl 1 rfl) ?_
  refine lv_aload_n hx hb dX0_force_6 rfl (lv_at hl 0 rfl) ?_
  refine va_get (ci := 0) (v := .int (nI en)) (C := RX0) (T := TX0) (N := 13) hx hb hts inX0_force hown hK hP 0 rfl rfl 8 (by decide) (hts _ flX0_force_84) (fun _ h9 => h9) rfl dX0_force_7 ?_
  refine k_V (wr := []) hP hD hS hA (va_runV (As := [.int (nI pl), .int (nI en)]) (rest := []) ⟨hx, hb, hml, hown, hts⟩ ((tX0_needPlace_ok bf pw hs lo lg rt nb fi fo en 1 cu ma pl en (by omega) (by omega) (by omega)) _) (cwV 2 hts gX0_force_X0_needPlace rfl rfl rfl (by decide +kernel) ⟨Nat.le_of_ble_eq_true rfl, Nat.le_of_ble_eq_true rfl⟩) (pV_B hP hD hK (ci := 0) (q0 := 0) rfl rfl rfl [0, 1] rfl [0, 1, 2, 3, 4, 5, 6] rfl rfl) rfl rfl hl.1 rfl (lv_room (Nat.le_of_ble_eq_true rfl)) dX0_force_10 ⟨Nat.le_of_ble_eq_true rfl, Nat.le_of_ble_eq_true rfl⟩) [0, 1, 2, 3, 4, 5, 6] [] rfl rfl rfl (by decide) (fun H locs hP hD hS => ?_)
  have hP : va_P D vwCl (wC h0 a0 a1 a2 a3 a4 a5 cI cZ bf pw hs lo lg rt nb (nI fi) (nI fo) (nI en) 1 cu ma) H := hP
  have hD : va_D A (wC h0 a0 a1 a2 a3 a4 a5 cI cZ bf pw hs lo lg rt nb (nI fi) (nI fo) (nI en) 1 cu ma) := hD
  refine lv_aload_n hx hb dX0_force_13 rfl (lv_at hl 0 rfl) ?_
  refine va_get (ci := 0) (v := .int (nI fo)) (C := RX0) (T := TX0) (N := 13) hx hb hts inX0_force hown hK hP 0 rfl rfl 7 (by decide) (hts _ flX0_force_96) (fun _ h9 => h9) rfl dX0_force_14 ?_
  refine lv_istore_n (lv' := [(2, .int (nI fo)), (0, .ref h0), (1, .int (nI pl))]) hx hb dX0_force_17 rfl hl (by decide) rfl (fun ls hl => ?_)
  have lp_18 : ∀ (n9 f9 : Nat) (c9 m9 : Int32), f9 + n9 = pl → fo ≤ f9 → fcut n9 c9 = true → fcu n9 c9 = fcu (pl - fo) cu → fma n9 c9 m9 = fma (pl - fo) cu ma → f9 + fmk n9 c9 = fo + fmk (pl - fo) cu → ∀ (H : Heap) (locs : List Loc) (ls : Array Slot), va_P D vwCl (wC h0 a0 a1 a2 a3 a4 a5 cI cZ bf pw hs lo lg rt nb (nI fi) (nI f9) (nI en) 1 c9 m9) H → va_D A (wC h0 a0 a1 a2 a3 a4 a5 cI cZ bf pw hs lo lg rt nb (nI fi) (nI f9) (nI en) 1 c9 m9) → va_S A s.heap H locs → lv_has ls 3 [(0, .ref h0), (1, .int (nI pl)), (2, .int (nI fo))] → W p l e (rmL 8 0 0) s m ([.ref h0, .int (nI pl)] : List Value).toArray below meth c H locs 0 0 (MQ below (qcI D A (-1) (wC h0 a0 a1 a2 a3 a4 a5 cI cZ (zf bf) pw hs lo lg rt nb (nI fi) (nI (fo + fmk (pl - fo) cu)) (nI (fo + fmk (pl - fo) cu)) 0 (fcu (pl - fo) cu) (fma (pl - fo) cu ma))) ([.ref h0, .int (nI pl)] : List Value).toArray s 0 0 A) (F0 m 18 ls []) := by
    intro n9
    induction n9 with
    | zero =>
      intro f9 c9 m9 hi hge hz hcu hma hmk H locs ls hP hD hS hl
      cases hz
    | succ n9 ih =>
      intro f9 c9 m9 hi hge hz hcu hma hmk H locs ls hP hD hS hl
      by_cases hc : c9 = 0
      · obtain ⟨q1, q2, q3, q4⟩ := fcut_z (n := n9) hc
        refine lv_aload_n hx hb dX0_force_18 rfl (lv_at hl 0 rfl) ?_
        refine va_get (ci := 0) (v := .int (nI f9)) (C := RX0) (T := TX0) (N := 13) hx hb hts inX0_force hown hK hP 0 rfl rfl 7 (by decide) (hts _ flX0_force_96) (fun _ h9 => h9) rfl dX0_force_19 ?_
        refine lv_iload_n hx hb dX0_force_22 rfl (lv_at hl 1 rfl) ?_
        refine n_ge (tgt := 48) hx hb (by omega) (by omega) dX0_force_23 (by decide) (fun c_23 => absurd c_23 (by omega)) (fun c_23 => ?_)
        refine lv_aload_n hx hb dX0_force_26 rfl (lv_at hl 0 rfl) ?_
        refine k_I (wr := []) hP hD hS hA (va_runV (As := []) (rest := []) ⟨hx, hb, hml, hown, hts⟩ ((tX0_makeLeastWrite_cut bf pw hs lo lg rt nb fi f9 en 1 c9 m9 hc) _) (cwV 0 hts gX0_force_X0_makeLeastWrite rfl rfl rfl (by decide +kernel) ⟨Nat.le_of_ble_eq_true rfl, Nat.le_of_ble_eq_true rfl⟩) (pV_B hP hD hK (ci := 0) (q0 := 0) rfl rfl rfl [0, 1] rfl [0, 1, 2, 3, 4, 5, 6] rfl rfl) rfl rfl hl.1 rfl (lv_room (Nat.le_of_ble_eq_true rfl)) dX0_force_27 ⟨Nat.le_of_ble_eq_true rfl, Nat.le_of_ble_eq_true rfl⟩) [0, 1, 2, 3, 4, 5, 6] [] rfl rfl rfl (by decide) (fun H locs hP hD hS => ?_)
        have hP : va_P D vwCl (wC h0 a0 a1 a2 a3 a4 a5 cI cZ (zf bf) pw hs lo lg rt nb (nI fi) (nI f9) (nI f9) 0 c9 m9) H := hP
        have hD : va_D A (wC h0 a0 a1 a2 a3 a4 a5 cI cZ (zf bf) pw hs lo lg rt nb (nI fi) (nI f9) (nI f9) 0 c9 m9) := hD
        refine lv_if_ne (tgt := 35) hx hb dX0_force_30 (by decide) (fun c_30 => absurd (rfl) c_30) (fun c_30 => ?_)
        have e9 : fo + fmk (pl - fo) cu = f9 := by omega
        have hP : va_P D vwCl (wC h0 a0 a1 a2 a3 a4 a5 cI cZ (zf bf) pw hs lo lg rt nb (nI fi) (nI (fo + fmk (pl - fo) cu)) (nI (fo + fmk (pl - fo) cu)) 0 (fcu (pl - fo) cu) (fma (pl - fo) cu ma)) H := by rw [e9, ← hcu, ← hma, q2, q3]; exact hP
        have hD : va_D A (wC h0 a0 a1 a2 a3 a4 a5 cI cZ (zf bf) pw hs lo lg rt nb (nI fi) (nI (fo + fmk (pl - fo) cu)) (nI (fo + fmk (pl - fo) cu)) 0 (fcu (pl - fo) cu) (fma (pl - fo) cu ma)) := by rw [e9, ← hcu, ← hma, q2, q3]; exact hD
        refine lv_iconst (v := (-1)) hx hb dX0_force_33 (by decide) ?_
        exact e_I hx hb hr hlocks hP hD hS rfl dX0_force_34
      · obtain ⟨q1, q2, q3, q4⟩ := fcut_s (n := n9) hc
        refine lv_aload_n hx hb dX0_force_18 rfl (lv_at hl 0 rfl) ?_
        refine va_get (ci := 0) (v := .int (nI f9)) (C := RX0) (T := TX0) (N := 13) hx hb hts inX0_force hown hK hP 0 rfl rfl 7 (by decide) (hts _ flX0_force_96) (fun _ h9 => h9) rfl dX0_force_19 ?_
        refine lv_iload_n hx hb dX0_force_22 rfl (lv_at hl 1 rfl) ?_
        refine n_ge (tgt := 48) hx hb (by omega) (by omega) dX0_force_23 (by decide) (fun c_23 => absurd c_23 (by omega)) (fun c_23 => ?_)
        refine lv_aload_n hx hb dX0_force_26 rfl (lv_at hl 0 rfl) ?_
        refine k_I (wr := []) hP hD hS hA (va_runV (As := []) (rest := []) ⟨hx, hb, hml, hown, hts⟩ ((tX0_makeLeastWrite_ok bf pw hs lo lg rt nb fi f9 en 1 c9 m9 hc) _) (cwV 0 hts gX0_force_X0_makeLeastWrite rfl rfl rfl (by decide +kernel) ⟨Nat.le_of_ble_eq_true rfl, Nat.le_of_ble_eq_true rfl⟩) (pV_B hP hD hK (ci := 0) (q0 := 0) rfl rfl rfl [0, 1] rfl [0, 1, 2, 3, 4, 5, 6] rfl rfl) rfl rfl hl.1 rfl (lv_room (Nat.le_of_ble_eq_true rfl)) dX0_force_27 ⟨Nat.le_of_ble_eq_true rfl, Nat.le_of_ble_eq_true rfl⟩) [0, 1, 2, 3, 4, 5, 6] [] rfl rfl rfl (by decide) (fun H locs hP hD hS => ?_)
        have hP : va_P D vwCl (wC h0 a0 a1 a2 a3 a4 a5 cI cZ bf pw hs lo lg rt nb (nI fi) (nI f9) (nI en) 1 (dcu c9) (m9 + 1)) H := hP
        have hD : va_D A (wC h0 a0 a1 a2 a3 a4 a5 cI cZ bf pw hs lo lg rt nb (nI fi) (nI f9) (nI en) 1 (dcu c9) (m9 + 1)) := hD
        refine lv_if_ne (tgt := 35) hx hb dX0_force_30 (by decide) (fun c_30 => ?_) (fun c_30 => absurd c_30 (by decide))
        refine lv_aload_n hx hb dX0_force_35 rfl (lv_at hl 0 rfl) ?_
        refine lv_dup hx hb dX0_force_36 rfl ?_
        refine va_get (ci := 0) (v := .int (nI f9)) (C := RX0) (T := TX0) (N := 13) hx hb hts inX0_force hown hK hP 0 rfl rfl 7 (by decide) (hts _ flX0_force_96) (fun _ h9 => h9) rfl dX0_force_37 ?_
        refine lv_iconst (v := (nI 1)) hx hb dX0_force_40 (by decide) ?_
        refine n_iadd hx hb dX0_force_41 ?_
        refine va_put (ci := 0) (v := .int (nI (f9 + 1))) (ty := .int) (C := RX0) (T := TX0) (N := 13) hx hb hts inX0_force tyX0 tyX0_ok nmX0 hown hK hP hD hS 0 rfl rfl 7 (by decide) (hts _ flX0_force_96) (fun _ h9 => h9) rfl (by decide +kernel) rfl rfl (Nat.le_of_ble_eq_true rfl) dX0_force_42 (fun H locs hP hD hS => ?_)
        have hP : va_P D vwCl (wC h0 a0 a1 a2 a3 a4 a5 cI cZ bf pw hs lo lg rt nb (nI fi) (nI (f9 + 1)) (nI en) 1 (dcu c9) (m9 + 1)) H := hP
        have hD : va_D A (wC h0 a0 a1 a2 a3 a4 a5 cI cZ bf pw hs lo lg rt nb (nI fi) (nI (f9 + 1)) (nI en) 1 (dcu c9) (m9 + 1)) := hD
        refine lv_goto (tgt := 18) hx hb dX0_force_45 (by decide) ?_
        exact ih (f9 + 1) (dcu c9) (m9 + 1) (by omega) (by omega) (q1 ▸ hz) (q2 ▸ hcu) ((q3 m9) ▸ hma) (by omega) _ _ _ hP hD hS (lv_sub hl [0, 1, 2] rfl)
  exact lp_18 (pl - fo) fo cu ma (by omega) (Nat.le_refl fo) hcut rfl rfl rfl _ _ _ hP hD hS (lv_sub hl [1, 2, 0] rfl)
set_option maxHeartbeats 4000000 in
set_option maxRecDepth 100000 in
theorem tX0_force_no {l : Launch} {D : va_G} {cI cZ : ClassId} {h0 a0 a1 a2 a3 a4 a5 : Nat} (bf pw hs lo lg rt : Nat → Int32) (nb : Int32) (fi fo en : Nat) (cu ma : Int32) (pl : Nat) (h1 : fi ≤ pl) (h2 : pl ≤ en) (h3 : pl ≤ fo) (he : en ≤ 60000) (hfo : fo ≤ en) : RI l yX0_force wsX0_force 8 0 0 D (tyC cI cZ) (wC h0 a0 a1 a2 a3 a4 a5 cI cZ bf pw hs lo lg rt nb (nI fi) (nI fo) (nI en) 1 cu ma) [.ref h0, .int (nI pl)] 0 (wC h0 a0 a1 a2 a3 a4 a5 cI cZ bf pw hs lo lg rt nb (nI fi) (nI fo) (nI en) 1 cu ma) := by
  refine st_I (cc := cX0_force) (maxL := 3) (ret := (some .int)) (by decide +kernel) rfl (Nat.le_of_ble_eq_true rfl) ?_
  intro p e s m below meth c A hx hb hr hts hown hml hlocks hK hP hD hA hS ls hl
  have hown : s.vm.findClass RX0 = some m.cls := hown
  have hl : lv_has ls 3 [(0, .ref h0), (1, .int (nI pl))] := hl
  refine lv_aload_n hx hb dX0_force_0 rfl (lv_at hl 0 rfl) ?_
  refine k_V (wr := []) hP hD hS hA (va_runV (As := []) (rest := []) ⟨hx, hb, hml, hown, hts⟩ ((tX0_needPower_ok bf pw hs lo lg rt nb fi fo en cu ma) _) (cwV 0 hts gX0_force_X0_needPower rfl rfl rfl (by decide +kernel) ⟨Nat.le_of_ble_eq_true rfl, Nat.le_of_ble_eq_true rfl⟩) (pV_B hP hD hK (ci := 0) (q0 := 0) rfl rfl rfl [0, 1] rfl [0, 1, 2, 3, 4, 5, 6] rfl rfl) rfl rfl hl.1 rfl (lv_room (Nat.le_of_ble_eq_true rfl)) dX0_force_1 ⟨Nat.le_of_ble_eq_true rfl, Nat.le_of_ble_eq_true rfl⟩) [0, 1, 2, 3, 4, 5, 6] [] rfl rfl rfl (by decide) (fun H locs hP hD hS => ?_)
  have hP : va_P D vwCl (wC h0 a0 a1 a2 a3 a4 a5 cI cZ bf pw hs lo lg rt nb (nI fi) (nI fo) (nI en) 1 cu ma) H := hP
  have hD : va_D A (wC h0 a0 a1 a2 a3 a4 a5 cI cZ bf pw hs lo lg rt nb (nI fi) (nI fo) (nI en) 1 cu ma) := hD
  refine lv_aload_n hx hb dX0_force_4 rfl (lv_at hl 0 rfl) ?_
  refine lv_iload_n hx hb dX0_force_5 rfl (lv_at hl 1 rfl) ?_
  refine lv_aload_n hx hb dX0_force_6 rfl (lv_at hl 0 rfl) ?_
  refine va_get (ci := 0) (v := .int (nI en)) (C := RX0) (T := TX0) (N := 13) hx hb hts inX0_force hown hK hP 0 rfl rfl 8 (by decide) (hts _ flX0_force_84) (fun _ h9 => h9) rfl dX0_force_7 ?_
  refine k_V (wr := []) hP hD hS hA (va_runV (As := [.int (nI pl), .int (nI en)]) (rest := []) ⟨hx, hb, hml, hown, hts⟩ ((tX0_needPlace_ok bf pw hs lo lg rt nb fi fo en 1 cu ma pl en (by omega) (by omega) (by omega)) _) (cwV 2 hts gX0_force_X0_needPlace rfl rfl rfl (by decide +kernel) ⟨Nat.le_of_ble_eq_true rfl, Nat.le_of_ble_eq_true rfl⟩) (pV_B hP hD hK (ci := 0) (q0 := 0) rfl rfl rfl [0, 1] rfl [0, 1, 2, 3, 4, 5, 6] rfl rfl) rfl rfl hl.1 rfl (lv_room (Nat.le_of_ble_eq_true rfl)) dX0_force_10 ⟨Nat.le_of_ble_eq_true rfl, Nat.le_of_ble_eq_true rfl⟩) [0, 1, 2, 3, 4, 5, 6] [] rfl rfl rfl (by decide) (fun H locs hP hD hS => ?_)
  have hP : va_P D vwCl (wC h0 a0 a1 a2 a3 a4 a5 cI cZ bf pw hs lo lg rt nb (nI fi) (nI fo) (nI en) 1 cu ma) H := hP
  have hD : va_D A (wC h0 a0 a1 a2 a3 a4 a5 cI cZ bf pw hs lo lg rt nb (nI fi) (nI fo) (nI en) 1 cu ma) := hD
  refine lv_aload_n hx hb dX0_force_13 rfl (lv_at hl 0 rfl) ?_
  refine va_get (ci := 0) (v := .int (nI fo)) (C := RX0) (T := TX0) (N := 13) hx hb hts inX0_force hown hK hP 0 rfl rfl 7 (by decide) (hts _ flX0_force_96) (fun _ h9 => h9) rfl dX0_force_14 ?_
  refine lv_istore_n (lv' := [(2, .int (nI fo)), (0, .ref h0), (1, .int (nI pl))]) hx hb dX0_force_17 rfl hl (by decide) rfl (fun ls hl => ?_)
  refine lv_aload_n hx hb dX0_force_18 rfl (lv_at hl 1 rfl) ?_
  refine va_get (ci := 0) (v := .int (nI fo)) (C := RX0) (T := TX0) (N := 13) hx hb hts inX0_force hown hK hP 0 rfl rfl 7 (by decide) (hts _ flX0_force_96) (fun _ h9 => h9) rfl dX0_force_19 ?_
  refine lv_iload_n hx hb dX0_force_22 rfl (lv_at hl 2 rfl) ?_
  refine n_ge (tgt := 48) hx hb (by omega) (by omega) dX0_force_23 (by decide) (fun c_23 => ?_) (fun c_23 => absurd c_23 (by omega))
  refine lv_aload_n hx hb dX0_force_48 rfl (lv_at hl 1 rfl) ?_
  refine va_get (ci := 0) (v := .int (nI fo)) (C := RX0) (T := TX0) (N := 13) hx hb hts inX0_force hown hK hP 0 rfl rfl 7 (by decide) (hts _ flX0_force_96) (fun _ h9 => h9) rfl dX0_force_49 ?_
  refine lv_iload_n hx hb dX0_force_52 rfl (lv_at hl 0 rfl) ?_
  refine n_isub hx hb (by omega) dX0_force_53 ?_
  exact e_I hx hb hr hlocks hP hD hS (by rw [Nat.sub_self]; rfl) dX0_force_54
set_option maxHeartbeats 4000000 in
set_option maxRecDepth 100000 in
theorem tX0_readLog_xb {l : Launch} {D : va_G} {cI cZ : ClassId} {h0 a0 a1 a2 a3 a4 a5 : Nat} (hl0 : l.stackTraces = false) (bf pw hs lo lg rt : Nat → Int32) (nb : Int32) (fi fo en : Nat) (cu ma : Int32) (x y : Int32) (h : badR fi en x y) : RX l yX0_readLog wsX0_readLog 8 D (tyC cI cZ) (wC h0 a0 a1 a2 a3 a4 a5 cI cZ bf pw hs lo lg rt nb (nI fi) (nI fo) (nI en) 1 cu ma) [.ref h0, .int x, .int y] xIAE := by
  refine st_X (cc := cX0_readLog) (maxL := 4) (ret := none) (by decide +kernel) rfl (Nat.le_of_ble_eq_true rfl) ?_
  intro p e s m below meth c A hx hb hr hts hown hml hlocks hK hP hD hA hS ls hl hT hex
  have hown : s.vm.findClass RX0 = some m.cls := hown
  have hl : lv_has ls 4 [(0, .ref h0), (1, .int x), (2, .int y)] := hl
  rcases h with h | ⟨k, h1, h2, rfl, h⟩
  · refine lv_aload_n hx hb dX0_readLog_0 rfl (lv_at hl 0 rfl) ?_
    refine k_V (wr := []) hP hD hS hA (va_runV (As := []) (rest := []) ⟨hx, hb, hml, hown, hts⟩ ((tX0_needPower_ok bf pw hs lo lg rt nb fi fo en cu ma) _) (cwV 0 hts gX0_readLog_X0_needPower rfl rfl rfl (by decide +kernel) ⟨Nat.le_of_ble_eq_true rfl, Nat.le_of_ble_eq_true rfl⟩) (pV_B hP hD hK (ci := 0) (q0 := 0) rfl rfl rfl [0, 1] rfl [0, 1, 2, 3, 4, 5, 6] rfl rfl) rfl rfl hl.1 rfl (lv_room (Nat.le_of_ble_eq_true rfl)) dX0_readLog_1 ⟨Nat.le_of_ble_eq_true rfl, Nat.le_of_ble_eq_true rfl⟩) [0, 1, 2, 3, 4, 5, 6] [] rfl rfl rfl (by decide) (fun H locs hP hD hS => ?_)
    have hP : va_P D vwCl (wC h0 a0 a1 a2 a3 a4 a5 cI cZ bf pw hs lo lg rt nb (nI fi) (nI fo) (nI en) 1 cu ma) H := hP
    have hD : va_D A (wC h0 a0 a1 a2 a3 a4 a5 cI cZ bf pw hs lo lg rt nb (nI fi) (nI fo) (nI en) 1 cu ma) := hD
    refine lv_iload_n hx hb dX0_readLog_4 rfl (lv_at hl 2 rfl) ?_
    exact k_XX hlocks hex (Nat.le_of_ble_eq_true rfl) (Nat.le_of_ble_eq_true rfl) (wr := wC h0 a0 a1 a2 a3 a4 a5 cI cZ bf pw hs lo lg rt nb (nI fi) (nI fo) (nI en) 1 cu ma) hP hD hS hA (vx_runS (As := [.int y]) (rest := []) ⟨hx, hb, hml, hown, hts⟩ ((tX0_needWordCount_x hl0 y h) _) (va_cwS 1 hts gX0_readLog_X0_needWordCount rfl rfl rfl (by decide +kernel) ⟨Nat.le_of_ble_eq_true rfl, Nat.le_of_ble_eq_true rfl⟩) (pS_X hP hD hK hS hA hT [] rfl [] rfl rfl) rfl rfl hl.1 rfl (lv_room (Nat.le_of_ble_eq_true rfl)) dX0_readLog_5 ⟨Nat.le_of_ble_eq_true rfl, Nat.le_of_ble_eq_true rfl⟩) [] [0, 1, 2, 3, 4, 5, 6] rfl rfl rfl (by decide)
  · refine lv_aload_n hx hb dX0_readLog_0 rfl (lv_at hl 0 rfl) ?_
    refine k_V (wr := []) hP hD hS hA (va_runV (As := []) (rest := []) ⟨hx, hb, hml, hown, hts⟩ ((tX0_needPower_ok bf pw hs lo lg rt nb fi fo en cu ma) _) (cwV 0 hts gX0_readLog_X0_needPower rfl rfl rfl (by decide +kernel) ⟨Nat.le_of_ble_eq_true rfl, Nat.le_of_ble_eq_true rfl⟩) (pV_B hP hD hK (ci := 0) (q0 := 0) rfl rfl rfl [0, 1] rfl [0, 1, 2, 3, 4, 5, 6] rfl rfl) rfl rfl hl.1 rfl (lv_room (Nat.le_of_ble_eq_true rfl)) dX0_readLog_1 ⟨Nat.le_of_ble_eq_true rfl, Nat.le_of_ble_eq_true rfl⟩) [0, 1, 2, 3, 4, 5, 6] [] rfl rfl rfl (by decide) (fun H locs hP hD hS => ?_)
    have hP : va_P D vwCl (wC h0 a0 a1 a2 a3 a4 a5 cI cZ bf pw hs lo lg rt nb (nI fi) (nI fo) (nI en) 1 cu ma) H := hP
    have hD : va_D A (wC h0 a0 a1 a2 a3 a4 a5 cI cZ bf pw hs lo lg rt nb (nI fi) (nI fo) (nI en) 1 cu ma) := hD
    refine lv_iload_n hx hb dX0_readLog_4 rfl (lv_at hl 2 rfl) ?_
    refine k_V (wr := wC h0 a0 a1 a2 a3 a4 a5 cI cZ bf pw hs lo lg rt nb (nI fi) (nI fo) (nI en) 1 cu ma) hP hD hS hA (va_runS (As := [.int (nI k)]) (rest := []) ⟨hx, hb, hml, hown, hts⟩ ((tX0_needWordCount_ok k (by omega) (by omega)) _) (va_cwS 1 hts gX0_readLog_X0_needWordCount rfl rfl rfl (by decide +kernel) ⟨Nat.le_of_ble_eq_true rfl, Nat.le_of_ble_eq_true rfl⟩) (pS_B hP hD hK [] rfl [] rfl rfl) rfl rfl hl.1 rfl (lv_room (Nat.le_of_ble_eq_true rfl)) dX0_readLog_5 ⟨Nat.le_of_ble_eq_true rfl, Nat.le_of_ble_eq_true rfl⟩) [] [0, 1, 2, 3, 4, 5, 6] rfl rfl rfl (by decide) (fun H locs hP hD hS => ?_)
    have hP : va_P D vwCl (wC h0 a0 a1 a2 a3 a4 a5 cI cZ bf pw hs lo lg rt nb (nI fi) (nI fo) (nI en) 1 cu ma) H := hP
    have hD : va_D A (wC h0 a0 a1 a2 a3 a4 a5 cI cZ bf pw hs lo lg rt nb (nI fi) (nI fo) (nI en) 1 cu ma) := hD
    refine lv_aload_n hx hb dX0_readLog_8 rfl (lv_at hl 0 rfl) ?_
    refine lv_iload_n hx hb dX0_readLog_9 rfl (lv_at hl 1 rfl) ?_
    refine lv_aload_n hx hb dX0_readLog_10 rfl (lv_at hl 0 rfl) ?_
    refine va_get (ci := 0) (v := .int (nI en)) (C := RX0) (T := TX0) (N := 13) hx hb hts inX0_readLog hown hK hP 0 rfl rfl 8 (by decide) (hts _ flX0_readLog_84) (fun _ h9 => h9) rfl dX0_readLog_11 ?_
    refine lv_iload_n hx hb dX0_readLog_14 rfl (lv_at hl 2 rfl) ?_
    refine lv_isub hx hb dX0_readLog_15 ?_
    exact k_XX hlocks hex (Nat.le_of_ble_eq_true rfl) (Nat.le_of_ble_eq_true rfl) (wr := []) hP hD hS hA (vx_runV (As := [.int x, .int ((nI en) - (nI k))]) (rest := []) ⟨hx, hb, hml, hown, hts⟩ ((tX0_needPlace_x hl0 bf pw hs lo lg rt nb fi fo en 1 cu ma x (nI en - nI k) h) _) (cwV 2 hts gX0_readLog_X0_needPlace rfl rfl rfl (by decide +kernel) ⟨Nat.le_of_ble_eq_true rfl, Nat.le_of_ble_eq_true rfl⟩) (pV_X hP hD hK hS hA hT (ci := 0) (q0 := 0) rfl rfl rfl [0, 1] rfl [0, 1, 2, 3, 4, 5, 6] rfl rfl) rfl rfl hl.1 rfl (lv_room (Nat.le_of_ble_eq_true rfl)) dX0_readLog_16 ⟨Nat.le_of_ble_eq_true rfl, Nat.le_of_ble_eq_true rfl⟩) [0, 1, 2, 3, 4, 5, 6] [] rfl rfl rfl (by decide)
set_option maxHeartbeats 4000000 in
set_option maxRecDepth 100000 in
theorem tX0_readLog_ok {l : Launch} {D : va_G} {cI cZ : ClassId} {h0 a0 a1 a2 a3 a4 a5 : Nat} (bf pw hs lo lg rt : Nat → Int32) (nb : Int32) (fi fo en : Nat) (cu ma : Int32) (pl k : Nat) (hk : 1 ≤ k) (hk2 : k ≤ 64) (h1 : fi ≤ pl) (h2 : pl + k ≤ en) (he : en ≤ 60000) : RV l yX0_readLog wsX0_readLog 8 0 0 D (tyC cI cZ) (wC h0 a0 a1 a2 a3 a4 a5 cI cZ bf pw hs lo lg rt nb (nI fi) (nI fo) (nI en) 1 cu ma) [.ref h0, .int (nI pl), .int (nI k)] (wC h0 a0 a1 a2 a3 a4 a5 cI cZ (fl (fun j => lg ((pl + j) % 65536)) k bf) pw hs lo lg rt nb (nI fi) (nI fo) (nI en) 1 cu ma) := by
  refine st_V (cc := cX0_readLog) (maxL := 4) (ret := none) (by decide +kernel) rfl (Nat.le_of_ble_eq_true rfl) ?_
  intro p e s m below meth c A hx hb hr hts hown hml hlocks hK hP hD hA hS ls hl
  have hown : s.vm.findClass RX0 = some m.cls := hown
  have hl : lv_has ls 4 [(0, .ref h0), (1, .int (nI pl)), (2, .int (nI k))] := hl
  refine lv_aload_n hx hb dX0_readLog_0 rfl (lv_at hl 0 rfl) ?_
  refine k_V (wr := []) hP hD hS hA (va_runV (As := []) (rest := []) ⟨hx, hb, hml, hown, hts⟩ ((tX0_needPower_ok bf pw hs lo lg rt nb fi fo en cu ma) _) (cwV 0 hts gX0_readLog_X0_needPower rfl rfl rfl (by decide +kernel) ⟨Nat.le_of_ble_eq_true rfl, Nat.le_of_ble_eq_true rfl⟩) (pV_B hP hD hK (ci := 0) (q0 := 0) rfl rfl rfl [0, 1] rfl [0, 1, 2, 3, 4, 5, 6] rfl rfl) rfl rfl hl.1 rfl (lv_room (Nat.le_of_ble_eq_true rfl)) dX0_readLog_1 ⟨Nat.le_of_ble_eq_true rfl, Nat.le_of_ble_eq_true rfl⟩) [0, 1, 2, 3, 4, 5, 6] [] rfl rfl rfl (by decide) (fun H locs hP hD hS => ?_)
  have hP : va_P D vwCl (wC h0 a0 a1 a2 a3 a4 a5 cI cZ bf pw hs lo lg rt nb (nI fi) (nI fo) (nI en) 1 cu ma) H := hP
  have hD : va_D A (wC h0 a0 a1 a2 a3 a4 a5 cI cZ bf pw hs lo lg rt nb (nI fi) (nI fo) (nI en) 1 cu ma) := hD
  refine lv_iload_n hx hb dX0_readLog_4 rfl (lv_at hl 2 rfl) ?_
  refine k_V (wr := wC h0 a0 a1 a2 a3 a4 a5 cI cZ bf pw hs lo lg rt nb (nI fi) (nI fo) (nI en) 1 cu ma) hP hD hS hA (va_runS (As := [.int (nI k)]) (rest := []) ⟨hx, hb, hml, hown, hts⟩ ((tX0_needWordCount_ok k (by omega) (by omega)) _) (va_cwS 1 hts gX0_readLog_X0_needWordCount rfl rfl rfl (by decide +kernel) ⟨Nat.le_of_ble_eq_true rfl, Nat.le_of_ble_eq_true rfl⟩) (pS_B hP hD hK [] rfl [] rfl rfl) rfl rfl hl.1 rfl (lv_room (Nat.le_of_ble_eq_true rfl)) dX0_readLog_5 ⟨Nat.le_of_ble_eq_true rfl, Nat.le_of_ble_eq_true rfl⟩) [] [0, 1, 2, 3, 4, 5, 6] rfl rfl rfl (by decide) (fun H locs hP hD hS => ?_)
  have hP : va_P D vwCl (wC h0 a0 a1 a2 a3 a4 a5 cI cZ bf pw hs lo lg rt nb (nI fi) (nI fo) (nI en) 1 cu ma) H := hP
  have hD : va_D A (wC h0 a0 a1 a2 a3 a4 a5 cI cZ bf pw hs lo lg rt nb (nI fi) (nI fo) (nI en) 1 cu ma) := hD
  refine lv_aload_n hx hb dX0_readLog_8 rfl (lv_at hl 0 rfl) ?_
  refine lv_iload_n hx hb dX0_readLog_9 rfl (lv_at hl 1 rfl) ?_
  refine lv_aload_n hx hb dX0_readLog_10 rfl (lv_at hl 0 rfl) ?_
  refine va_get (ci := 0) (v := .int (nI en)) (C := RX0) (T := TX0) (N := 13) hx hb hts inX0_readLog hown hK hP 0 rfl rfl 8 (by decide) (hts _ flX0_readLog_84) (fun _ h9 => h9) rfl dX0_readLog_11 ?_
  refine lv_iload_n hx hb dX0_readLog_14 rfl (lv_at hl 2 rfl) ?_
  refine n_isub hx hb (by omega) dX0_readLog_15 ?_
  refine k_V (wr := []) hP hD hS hA (va_runV (As := [.int (nI pl), .int (nI (en - k))]) (rest := []) ⟨hx, hb, hml, hown, hts⟩ ((tX0_needPlace_ok bf pw hs lo lg rt nb fi fo en 1 cu ma pl (en - k) (by omega) (by omega) (by omega)) _) (cwV 2 hts gX0_readLog_X0_needPlace rfl rfl rfl (by decide +kernel) ⟨Nat.le_of_ble_eq_true rfl, Nat.le_of_ble_eq_true rfl⟩) (pV_B hP hD hK (ci := 0) (q0 := 0) rfl rfl rfl [0, 1] rfl [0, 1, 2, 3, 4, 5, 6] rfl rfl) rfl rfl hl.1 rfl (lv_room (Nat.le_of_ble_eq_true rfl)) dX0_readLog_16 ⟨Nat.le_of_ble_eq_true rfl, Nat.le_of_ble_eq_true rfl⟩) [0, 1, 2, 3, 4, 5, 6] [] rfl rfl rfl (by decide) (fun H locs hP hD hS => ?_)
  have hP : va_P D vwCl (wC h0 a0 a1 a2 a3 a4 a5 cI cZ bf pw hs lo lg rt nb (nI fi) (nI fo) (nI en) 1 cu ma) H := hP
  have hD : va_D A (wC h0 a0 a1 a2 a3 a4 a5 cI cZ bf pw hs lo lg rt nb (nI fi) (nI fo) (nI en) 1 cu ma) := hD
  refine lv_iconst (v := (nI 0)) hx hb dX0_readLog_19 (by decide) ?_
  refine lv_istore_n (lv' := [(3, .int (nI 0)), (0, .ref h0), (1, .int (nI pl)), (2, .int (nI k))]) hx hb dX0_readLog_20 rfl hl (by decide) rfl (fun ls hl => ?_)
  have lp_21 : ∀ (n9 i : Nat), i + n9 = k → ∀ (H : Heap) (locs : List Loc) (ls : Array Slot), va_P D vwCl (wC h0 a0 a1 a2 a3 a4 a5 cI cZ (fl (fun j => lg ((pl + j) % 65536)) i bf) pw hs lo lg rt nb (nI fi) (nI fo) (nI en) 1 cu ma) H → va_D A (wC h0 a0 a1 a2 a3 a4 a5 cI cZ (fl (fun j => lg ((pl + j) % 65536)) i bf) pw hs lo lg rt nb (nI fi) (nI fo) (nI en) 1 cu ma) → va_S A s.heap H locs → lv_has ls 4 [(0, .ref h0), (1, .int (nI pl)), (2, .int (nI k)), (3, .int (nI i))] → W p l e (rmL 8 0 0) s m ([.ref h0, .int (nI pl), .int (nI k)] : List Value).toArray below meth c H locs 0 0 (MQ below (qcV D A (wC h0 a0 a1 a2 a3 a4 a5 cI cZ (fl (fun j => lg ((pl + j) % 65536)) k bf) pw hs lo lg rt nb (nI fi) (nI fo) (nI en) 1 cu ma)) ([.ref h0, .int (nI pl), .int (nI k)] : List Value).toArray s 0 0 A) (F0 m 21 ls []) := by
    intro n9
    induction n9 with
    | zero =>
      intro i hi H locs ls hP hD hS hl
      obtain rfl : k = i := by omega
      refine lv_iload_n hx hb dX0_readLog_21 rfl (lv_at hl 3 rfl) ?_
      refine lv_iload_n hx hb dX0_readLog_22 rfl (lv_at hl 2 rfl) ?_
      refine n_ge (tgt := 49) hx hb (by omega) (by omega) dX0_readLog_23 (by decide) (fun c_23 => ?_) (fun c_23 => absurd c_23 (by omega))
      exact e_V hx hb hr hlocks hP hD hS dX0_readLog_49
    | succ n9 ih =>
      intro i hi H locs ls hP hD hS hl
      refine lv_iload_n hx hb dX0_readLog_21 rfl (lv_at hl 3 rfl) ?_
      refine lv_iload_n hx hb dX0_readLog_22 rfl (lv_at hl 2 rfl) ?_
      refine n_ge (tgt := 49) hx hb (by omega) (by omega) dX0_readLog_23 (by decide) (fun c_23 => absurd c_23 (by omega)) (fun c_23 => ?_)
      refine lv_aload_n hx hb dX0_readLog_26 rfl (lv_at hl 0 rfl) ?_
      refine va_get (ci := 0) (v := .ref a0) (C := RX0) (T := TX0) (N := 13) hx hb hts inX0_readLog hown hK hP 0 rfl rfl 0 (by decide) (hts _ flX0_readLog_9) (fun _ h9 => h9) rfl dX0_readLog_27 ?_
      refine lv_iload_n hx hb dX0_readLog_30 rfl (lv_at hl 3 rfl) ?_
      refine lv_aload_n hx hb dX0_readLog_31 rfl (lv_at hl 0 rfl) ?_
      refine va_get (ci := 0) (v := .ref a4) (C := RX0) (T := TX0) (N := 13) hx hb hts inX0_readLog hown hK hP 0 rfl rfl 5 (by decide) (hts _ flX0_readLog_25) (fun _ h9 => h9) rfl dX0_readLog_32 ?_
      refine lv_iload_n hx hb dX0_readLog_35 rfl (lv_at hl 1 rfl) ?_
      refine lv_iload_n hx hb dX0_readLog_36 rfl (lv_at hl 3 rfl) ?_
      refine n_iadd hx hb dX0_readLog_37 ?_
      refine k_I (wr := wC h0 a0 a1 a2 a3 a4 a5 cI cZ (fl (fun j => lg ((pl + j) % 65536)) i bf) pw hs lo lg rt nb (nI fi) (nI fo) (nI en) 1 cu ma) hP hD hS hA (va_runS (As := [.int (nI (pl + i))]) (rest := [.ref a4, .int (nI i), .ref a0]) ⟨hx, hb, hml, hown, hts⟩ ((tX0_logSlot (pl + i) (by omega)) _) (va_cwS 1 hts gX0_readLog_X0_logSlot rfl rfl rfl (by decide +kernel) ⟨Nat.le_of_ble_eq_true rfl, Nat.le_of_ble_eq_true rfl⟩) (pS_B hP hD hK [] rfl [] rfl rfl) rfl rfl hl.1 rfl (lv_room (Nat.le_of_ble_eq_true rfl)) dX0_readLog_38 ⟨Nat.le_of_ble_eq_true rfl, Nat.le_of_ble_eq_true rfl⟩) [] [0, 1, 2, 3, 4, 5, 6] rfl rfl rfl (by decide) (fun H locs hP hD hS => ?_)
      have hP : va_P D vwCl (wC h0 a0 a1 a2 a3 a4 a5 cI cZ (fl (fun j => lg ((pl + j) % 65536)) i bf) pw hs lo lg rt nb (nI fi) (nI fo) (nI en) 1 cu ma) H := hP
      have hD : va_D A (wC h0 a0 a1 a2 a3 a4 a5 cI cZ (fl (fun j => lg ((pl + j) % 65536)) i bf) pw hs lo lg rt nb (nI fi) (nI fo) (nI en) 1 cu ma) := hD
      refine n_iald hx hb hK hP 5 0 rfl rfl ((pl + i) % 65536) (by omega) (by omega) dX0_readLog_41 ?_
      refine n_iast hx hb hK hP hD hS 1 0 rfl rfl i (by omega) (by omega) dX0_readLog_42 (fun H locs hP hD hS => ?_)
      have hP : va_P D vwCl (wC h0 a0 a1 a2 a3 a4 a5 cI cZ (upd (fl (fun j => lg ((pl + j) % 65536)) i bf) i (lg ((pl + i) % 65536))) pw hs lo lg rt nb (nI fi) (nI fo) (nI en) 1 cu ma) H := hP
      have hD : va_D A (wC h0 a0 a1 a2 a3 a4 a5 cI cZ (upd (fl (fun j => lg ((pl + j) % 65536)) i bf) i (lg ((pl + i) % 65536))) pw hs lo lg rt nb (nI fi) (nI fo) (nI en) 1 cu ma) := hD
      refine n_iinc (lv' := [(3, .int (nI (i + 1))), (0, .ref h0), (1, .int (nI pl)), (2, .int (nI k))]) hx hb dX0_readLog_43 hl (k := 3) rfl (by decide) rfl (fun ls hl => ?_)
      refine lv_goto (tgt := 21) hx hb dX0_readLog_46 (by decide) ?_
      have hP : va_P D vwCl (wC h0 a0 a1 a2 a3 a4 a5 cI cZ (fl (fun j => lg ((pl + j) % 65536)) (i + 1) bf) pw hs lo lg rt nb (nI fi) (nI fo) (nI en) 1 cu ma) H := by rw [← fl_s]; exact hP
      have hD : va_D A (wC h0 a0 a1 a2 a3 a4 a5 cI cZ (fl (fun j => lg ((pl + j) % 65536)) (i + 1) bf) pw hs lo lg rt nb (nI fi) (nI fo) (nI en) 1 cu ma) := by rw [← fl_s]; exact hD
      exact ih (i + 1) (by omega) _ _ _ hP hD hS (lv_sub hl [1, 2, 3, 0] rfl)
  have hP : va_P D vwCl (wC h0 a0 a1 a2 a3 a4 a5 cI cZ (fl (fun j => lg ((pl + j) % 65536)) 0 bf) pw hs lo lg rt nb (nI fi) (nI fo) (nI en) 1 cu ma) H := by rw [fl_0]; exact hP
  have hD : va_D A (wC h0 a0 a1 a2 a3 a4 a5 cI cZ (fl (fun j => lg ((pl + j) % 65536)) 0 bf) pw hs lo lg rt nb (nI fi) (nI fo) (nI en) 1 cu ma) := by rw [fl_0]; exact hD
  exact lp_21 k 0 (by omega) _ _ _ hP hD hS (lv_sub hl [1, 2, 3, 0] rfl)
set_option maxHeartbeats 4000000 in
set_option maxRecDepth 100000 in
theorem tX0_giveBack_xb {l : Launch} {D : va_G} {cI cZ : ClassId} {h0 a0 a1 a2 a3 a4 a5 : Nat} (hl0 : l.stackTraces = false) (bf pw hs lo lg rt : Nat → Int32) (nb : Int32) (fi fo en : Nat) (cu ma : Int32) (x : Int32) (h : x < nI fi ∨ nI fo < x) : RX l yX0_giveBack wsX0_giveBack 8 D (tyC cI cZ) (wC h0 a0 a1 a2 a3 a4 a5 cI cZ bf pw hs lo lg rt nb (nI fi) (nI fo) (nI en) 1 cu ma) [.ref h0, .int x] xIAE := by
  refine st_X (cc := cX0_giveBack) (maxL := 2) (ret := none) (by decide +kernel) rfl (Nat.le_of_ble_eq_true rfl) ?_
  intro p e s m below meth c A hx hb hr hts hown hml hlocks hK hP hD hA hS ls hl hT hex
  have hown : s.vm.findClass RX0 = some m.cls := hown
  have hl : lv_has ls 2 [(0, .ref h0), (1, .int x)] := hl
  refine lv_aload_n hx hb dX0_giveBack_0 rfl (lv_at hl 0 rfl) ?_
  refine k_V (wr := []) hP hD hS hA (va_runV (As := []) (rest := []) ⟨hx, hb, hml, hown, hts⟩ ((tX0_needPower_ok bf pw hs lo lg rt nb fi fo en cu ma) _) (cwV 0 hts gX0_giveBack_X0_needPower rfl rfl rfl (by decide +kernel) ⟨Nat.le_of_ble_eq_true rfl, Nat.le_of_ble_eq_true rfl⟩) (pV_B hP hD hK (ci := 0) (q0 := 0) rfl rfl rfl [0, 1] rfl [0, 1, 2, 3, 4, 5, 6] rfl rfl) rfl rfl hl.1 rfl (lv_room (Nat.le_of_ble_eq_true rfl)) dX0_giveBack_1 ⟨Nat.le_of_ble_eq_true rfl, Nat.le_of_ble_eq_true rfl⟩) [0, 1, 2, 3, 4, 5, 6] [] rfl rfl rfl (by decide) (fun H locs hP hD hS => ?_)
  have hP : va_P D vwCl (wC h0 a0 a1 a2 a3 a4 a5 cI cZ bf pw hs lo lg rt nb (nI fi) (nI fo) (nI en) 1 cu ma) H := hP
  have hD : va_D A (wC h0 a0 a1 a2 a3 a4 a5 cI cZ bf pw hs lo lg rt nb (nI fi) (nI fo) (nI en) 1 cu ma) := hD
  refine lv_aload_n hx hb dX0_giveBack_4 rfl (lv_at hl 0 rfl) ?_
  refine lv_iload_n hx hb dX0_giveBack_5 rfl (lv_at hl 1 rfl) ?_
  refine lv_aload_n hx hb dX0_giveBack_6 rfl (lv_at hl 0 rfl) ?_
  refine va_get (ci := 0) (v := .int (nI fo)) (C := RX0) (T := TX0) (N := 13) hx hb hts inX0_giveBack hown hK hP 0 rfl rfl 7 (by decide) (hts _ flX0_giveBack_96) (fun _ h9 => h9) rfl dX0_giveBack_7 ?_
  exact k_XX hlocks hex (Nat.le_of_ble_eq_true rfl) (Nat.le_of_ble_eq_true rfl) (wr := []) hP hD hS hA (vx_runV (As := [.int x, .int (nI fo)]) (rest := []) ⟨hx, hb, hml, hown, hts⟩ ((tX0_needPlace_x hl0 bf pw hs lo lg rt nb fi fo en 1 cu ma x (nI fo) h) _) (cwV 2 hts gX0_giveBack_X0_needPlace rfl rfl rfl (by decide +kernel) ⟨Nat.le_of_ble_eq_true rfl, Nat.le_of_ble_eq_true rfl⟩) (pV_X hP hD hK hS hA hT (ci := 0) (q0 := 0) rfl rfl rfl [0, 1] rfl [0, 1, 2, 3, 4, 5, 6] rfl rfl) rfl rfl hl.1 rfl (lv_room (Nat.le_of_ble_eq_true rfl)) dX0_giveBack_10 ⟨Nat.le_of_ble_eq_true rfl, Nat.le_of_ble_eq_true rfl⟩) [0, 1, 2, 3, 4, 5, 6] [] rfl rfl rfl (by decide)
set_option maxHeartbeats 4000000 in
set_option maxRecDepth 100000 in
theorem tX0_giveBack_ok {l : Launch} {D : va_G} {cI cZ : ClassId} {h0 a0 a1 a2 a3 a4 a5 : Nat} (bf pw hs lo lg rt : Nat → Int32) (nb : Int32) (fi fo en : Nat) (cu ma : Int32) (pl : Nat) (h1 : fi ≤ pl) (h2 : pl ≤ fo) (h3 : fo ≤ 60000) : RV l yX0_giveBack wsX0_giveBack 8 0 0 D (tyC cI cZ) (wC h0 a0 a1 a2 a3 a4 a5 cI cZ bf pw hs lo lg rt nb (nI fi) (nI fo) (nI en) 1 cu ma) [.ref h0, .int (nI pl)] (wC h0 a0 a1 a2 a3 a4 a5 cI cZ bf pw hs lo lg rt nb (nI pl) (nI fo) (nI en) 1 cu ma) := by
  refine st_V (cc := cX0_giveBack) (maxL := 2) (ret := none) (by decide +kernel) rfl (Nat.le_of_ble_eq_true rfl) ?_
  intro p e s m below meth c A hx hb hr hts hown hml hlocks hK hP hD hA hS ls hl
  have hown : s.vm.findClass RX0 = some m.cls := hown
  have hl : lv_has ls 2 [(0, .ref h0), (1, .int (nI pl))] := hl
  refine lv_aload_n hx hb dX0_giveBack_0 rfl (lv_at hl 0 rfl) ?_
  refine k_V (wr := []) hP hD hS hA (va_runV (As := []) (rest := []) ⟨hx, hb, hml, hown, hts⟩ ((tX0_needPower_ok bf pw hs lo lg rt nb fi fo en cu ma) _) (cwV 0 hts gX0_giveBack_X0_needPower rfl rfl rfl (by decide +kernel) ⟨Nat.le_of_ble_eq_true rfl, Nat.le_of_ble_eq_true rfl⟩) (pV_B hP hD hK (ci := 0) (q0 := 0) rfl rfl rfl [0, 1] rfl [0, 1, 2, 3, 4, 5, 6] rfl rfl) rfl rfl hl.1 rfl (lv_room (Nat.le_of_ble_eq_true rfl)) dX0_giveBack_1 ⟨Nat.le_of_ble_eq_true rfl, Nat.le_of_ble_eq_true rfl⟩) [0, 1, 2, 3, 4, 5, 6] [] rfl rfl rfl (by decide) (fun H locs hP hD hS => ?_)
  have hP : va_P D vwCl (wC h0 a0 a1 a2 a3 a4 a5 cI cZ bf pw hs lo lg rt nb (nI fi) (nI fo) (nI en) 1 cu ma) H := hP
  have hD : va_D A (wC h0 a0 a1 a2 a3 a4 a5 cI cZ bf pw hs lo lg rt nb (nI fi) (nI fo) (nI en) 1 cu ma) := hD
  refine lv_aload_n hx hb dX0_giveBack_4 rfl (lv_at hl 0 rfl) ?_
  refine lv_iload_n hx hb dX0_giveBack_5 rfl (lv_at hl 1 rfl) ?_
  refine lv_aload_n hx hb dX0_giveBack_6 rfl (lv_at hl 0 rfl) ?_
  refine va_get (ci := 0) (v := .int (nI fo)) (C := RX0) (T := TX0) (N := 13) hx hb hts inX0_giveBack hown hK hP 0 rfl rfl 7 (by decide) (hts _ flX0_giveBack_96) (fun _ h9 => h9) rfl dX0_giveBack_7 ?_
  refine k_V (wr := []) hP hD hS hA (va_runV (As := [.int (nI pl), .int (nI fo)]) (rest := []) ⟨hx, hb, hml, hown, hts⟩ ((tX0_needPlace_ok bf pw hs lo lg rt nb fi fo en 1 cu ma pl fo (by omega) (by omega) (by omega)) _) (cwV 2 hts gX0_giveBack_X0_needPlace rfl rfl rfl (by decide +kernel) ⟨Nat.le_of_ble_eq_true rfl, Nat.le_of_ble_eq_true rfl⟩) (pV_B hP hD hK (ci := 0) (q0 := 0) rfl rfl rfl [0, 1] rfl [0, 1, 2, 3, 4, 5, 6] rfl rfl) rfl rfl hl.1 rfl (lv_room (Nat.le_of_ble_eq_true rfl)) dX0_giveBack_10 ⟨Nat.le_of_ble_eq_true rfl, Nat.le_of_ble_eq_true rfl⟩) [0, 1, 2, 3, 4, 5, 6] [] rfl rfl rfl (by decide) (fun H locs hP hD hS => ?_)
  have hP : va_P D vwCl (wC h0 a0 a1 a2 a3 a4 a5 cI cZ bf pw hs lo lg rt nb (nI fi) (nI fo) (nI en) 1 cu ma) H := hP
  have hD : va_D A (wC h0 a0 a1 a2 a3 a4 a5 cI cZ bf pw hs lo lg rt nb (nI fi) (nI fo) (nI en) 1 cu ma) := hD
  refine lv_aload_n hx hb dX0_giveBack_13 rfl (lv_at hl 0 rfl) ?_
  refine lv_iload_n hx hb dX0_giveBack_14 rfl (lv_at hl 1 rfl) ?_
  refine va_put (ci := 0) (v := .int (nI pl)) (ty := .int) (C := RX0) (T := TX0) (N := 13) hx hb hts inX0_giveBack tyX0 tyX0_ok nmX0 hown hK hP hD hS 0 rfl rfl 6 (by decide) (hts _ flX0_giveBack_87) (fun _ h9 => h9) rfl (by decide +kernel) rfl rfl (Nat.le_of_ble_eq_true rfl) dX0_giveBack_15 (fun H locs hP hD hS => ?_)
  have hP : va_P D vwCl (wC h0 a0 a1 a2 a3 a4 a5 cI cZ bf pw hs lo lg rt nb (nI pl) (nI fo) (nI en) 1 cu ma) H := hP
  have hD : va_D A (wC h0 a0 a1 a2 a3 a4 a5 cI cZ bf pw hs lo lg rt nb (nI pl) (nI fo) (nI en) 1 cu ma) := hD
  exact e_V hx hb hr hlocks hP hD hS dX0_giveBack_18
set_option maxHeartbeats 4000000 in
set_option maxRecDepth 100000 in
theorem tX0_log_ok0 {l : Launch} {D : va_G} {cI cZ : ClassId} {h0 a0 a1 a2 a3 a4 a5 : Nat} (bf pw hs lo lg rt : Nat → Int32) (nb : Int32) (fi fo en : Nat) (on cu ma : Int32) : RI l yX0_log wsX0_log 8 0 0 D (tyC cI cZ) (wC h0 a0 a1 a2 a3 a4 a5 cI cZ bf pw hs lo lg rt nb (nI fi) (nI fo) (nI en) on cu ma) [.ref h0, .int (nI 0)] (nI fi) (wC h0 a0 a1 a2 a3 a4 a5 cI cZ bf pw hs lo lg rt nb (nI fi) (nI fo) (nI en) on cu ma) := by
  refine st_I (cc := cX0_log) (maxL := 2) (ret := (some .int)) (by decide +kernel) rfl (Nat.le_of_ble_eq_true rfl) ?_
  intro p e s m below meth c A hx hb hr hts hown hml hlocks hK hP hD hA hS ls hl
  have hown : s.vm.findClass RX0 = some m.cls := hown
  have hl : lv_has ls 2 [(0, .ref h0), (1, .int (nI 0))] := hl
  refine lv_iload_n hx hb dX0_log_0 rfl (lv_at hl 1 rfl) ?_
  refine lv_tableIn (off := 27) (tgt := 28) hx hb dX0_log_1 (by decide) (by decide) (by decide) (by decide) ?_
  refine lv_aload_n hx hb dX0_log_28 rfl (lv_at hl 0 rfl) ?_
  refine va_get (ci := 0) (v := .int (nI fi)) (C := RX0) (T := TX0) (N := 13) hx hb hts inX0_log hown hK hP 0 rfl rfl 6 (by decide) (hts _ flX0_log_87) (fun _ h9 => h9) rfl dX0_log_29 ?_
  exact e_I hx hb hr hlocks hP hD hS rfl dX0_log_32
set_option maxHeartbeats 4000000 in
set_option maxRecDepth 100000 in
theorem tX0_log_ok1 {l : Launch} {D : va_G} {cI cZ : ClassId} {h0 a0 a1 a2 a3 a4 a5 : Nat} (bf pw hs lo lg rt : Nat → Int32) (nb : Int32) (fi fo en : Nat) (on cu ma : Int32) : RI l yX0_log wsX0_log 8 0 0 D (tyC cI cZ) (wC h0 a0 a1 a2 a3 a4 a5 cI cZ bf pw hs lo lg rt nb (nI fi) (nI fo) (nI en) on cu ma) [.ref h0, .int (nI 1)] (nI fo) (wC h0 a0 a1 a2 a3 a4 a5 cI cZ bf pw hs lo lg rt nb (nI fi) (nI fo) (nI en) on cu ma) := by
  refine st_I (cc := cX0_log) (maxL := 2) (ret := (some .int)) (by decide +kernel) rfl (Nat.le_of_ble_eq_true rfl) ?_
  intro p e s m below meth c A hx hb hr hts hown hml hlocks hK hP hD hA hS ls hl
  have hown : s.vm.findClass RX0 = some m.cls := hown
  have hl : lv_has ls 2 [(0, .ref h0), (1, .int (nI 1))] := hl
  refine lv_iload_n hx hb dX0_log_0 rfl (lv_at hl 1 rfl) ?_
  refine lv_tableIn (off := 32) (tgt := 33) hx hb dX0_log_1 (by decide) (by decide) (by decide) (by decide) ?_
  refine lv_aload_n hx hb dX0_log_33 rfl (lv_at hl 0 rfl) ?_
  refine va_get (ci := 0) (v := .int (nI fo)) (C := RX0) (T := TX0) (N := 13) hx hb hts inX0_log hown hK hP 0 rfl rfl 7 (by decide) (hts _ flX0_log_96) (fun _ h9 => h9) rfl dX0_log_34 ?_
  exact e_I hx hb hr hlocks hP hD hS rfl dX0_log_37
set_option maxHeartbeats 4000000 in
set_option maxRecDepth 100000 in
theorem tX0_log_ok2 {l : Launch} {D : va_G} {cI cZ : ClassId} {h0 a0 a1 a2 a3 a4 a5 : Nat} (bf pw hs lo lg rt : Nat → Int32) (nb : Int32) (fi fo en : Nat) (on cu ma : Int32) : RI l yX0_log wsX0_log 8 0 0 D (tyC cI cZ) (wC h0 a0 a1 a2 a3 a4 a5 cI cZ bf pw hs lo lg rt nb (nI fi) (nI fo) (nI en) on cu ma) [.ref h0, .int (nI 2)] (nI en) (wC h0 a0 a1 a2 a3 a4 a5 cI cZ bf pw hs lo lg rt nb (nI fi) (nI fo) (nI en) on cu ma) := by
  refine st_I (cc := cX0_log) (maxL := 2) (ret := (some .int)) (by decide +kernel) rfl (Nat.le_of_ble_eq_true rfl) ?_
  intro p e s m below meth c A hx hb hr hts hown hml hlocks hK hP hD hA hS ls hl
  have hown : s.vm.findClass RX0 = some m.cls := hown
  have hl : lv_has ls 2 [(0, .ref h0), (1, .int (nI 2))] := hl
  refine lv_iload_n hx hb dX0_log_0 rfl (lv_at hl 1 rfl) ?_
  refine lv_tableIn (off := 37) (tgt := 38) hx hb dX0_log_1 (by decide) (by decide) (by decide) (by decide) ?_
  refine lv_aload_n hx hb dX0_log_38 rfl (lv_at hl 0 rfl) ?_
  refine va_get (ci := 0) (v := .int (nI en)) (C := RX0) (T := TX0) (N := 13) hx hb hts inX0_log hown hK hP 0 rfl rfl 8 (by decide) (hts _ flX0_log_84) (fun _ h9 => h9) rfl dX0_log_39 ?_
  exact e_I hx hb hr hlocks hP hD hS rfl dX0_log_42
theorem ix_out3 {x : Int32} (h : x < 0 ∨ nI 3 ≤ x) : x.toInt < 0 ∨ 2 < x.toInt := by
  rcases h with h | h
  · exact Or.inl (Int32.lt_iff_toInt_lt.mp h)
  · have h2 := Int32.le_iff_toInt_le.mp h
    rw [nI_toInt (by decide)] at h2
    exact Or.inr (by omega)
set_option maxHeartbeats 4000000 in
set_option maxRecDepth 100000 in
theorem tX0_log_xb {l : Launch} {D : va_G} {cI cZ : ClassId} {h0 a0 a1 a2 a3 a4 a5 : Nat} (hl0 : l.stackTraces = false) (bf pw hs lo lg rt : Nat → Int32) (nb : Int32) (fi fo en : Nat) (on cu ma : Int32) (x : Int32) (h : x < 0 ∨ nI 3 ≤ x) : RX l yX0_log wsX0_log 8 D (tyC cI cZ) (wC h0 a0 a1 a2 a3 a4 a5 cI cZ bf pw hs lo lg rt nb (nI fi) (nI fo) (nI en) on cu ma) [.ref h0, .int x] xIOB := by
  refine st_X (cc := cX0_log) (maxL := 2) (ret := (some .int)) (by decide +kernel) rfl (Nat.le_of_ble_eq_true rfl) ?_
  intro p e s m below meth c A hx hb hr hts hown hml hlocks hK hP hD hA hS ls hl hT hex
  have hown : s.vm.findClass RX0 = some m.cls := hown
  have hl : lv_has ls 2 [(0, .ref h0), (1, .int x)] := hl
  refine lv_iload_n hx hb dX0_log_0 rfl (lv_at hl 1 rfl) ?_
  refine lv_tableOut (tgt := 43) hx hb dX0_log_1 (ix_out3 h) (by decide) ?_
  exact e_X (text := "no such end of the log") hx hb hl0 hown rfl hts (by decide +kernel) thX0_log_k thX0_log_i thX0_log_g xNg_xIOB xGd_xIOB (by decide) hT hlocks hex hP hD hS hl.1 hml dX0_log_43 dX0_log_46 dX0_log_47 dX0_log_49 dX0_log_52 (Nat.le_of_ble_eq_true rfl) (Nat.le_of_ble_eq_true rfl) (Nat.le_of_ble_eq_true rfl) (Nat.le_of_ble_eq_true rfl) (Nat.le_of_ble_eq_true rfl) (Nat.le_of_ble_eq_true rfl)
set_option maxHeartbeats 4000000 in
set_option maxRecDepth 100000 in
theorem tX0_setRoot_xb {l : Launch} {D : va_G} {cI cZ : ClassId} {h0 a0 a1 a2 a3 a4 a5 : Nat} (hl0 : l.stackTraces = false) (bf pw hs lo lg rt : Nat → Int32) (nb : Int32) (fi fo en : Nat) (cu ma : Int32) (x y : Int32) (h : x < 0 ∨ nI 4 ≤ x) : RX l yX0_setRoot wsX0_setRoot 8 D (tyC cI cZ) (wC h0 a0 a1 a2 a3 a4 a5 cI cZ bf pw hs lo lg rt nb (nI fi) (nI fo) (nI en) 1 cu ma) [.ref h0, .int x, .int y] xIOB := by
  refine st_X (cc := cX0_setRoot) (maxL := 3) (ret := (some .boolean)) (by decide +kernel) rfl (Nat.le_of_ble_eq_true rfl) ?_
  intro p e s m below meth c A hx hb hr hts hown hml hlocks hK hP hD hA hS ls hl hT hex
  have hown : s.vm.findClass RX0 = some m.cls := hown
  have hl : lv_has ls 3 [(0, .ref h0), (1, .int x), (2, .int y)] := hl
  refine lv_aload_n hx hb dX0_setRoot_0 rfl (lv_at hl 0 rfl) ?_
  refine k_V (wr := []) hP hD hS hA (va_runV (As := []) (rest := []) ⟨hx, hb, hml, hown, hts⟩ ((tX0_needPower_ok bf pw hs lo lg rt nb fi fo en cu ma) _) (cwV 0 hts gX0_setRoot_X0_needPower rfl rfl rfl (by decide +kernel) ⟨Nat.le_of_ble_eq_true rfl, Nat.le_of_ble_eq_true rfl⟩) (pV_B hP hD hK (ci := 0) (q0 := 0) rfl rfl rfl [0, 1] rfl [0, 1, 2, 3, 4, 5, 6] rfl rfl) rfl rfl hl.1 rfl (lv_room (Nat.le_of_ble_eq_true rfl)) dX0_setRoot_1 ⟨Nat.le_of_ble_eq_true rfl, Nat.le_of_ble_eq_true rfl⟩) [0, 1, 2, 3, 4, 5, 6] [] rfl rfl rfl (by decide) (fun H locs hP hD hS => ?_)
  have hP : va_P D vwCl (wC h0 a0 a1 a2 a3 a4 a5 cI cZ bf pw hs lo lg rt nb (nI fi) (nI fo) (nI en) 1 cu ma) H := hP
  have hD : va_D A (wC h0 a0 a1 a2 a3 a4 a5 cI cZ bf pw hs lo lg rt nb (nI fi) (nI fo) (nI en) 1 cu ma) := hD
  refine lv_iload_n hx hb dX0_setRoot_4 rfl (lv_at hl 1 rfl) ?_
  refine lv_iconst (v := (nI 4)) hx hb dX0_setRoot_5 (by decide) ?_
  exact k_XX hlocks hex (Nat.le_of_ble_eq_true rfl) (Nat.le_of_ble_eq_true rfl) (wr := wC h0 a0 a1 a2 a3 a4 a5 cI cZ bf pw hs lo lg rt nb (nI fi) (nI fo) (nI en) 1 cu ma) hP hD hS hA (vx_runS (As := [.int x, .int (nI 4)]) (rest := []) ⟨hx, hb, hml, hown, hts⟩ ((tX0_needIndex_x hl0 x 4 h) _) (va_cwS 2 hts gX0_setRoot_X0_needIndex rfl rfl rfl (by decide +kernel) ⟨Nat.le_of_ble_eq_true rfl, Nat.le_of_ble_eq_true rfl⟩) (pS_X hP hD hK hS hA hT [] rfl [] rfl rfl) rfl rfl hl.1 rfl (lv_room (Nat.le_of_ble_eq_true rfl)) dX0_setRoot_6 ⟨Nat.le_of_ble_eq_true rfl, Nat.le_of_ble_eq_true rfl⟩) [] [0, 1, 2, 3, 4, 5, 6] rfl rfl rfl (by decide)
set_option maxHeartbeats 4000000 in
set_option maxRecDepth 100000 in
theorem tX0_setRoot_cut {l : Launch} {D : va_G} {cI cZ : ClassId} {h0 a0 a1 a2 a3 a4 a5 : Nat} (bf pw hs lo lg rt : Nat → Int32) (nb : Int32) (fi fo en : Nat) (cu ma : Int32) (k : Nat) (hk : k < 4) (y : Int32) (h : cu = 0) : RI l yX0_setRoot wsX0_setRoot 8 0 0 D (tyC cI cZ) (wC h0 a0 a1 a2 a3 a4 a5 cI cZ bf pw hs lo lg rt nb (nI fi) (nI fo) (nI en) 1 cu ma) [.ref h0, .int (nI k), .int y] 0 (wC h0 a0 a1 a2 a3 a4 a5 cI cZ (zf bf) pw hs lo lg rt nb (nI fi) (nI fo) (nI fo) 0 cu ma) := by
  refine st_I (cc := cX0_setRoot) (maxL := 3) (ret := (some .boolean)) (by decide +kernel) rfl (Nat.le_of_ble_eq_true rfl) ?_
  intro p e s m below meth c A hx hb hr hts hown hml hlocks hK hP hD hA hS ls hl
  have hown : s.vm.findClass RX0 = some m.cls := hown
  have hl : lv_has ls 3 [(0, .ref h0), (1, .int (nI k)), (2, .int y)] := hl
  refine lv_aload_n hx hb dX0_setRoot_0 rfl (lv_at hl 0 rfl) ?_
  refine k_V (wr := []) hP hD hS hA (va_runV (As := []) (rest := []) ⟨hx, hb, hml, hown, hts⟩ ((tX0_needPower_ok bf pw hs lo lg rt nb fi fo en cu ma) _) (cwV 0 hts gX0_setRoot_X0_needPower rfl rfl rfl (by decide +kernel) ⟨Nat.le_of_ble_eq_true rfl, Nat.le_of_ble_eq_true rfl⟩) (pV_B hP hD hK (ci := 0) (q0 := 0) rfl rfl rfl [0, 1] rfl [0, 1, 2, 3, 4, 5, 6] rfl rfl) rfl rfl hl.1 rfl (lv_room (Nat.le_of_ble_eq_true rfl)) dX0_setRoot_1 ⟨Nat.le_of_ble_eq_true rfl, Nat.le_of_ble_eq_true rfl⟩) [0, 1, 2, 3, 4, 5, 6] [] rfl rfl rfl (by decide) (fun H locs hP hD hS => ?_)
  have hP : va_P D vwCl (wC h0 a0 a1 a2 a3 a4 a5 cI cZ bf pw hs lo lg rt nb (nI fi) (nI fo) (nI en) 1 cu ma) H := hP
  have hD : va_D A (wC h0 a0 a1 a2 a3 a4 a5 cI cZ bf pw hs lo lg rt nb (nI fi) (nI fo) (nI en) 1 cu ma) := hD
  refine lv_iload_n hx hb dX0_setRoot_4 rfl (lv_at hl 1 rfl) ?_
  refine lv_iconst (v := (nI 4)) hx hb dX0_setRoot_5 (by decide) ?_
  refine k_V (wr := wC h0 a0 a1 a2 a3 a4 a5 cI cZ bf pw hs lo lg rt nb (nI fi) (nI fo) (nI en) 1 cu ma) hP hD hS hA (va_runS (As := [.int (nI k), .int (nI 4)]) (rest := []) ⟨hx, hb, hml, hown, hts⟩ ((tX0_needIndex_ok k 4 (by omega) (by omega)) _) (va_cwS 2 hts gX0_setRoot_X0_needIndex rfl rfl rfl (by decide +kernel) ⟨Nat.le_of_ble_eq_true rfl, Nat.le_of_ble_eq_true rfl⟩) (pS_B hP hD hK [] rfl [] rfl rfl) rfl rfl hl.1 rfl (lv_room (Nat.le_of_ble_eq_true rfl)) dX0_setRoot_6 ⟨Nat.le_of_ble_eq_true rfl, Nat.le_of_ble_eq_true rfl⟩) [] [0, 1, 2, 3, 4, 5, 6] rfl rfl rfl (by decide) (fun H locs hP hD hS => ?_)
  have hP : va_P D vwCl (wC h0 a0 a1 a2 a3 a4 a5 cI cZ bf pw hs lo lg rt nb (nI fi) (nI fo) (nI en) 1 cu ma) H := hP
  have hD : va_D A (wC h0 a0 a1 a2 a3 a4 a5 cI cZ bf pw hs lo lg rt nb (nI fi) (nI fo) (nI en) 1 cu ma) := hD
  refine lv_aload_n hx hb dX0_setRoot_9 rfl (lv_at hl 0 rfl) ?_
  refine k_I (wr := []) hP hD hS hA (va_runV (As := []) (rest := []) ⟨hx, hb, hml, hown, hts⟩ ((tX0_makeLeastWrite_cut bf pw hs lo lg rt nb fi fo en 1 cu ma h) _) (cwV 0 hts gX0_setRoot_X0_makeLeastWrite rfl rfl rfl (by decide +kernel) ⟨Nat.le_of_ble_eq_true rfl, Nat.le_of_ble_eq_true rfl⟩) (pV_B hP hD hK (ci := 0) (q0 := 0) rfl rfl rfl [0, 1] rfl [0, 1, 2, 3, 4, 5, 6] rfl rfl) rfl rfl hl.1 rfl (lv_room (Nat.le_of_ble_eq_true rfl)) dX0_setRoot_10 ⟨Nat.le_of_ble_eq_true rfl, Nat.le_of_ble_eq_true rfl⟩) [0, 1, 2, 3, 4, 5, 6] [] rfl rfl rfl (by decide) (fun H locs hP hD hS => ?_)
  have hP : va_P D vwCl (wC h0 a0 a1 a2 a3 a4 a5 cI cZ (zf bf) pw hs lo lg rt nb (nI fi) (nI fo) (nI fo) 0 cu ma) H := hP
  have hD : va_D A (wC h0 a0 a1 a2 a3 a4 a5 cI cZ (zf bf) pw hs lo lg rt nb (nI fi) (nI fo) (nI fo) 0 cu ma) := hD
  refine lv_if_ne (tgt := 18) hx hb dX0_setRoot_13 (by decide) (fun c_13 => absurd (rfl) c_13) (fun c_13 => ?_)
  refine lv_iconst (v := (0)) hx hb dX0_setRoot_16 (by decide) ?_
  exact e_Z hx hb hr hlocks hP hD hS rfl rfl dX0_setRoot_17
set_option maxHeartbeats 4000000 in
set_option maxRecDepth 100000 in
theorem tX0_setRoot_ok {l : Launch} {D : va_G} {cI cZ : ClassId} {h0 a0 a1 a2 a3 a4 a5 : Nat} (bf pw hs lo lg rt : Nat → Int32) (nb : Int32) (fi fo en : Nat) (cu ma : Int32) (k : Nat) (hk : k < 4) (y : Int32) (h : ¬ cu = 0) : RI l yX0_setRoot wsX0_setRoot 8 0 0 D (tyC cI cZ) (wC h0 a0 a1 a2 a3 a4 a5 cI cZ bf pw hs lo lg rt nb (nI fi) (nI fo) (nI en) 1 cu ma) [.ref h0, .int (nI k), .int y] 1 (wC h0 a0 a1 a2 a3 a4 a5 cI cZ bf pw hs lo lg (upd rt k y) nb (nI fi) (nI fo) (nI en) 1 (dcu cu) (ma + 1)) := by
  refine st_I (cc := cX0_setRoot) (maxL := 3) (ret := (some .boolean)) (by decide +kernel) rfl (Nat.le_of_ble_eq_true rfl) ?_
  intro p e s m below meth c A hx hb hr hts hown hml hlocks hK hP hD hA hS ls hl
  have hown : s.vm.findClass RX0 = some m.cls := hown
  have hl : lv_has ls 3 [(0, .ref h0), (1, .int (nI k)), (2, .int y)] := hl
  refine lv_aload_n hx hb dX0_setRoot_0 rfl (lv_at hl 0 rfl) ?_
  refine k_V (wr := []) hP hD hS hA (va_runV (As := []) (rest := []) ⟨hx, hb, hml, hown, hts⟩ ((tX0_needPower_ok bf pw hs lo lg rt nb fi fo en cu ma) _) (cwV 0 hts gX0_setRoot_X0_needPower rfl rfl rfl (by decide +kernel) ⟨Nat.le_of_ble_eq_true rfl, Nat.le_of_ble_eq_true rfl⟩) (pV_B hP hD hK (ci := 0) (q0 := 0) rfl rfl rfl [0, 1] rfl [0, 1, 2, 3, 4, 5, 6] rfl rfl) rfl rfl hl.1 rfl (lv_room (Nat.le_of_ble_eq_true rfl)) dX0_setRoot_1 ⟨Nat.le_of_ble_eq_true rfl, Nat.le_of_ble_eq_true rfl⟩) [0, 1, 2, 3, 4, 5, 6] [] rfl rfl rfl (by decide) (fun H locs hP hD hS => ?_)
  have hP : va_P D vwCl (wC h0 a0 a1 a2 a3 a4 a5 cI cZ bf pw hs lo lg rt nb (nI fi) (nI fo) (nI en) 1 cu ma) H := hP
  have hD : va_D A (wC h0 a0 a1 a2 a3 a4 a5 cI cZ bf pw hs lo lg rt nb (nI fi) (nI fo) (nI en) 1 cu ma) := hD
  refine lv_iload_n hx hb dX0_setRoot_4 rfl (lv_at hl 1 rfl) ?_
  refine lv_iconst (v := (nI 4)) hx hb dX0_setRoot_5 (by decide) ?_
  refine k_V (wr := wC h0 a0 a1 a2 a3 a4 a5 cI cZ bf pw hs lo lg rt nb (nI fi) (nI fo) (nI en) 1 cu ma) hP hD hS hA (va_runS (As := [.int (nI k), .int (nI 4)]) (rest := []) ⟨hx, hb, hml, hown, hts⟩ ((tX0_needIndex_ok k 4 (by omega) (by omega)) _) (va_cwS 2 hts gX0_setRoot_X0_needIndex rfl rfl rfl (by decide +kernel) ⟨Nat.le_of_ble_eq_true rfl, Nat.le_of_ble_eq_true rfl⟩) (pS_B hP hD hK [] rfl [] rfl rfl) rfl rfl hl.1 rfl (lv_room (Nat.le_of_ble_eq_true rfl)) dX0_setRoot_6 ⟨Nat.le_of_ble_eq_true rfl, Nat.le_of_ble_eq_true rfl⟩) [] [0, 1, 2, 3, 4, 5, 6] rfl rfl rfl (by decide) (fun H locs hP hD hS => ?_)
  have hP : va_P D vwCl (wC h0 a0 a1 a2 a3 a4 a5 cI cZ bf pw hs lo lg rt nb (nI fi) (nI fo) (nI en) 1 cu ma) H := hP
  have hD : va_D A (wC h0 a0 a1 a2 a3 a4 a5 cI cZ bf pw hs lo lg rt nb (nI fi) (nI fo) (nI en) 1 cu ma) := hD
  refine lv_aload_n hx hb dX0_setRoot_9 rfl (lv_at hl 0 rfl) ?_
  refine k_I (wr := []) hP hD hS hA (va_runV (As := []) (rest := []) ⟨hx, hb, hml, hown, hts⟩ ((tX0_makeLeastWrite_ok bf pw hs lo lg rt nb fi fo en 1 cu ma h) _) (cwV 0 hts gX0_setRoot_X0_makeLeastWrite rfl rfl rfl (by decide +kernel) ⟨Nat.le_of_ble_eq_true rfl, Nat.le_of_ble_eq_true rfl⟩) (pV_B hP hD hK (ci := 0) (q0 := 0) rfl rfl rfl [0, 1] rfl [0, 1, 2, 3, 4, 5, 6] rfl rfl) rfl rfl hl.1 rfl (lv_room (Nat.le_of_ble_eq_true rfl)) dX0_setRoot_10 ⟨Nat.le_of_ble_eq_true rfl, Nat.le_of_ble_eq_true rfl⟩) [0, 1, 2, 3, 4, 5, 6] [] rfl rfl rfl (by decide) (fun H locs hP hD hS => ?_)
  have hP : va_P D vwCl (wC h0 a0 a1 a2 a3 a4 a5 cI cZ bf pw hs lo lg rt nb (nI fi) (nI fo) (nI en) 1 (dcu cu) (ma + 1)) H := hP
  have hD : va_D A (wC h0 a0 a1 a2 a3 a4 a5 cI cZ bf pw hs lo lg rt nb (nI fi) (nI fo) (nI en) 1 (dcu cu) (ma + 1)) := hD
  refine lv_if_ne (tgt := 18) hx hb dX0_setRoot_13 (by decide) (fun c_13 => ?_) (fun c_13 => absurd c_13 (by decide))
  refine lv_aload_n hx hb dX0_setRoot_18 rfl (lv_at hl 0 rfl) ?_
  refine va_get (ci := 0) (v := .ref a5) (C := RX0) (T := TX0) (N := 13) hx hb hts inX0_setRoot hown hK hP 0 rfl rfl 9 (by decide) (hts _ flX0_setRoot_28) (fun _ h9 => h9) rfl dX0_setRoot_19 ?_
  refine lv_iload_n hx hb dX0_setRoot_22 rfl (lv_at hl 1 rfl) ?_
  refine lv_iload_n hx hb dX0_setRoot_23 rfl (lv_at hl 2 rfl) ?_
  refine n_iast hx hb hK hP hD hS 6 0 rfl rfl k (by omega) (by omega) dX0_setRoot_24 (fun H locs hP hD hS => ?_)
  have hP : va_P D vwCl (wC h0 a0 a1 a2 a3 a4 a5 cI cZ bf pw hs lo lg (upd rt k y) nb (nI fi) (nI fo) (nI en) 1 (dcu cu) (ma + 1)) H := hP
  have hD : va_D A (wC h0 a0 a1 a2 a3 a4 a5 cI cZ bf pw hs lo lg (upd rt k y) nb (nI fi) (nI fo) (nI en) 1 (dcu cu) (ma + 1)) := hD
  refine lv_iconst (v := (1)) hx hb dX0_setRoot_25 (by decide) ?_
  exact e_Z hx hb hr hlocks hP hD hS rfl rfl dX0_setRoot_26
set_option maxHeartbeats 4000000 in
set_option maxRecDepth 100000 in
theorem tX0_root_xb {l : Launch} {D : va_G} {cI cZ : ClassId} {h0 a0 a1 a2 a3 a4 a5 : Nat} (hl0 : l.stackTraces = false) (bf pw hs lo lg rt : Nat → Int32) (nb : Int32) (fi fo en : Nat) (on cu ma : Int32) (x : Int32) (h : x < 0 ∨ nI 4 ≤ x) : RX l yX0_root wsX0_root 8 D (tyC cI cZ) (wC h0 a0 a1 a2 a3 a4 a5 cI cZ bf pw hs lo lg rt nb (nI fi) (nI fo) (nI en) on cu ma) [.ref h0, .int x] xIOB := by
  refine st_X (cc := cX0_root) (maxL := 2) (ret := (some .int)) (by decide +kernel) rfl (Nat.le_of_ble_eq_true rfl) ?_
  intro p e s m below meth c A hx hb hr hts hown hml hlocks hK hP hD hA hS ls hl hT hex
  have hown : s.vm.findClass RX0 = some m.cls := hown
  have hl : lv_has ls 2 [(0, .ref h0), (1, .int x)] := hl
  refine lv_iload_n hx hb dX0_root_0 rfl (lv_at hl 1 rfl) ?_
  refine lv_iconst (v := (nI 4)) hx hb dX0_root_1 (by decide) ?_
  exact k_XX hlocks hex (Nat.le_of_ble_eq_true rfl) (Nat.le_of_ble_eq_true rfl) (wr := wC h0 a0 a1 a2 a3 a4 a5 cI cZ bf pw hs lo lg rt nb (nI fi) (nI fo) (nI en) on cu ma) hP hD hS hA (vx_runS (As := [.int x, .int (nI 4)]) (rest := []) ⟨hx, hb, hml, hown, hts⟩ ((tX0_needIndex_x hl0 x 4 h) _) (va_cwS 2 hts gX0_root_X0_needIndex rfl rfl rfl (by decide +kernel) ⟨Nat.le_of_ble_eq_true rfl, Nat.le_of_ble_eq_true rfl⟩) (pS_X hP hD hK hS hA hT [] rfl [] rfl rfl) rfl rfl hl.1 rfl (lv_room (Nat.le_of_ble_eq_true rfl)) dX0_root_2 ⟨Nat.le_of_ble_eq_true rfl, Nat.le_of_ble_eq_true rfl⟩) [] [0, 1, 2, 3, 4, 5, 6] rfl rfl rfl (by decide)
set_option maxHeartbeats 4000000 in
set_option maxRecDepth 100000 in
theorem tX0_root_ok {l : Launch} {D : va_G} {cI cZ : ClassId} {h0 a0 a1 a2 a3 a4 a5 : Nat} (bf pw hs lo lg rt : Nat → Int32) (nb : Int32) (fi fo en : Nat) (on cu ma : Int32) (k : Nat) (hk : k < 4) : RI l yX0_root wsX0_root 8 0 0 D (tyC cI cZ) (wC h0 a0 a1 a2 a3 a4 a5 cI cZ bf pw hs lo lg rt nb (nI fi) (nI fo) (nI en) on cu ma) [.ref h0, .int (nI k)] (rt k) (wC h0 a0 a1 a2 a3 a4 a5 cI cZ bf pw hs lo lg rt nb (nI fi) (nI fo) (nI en) on cu ma) := by
  refine st_I (cc := cX0_root) (maxL := 2) (ret := (some .int)) (by decide +kernel) rfl (Nat.le_of_ble_eq_true rfl) ?_
  intro p e s m below meth c A hx hb hr hts hown hml hlocks hK hP hD hA hS ls hl
  have hown : s.vm.findClass RX0 = some m.cls := hown
  have hl : lv_has ls 2 [(0, .ref h0), (1, .int (nI k))] := hl
  refine lv_iload_n hx hb dX0_root_0 rfl (lv_at hl 1 rfl) ?_
  refine lv_iconst (v := (nI 4)) hx hb dX0_root_1 (by decide) ?_
  refine k_V (wr := wC h0 a0 a1 a2 a3 a4 a5 cI cZ bf pw hs lo lg rt nb (nI fi) (nI fo) (nI en) on cu ma) hP hD hS hA (va_runS (As := [.int (nI k), .int (nI 4)]) (rest := []) ⟨hx, hb, hml, hown, hts⟩ ((tX0_needIndex_ok k 4 (by omega) (by omega)) _) (va_cwS 2 hts gX0_root_X0_needIndex rfl rfl rfl (by decide +kernel) ⟨Nat.le_of_ble_eq_true rfl, Nat.le_of_ble_eq_true rfl⟩) (pS_B hP hD hK [] rfl [] rfl rfl) rfl rfl hl.1 rfl (lv_room (Nat.le_of_ble_eq_true rfl)) dX0_root_2 ⟨Nat.le_of_ble_eq_true rfl, Nat.le_of_ble_eq_true rfl⟩) [] [0, 1, 2, 3, 4, 5, 6] rfl rfl rfl (by decide) (fun H locs hP hD hS => ?_)
  have hP : va_P D vwCl (wC h0 a0 a1 a2 a3 a4 a5 cI cZ bf pw hs lo lg rt nb (nI fi) (nI fo) (nI en) on cu ma) H := hP
  have hD : va_D A (wC h0 a0 a1 a2 a3 a4 a5 cI cZ bf pw hs lo lg rt nb (nI fi) (nI fo) (nI en) on cu ma) := hD
  refine lv_aload_n hx hb dX0_root_5 rfl (lv_at hl 0 rfl) ?_
  refine va_get (ci := 0) (v := .ref a5) (C := RX0) (T := TX0) (N := 13) hx hb hts inX0_root hown hK hP 0 rfl rfl 9 (by decide) (hts _ flX0_root_28) (fun _ h9 => h9) rfl dX0_root_6 ?_
  refine lv_iload_n hx hb dX0_root_9 rfl (lv_at hl 1 rfl) ?_
  refine n_iald hx hb hK hP 6 0 rfl rfl k (by omega) (by omega) dX0_root_10 ?_
  exact e_I hx hb hr hlocks hP hD hS rfl dX0_root_11
set_option maxHeartbeats 4000000 in
set_option maxRecDepth 100000 in
theorem tX0_writes_ok {l : Launch} {D : va_G} {cI cZ : ClassId} {h0 a0 a1 a2 a3 a4 a5 : Nat} (bf pw hs lo lg rt : Nat → Int32) (nb : Int32) (fi fo en : Nat) (on cu ma : Int32) : RI l yX0_writes wsX0_writes 8 0 0 D (tyC cI cZ) (wC h0 a0 a1 a2 a3 a4 a5 cI cZ bf pw hs lo lg rt nb (nI fi) (nI fo) (nI en) on cu ma) [.ref h0] ma (wC h0 a0 a1 a2 a3 a4 a5 cI cZ bf pw hs lo lg rt nb (nI fi) (nI fo) (nI en) on cu ma) := by
  refine st_I (cc := cX0_writes) (maxL := 1) (ret := (some .int)) (by decide +kernel) rfl (Nat.le_of_ble_eq_true rfl) ?_
  intro p e s m below meth c A hx hb hr hts hown hml hlocks hK hP hD hA hS ls hl
  have hown : s.vm.findClass RX0 = some m.cls := hown
  have hl : lv_has ls 1 [(0, .ref h0)] := hl
  refine lv_aload_n hx hb dX0_writes_0 rfl (lv_at hl 0 rfl) ?_
  refine va_get (ci := 0) (v := .int ma) (C := RX0) (T := TX0) (N := 13) hx hb hts inX0_writes hown hK hP 0 rfl rfl 12 (by decide) (hts _ flX0_writes_108) (fun _ h9 => h9) rfl dX0_writes_1 ?_
  exact e_I hx hb hr hlocks hP hD hS rfl dX0_writes_4
set_option maxHeartbeats 4000000 in
set_option maxRecDepth 100000 in
theorem tX0_cutAfter_xb {l : Launch} {D : va_G} {cI cZ : ClassId} {h0 a0 a1 a2 a3 a4 a5 : Nat} (hl0 : l.stackTraces = false) (bf pw hs lo lg rt : Nat → Int32) (nb : Int32) (fi fo en : Nat) (on cu ma : Int32) (x : Int32) (h : x < -1) : RX l yX0_cutAfter wsX0_cutAfter 8 D (tyC cI cZ) (wC h0 a0 a1 a2 a3 a4 a5 cI cZ bf pw hs lo lg rt nb (nI fi) (nI fo) (nI en) on cu ma) [.ref h0, .int x] xIAE := by
  refine st_X (cc := cX0_cutAfter) (maxL := 2) (ret := none) (by decide +kernel) rfl (Nat.le_of_ble_eq_true rfl) ?_
  intro p e s m below meth c A hx hb hr hts hown hml hlocks hK hP hD hA hS ls hl hT hex
  have hown : s.vm.findClass RX0 = some m.cls := hown
  have hl : lv_has ls 2 [(0, .ref h0), (1, .int x)] := hl
  refine lv_iload_n hx hb dX0_cutAfter_0 rfl (lv_at hl 1 rfl) ?_
  refine lv_iconst (v := (-1)) hx hb dX0_cutAfter_1 (by decide) ?_
  refine lv_icmp_ge (tgt := 15) hx hb dX0_cutAfter_2 (by decide) (fun c_2 => absurd c_2 (Int32.not_le.mpr h)) (fun c_2 => ?_)
  exact e_X (text := "less than none") hx hb hl0 hown rfl hts (by decide +kernel) thX0_cutAfter_k thX0_cutAfter_i thX0_cutAfter_g xNg_xIAE xGd_xIAE (by decide) hT hlocks hex hP hD hS hl.1 hml dX0_cutAfter_5 dX0_cutAfter_8 dX0_cutAfter_9 dX0_cutAfter_11 dX0_cutAfter_14 (Nat.le_of_ble_eq_true rfl) (Nat.le_of_ble_eq_true rfl) (Nat.le_of_ble_eq_true rfl) (Nat.le_of_ble_eq_true rfl) (Nat.le_of_ble_eq_true rfl) (Nat.le_of_ble_eq_true rfl)
set_option maxHeartbeats 4000000 in
set_option maxRecDepth 100000 in
theorem tX0_cutAfter_ok {l : Launch} {D : va_G} {cI cZ : ClassId} {h0 a0 a1 a2 a3 a4 a5 : Nat} (bf pw hs lo lg rt : Nat → Int32) (nb : Int32) (fi fo en : Nat) (on cu ma : Int32) (x : Int32) (h : -1 ≤ x) : RV l yX0_cutAfter wsX0_cutAfter 8 0 0 D (tyC cI cZ) (wC h0 a0 a1 a2 a3 a4 a5 cI cZ bf pw hs lo lg rt nb (nI fi) (nI fo) (nI en) on cu ma) [.ref h0, .int x] (wC h0 a0 a1 a2 a3 a4 a5 cI cZ bf pw hs lo lg rt nb (nI fi) (nI fo) (nI en) on x ma) := by
  refine st_V (cc := cX0_cutAfter) (maxL := 2) (ret := none) (by decide +kernel) rfl (Nat.le_of_ble_eq_true rfl) ?_
  intro p e s m below meth c A hx hb hr hts hown hml hlocks hK hP hD hA hS ls hl
  have hown : s.vm.findClass RX0 = some m.cls := hown
  have hl : lv_has ls 2 [(0, .ref h0), (1, .int x)] := hl
  refine lv_iload_n hx hb dX0_cutAfter_0 rfl (lv_at hl 1 rfl) ?_
  refine lv_iconst (v := (-1)) hx hb dX0_cutAfter_1 (by decide) ?_
  refine lv_icmp_ge (tgt := 15) hx hb dX0_cutAfter_2 (by decide) (fun c_2 => ?_) (fun c_2 => absurd (h) c_2)
  refine lv_aload_n hx hb dX0_cutAfter_15 rfl (lv_at hl 0 rfl) ?_
  refine lv_iload_n hx hb dX0_cutAfter_16 rfl (lv_at hl 1 rfl) ?_
  refine va_put (ci := 0) (v := .int x) (ty := .int) (C := RX0) (T := TX0) (N := 13) hx hb hts inX0_cutAfter tyX0 tyX0_ok nmX0 hown hK hP hD hS 0 rfl rfl 11 (by decide) (hts _ flX0_cutAfter_35) (fun _ h9 => h9) rfl (by decide +kernel) rfl rfl (Nat.le_of_ble_eq_true rfl) dX0_cutAfter_17 (fun H locs hP hD hS => ?_)
  have hP : va_P D vwCl (wC h0 a0 a1 a2 a3 a4 a5 cI cZ bf pw hs lo lg rt nb (nI fi) (nI fo) (nI en) on x ma) H := hP
  have hD : va_D A (wC h0 a0 a1 a2 a3 a4 a5 cI cZ bf pw hs lo lg rt nb (nI fi) (nI fo) (nI en) on x ma) := hD
  exact e_V hx hb hr hlocks hP hD hS dX0_cutAfter_20
set_option maxHeartbeats 4000000 in
set_option maxRecDepth 100000 in
theorem tX0_cut_off {l : Launch} {D : va_G} {cI cZ : ClassId} {h0 a0 a1 a2 a3 a4 a5 : Nat} (bf pw hs lo lg rt : Nat → Int32) (nb : Int32) (fi fo en : Nat) (cu ma : Int32) : RI l yX0_cut wsX0_cut 8 0 0 D (tyC cI cZ) (wC h0 a0 a1 a2 a3 a4 a5 cI cZ bf pw hs lo lg rt nb (nI fi) (nI fo) (nI en) 0 cu ma) [.ref h0] 0 (wC h0 a0 a1 a2 a3 a4 a5 cI cZ bf pw hs lo lg rt nb (nI fi) (nI fo) (nI en) 0 cu ma) := by
  refine st_I (cc := cX0_cut) (maxL := 1) (ret := (some .boolean)) (by decide +kernel) rfl (Nat.le_of_ble_eq_true rfl) ?_
  intro p e s m below meth c A hx hb hr hts hown hml hlocks hK hP hD hA hS ls hl
  have hown : s.vm.findClass RX0 = some m.cls := hown
  have hl : lv_has ls 1 [(0, .ref h0)] := hl
  refine lv_aload_n hx hb dX0_cut_0 rfl (lv_at hl 0 rfl) ?_
  refine va_get (ci := 0) (v := .int 0) (C := RX0) (T := TX0) (N := 13) hx hb hts inX0_cut hown hK hP 0 rfl rfl 10 (by decide) (hts _ flX0_cut_31) (fun _ h9 => h9) rfl dX0_cut_1 ?_
  refine lv_if_ne (tgt := 9) hx hb dX0_cut_4 (by decide) (fun c_4 => absurd (rfl) c_4) (fun c_4 => ?_)
  refine lv_iconst (v := (0)) hx hb dX0_cut_7 (by decide) ?_
  exact e_Z hx hb hr hlocks hP hD hS rfl rfl dX0_cut_8
set_option maxHeartbeats 4000000 in
set_option maxRecDepth 100000 in
theorem tX0_cut_ok {l : Launch} {D : va_G} {cI cZ : ClassId} {h0 a0 a1 a2 a3 a4 a5 : Nat} (bf pw hs lo lg rt : Nat → Int32) (nb : Int32) (fi fo en : Nat) (cu ma : Int32) : RI l yX0_cut wsX0_cut 8 0 0 D (tyC cI cZ) (wC h0 a0 a1 a2 a3 a4 a5 cI cZ bf pw hs lo lg rt nb (nI fi) (nI fo) (nI en) 1 cu ma) [.ref h0] 1 (wC h0 a0 a1 a2 a3 a4 a5 cI cZ (zf bf) pw hs lo lg rt nb (nI fi) (nI fo) (nI fo) 0 cu ma) := by
  refine st_I (cc := cX0_cut) (maxL := 1) (ret := (some .boolean)) (by decide +kernel) rfl (Nat.le_of_ble_eq_true rfl) ?_
  intro p e s m below meth c A hx hb hr hts hown hml hlocks hK hP hD hA hS ls hl
  have hown : s.vm.findClass RX0 = some m.cls := hown
  have hl : lv_has ls 1 [(0, .ref h0)] := hl
  refine lv_aload_n hx hb dX0_cut_0 rfl (lv_at hl 0 rfl) ?_
  refine va_get (ci := 0) (v := .int 1) (C := RX0) (T := TX0) (N := 13) hx hb hts inX0_cut hown hK hP 0 rfl rfl 10 (by decide) (hts _ flX0_cut_31) (fun _ h9 => h9) rfl dX0_cut_1 ?_
  refine lv_if_ne (tgt := 9) hx hb dX0_cut_4 (by decide) (fun c_4 => ?_) (fun c_4 => absurd c_4 (by decide))
  refine lv_aload_n hx hb dX0_cut_9 rfl (lv_at hl 0 rfl) ?_
  refine k_V (wr := []) hP hD hS hA (va_runV (As := []) (rest := []) ⟨hx, hb, hml, hown, hts⟩ ((tX0_failPower bf pw hs lo lg rt nb fi fo en 1 cu ma) _) (cwV 0 hts gX0_cut_X0_failPower rfl rfl rfl (by decide +kernel) ⟨Nat.le_of_ble_eq_true rfl, Nat.le_of_ble_eq_true rfl⟩) (pV_B hP hD hK (ci := 0) (q0 := 0) rfl rfl rfl [0, 1] rfl [0, 1, 2, 3, 4, 5, 6] rfl rfl) rfl rfl hl.1 rfl (lv_room (Nat.le_of_ble_eq_true rfl)) dX0_cut_10 ⟨Nat.le_of_ble_eq_true rfl, Nat.le_of_ble_eq_true rfl⟩) [0, 1, 2, 3, 4, 5, 6] [] rfl rfl rfl (by decide) (fun H locs hP hD hS => ?_)
  have hP : va_P D vwCl (wC h0 a0 a1 a2 a3 a4 a5 cI cZ (zf bf) pw hs lo lg rt nb (nI fi) (nI fo) (nI fo) 0 cu ma) H := hP
  have hD : va_D A (wC h0 a0 a1 a2 a3 a4 a5 cI cZ (zf bf) pw hs lo lg rt nb (nI fi) (nI fo) (nI fo) 0 cu ma) := hD
  refine lv_iconst (v := (1)) hx hb dX0_cut_13 (by decide) ?_
  exact e_Z hx hb hr hlocks hP hD hS rfl rfl dX0_cut_14
set_option maxHeartbeats 4000000 in
set_option maxRecDepth 100000 in
theorem tX0_start_no {l : Launch} {D : va_G} {cI cZ : ClassId} {h0 a0 a1 a2 a3 a4 a5 : Nat} (bf pw hs lo lg rt : Nat → Int32) (nb : Int32) (fi fo en : Nat) (cu ma : Int32) : RI l yX0_start wsX0_start 8 0 0 D (tyC cI cZ) (wC h0 a0 a1 a2 a3 a4 a5 cI cZ bf pw hs lo lg rt nb (nI fi) (nI fo) (nI en) 1 cu ma) [.ref h0] 0 (wC h0 a0 a1 a2 a3 a4 a5 cI cZ bf pw hs lo lg rt nb (nI fi) (nI fo) (nI en) 1 cu ma) := by
  refine st_I (cc := cX0_start) (maxL := 1) (ret := (some .boolean)) (by decide +kernel) rfl (Nat.le_of_ble_eq_true rfl) ?_
  intro p e s m below meth c A hx hb hr hts hown hml hlocks hK hP hD hA hS ls hl
  have hown : s.vm.findClass RX0 = some m.cls := hown
  have hl : lv_has ls 1 [(0, .ref h0)] := hl
  refine lv_aload_n hx hb dX0_start_0 rfl (lv_at hl 0 rfl) ?_
  refine va_get (ci := 0) (v := .int 1) (C := RX0) (T := TX0) (N := 13) hx hb hts inX0_start hown hK hP 0 rfl rfl 10 (by decide) (hts _ flX0_start_31) (fun _ h9 => h9) rfl dX0_start_1 ?_
  refine lv_if_eq (tgt := 9) hx hb dX0_start_4 (by decide) (fun c_4 => absurd c_4 (by decide)) (fun c_4 => ?_)
  refine lv_iconst (v := (0)) hx hb dX0_start_7 (by decide) ?_
  exact e_Z hx hb hr hlocks hP hD hS rfl rfl dX0_start_8
set_option maxHeartbeats 4000000 in
set_option maxRecDepth 100000 in
theorem tX0_start_ok {l : Launch} {D : va_G} {cI cZ : ClassId} {h0 a0 a1 a2 a3 a4 a5 : Nat} (bf pw hs lo lg rt : Nat → Int32) (nb : Int32) (fi fo en : Nat) (cu ma : Int32) : RI l yX0_start wsX0_start 8 0 0 D (tyC cI cZ) (wC h0 a0 a1 a2 a3 a4 a5 cI cZ bf pw hs lo lg rt nb (nI fi) (nI fo) (nI en) 0 cu ma) [.ref h0] 1 (wC h0 a0 a1 a2 a3 a4 a5 cI cZ bf pw hs lo lg rt nb (nI fi) (nI fo) (nI en) 1 (-1) ma) := by
  refine st_I (cc := cX0_start) (maxL := 1) (ret := (some .boolean)) (by decide +kernel) rfl (Nat.le_of_ble_eq_true rfl) ?_
  intro p e s m below meth c A hx hb hr hts hown hml hlocks hK hP hD hA hS ls hl
  have hown : s.vm.findClass RX0 = some m.cls := hown
  have hl : lv_has ls 1 [(0, .ref h0)] := hl
  refine lv_aload_n hx hb dX0_start_0 rfl (lv_at hl 0 rfl) ?_
  refine va_get (ci := 0) (v := .int 0) (C := RX0) (T := TX0) (N := 13) hx hb hts inX0_start hown hK hP 0 rfl rfl 10 (by decide) (hts _ flX0_start_31) (fun _ h9 => h9) rfl dX0_start_1 ?_
  refine lv_if_eq (tgt := 9) hx hb dX0_start_4 (by decide) (fun c_4 => ?_) (fun c_4 => absurd (rfl) c_4)
  refine lv_aload_n hx hb dX0_start_9 rfl (lv_at hl 0 rfl) ?_
  refine lv_iconst (v := (1)) hx hb dX0_start_10 (by decide) ?_
  refine va_put (ci := 0) (v := .int 1) (ty := .boolean) (C := RX0) (T := TX0) (N := 13) hx hb hts inX0_start tyX0 tyX0_ok nmX0 hown hK hP hD hS 0 rfl rfl 10 (by decide) (hts _ flX0_start_31) (fun _ h9 => h9) rfl (by decide +kernel) rfl rfl (Nat.le_of_ble_eq_true rfl) dX0_start_11 (fun H locs hP hD hS => ?_)
  have hP : va_P D vwCl (wC h0 a0 a1 a2 a3 a4 a5 cI cZ bf pw hs lo lg rt nb (nI fi) (nI fo) (nI en) 1 cu ma) H := hP
  have hD : va_D A (wC h0 a0 a1 a2 a3 a4 a5 cI cZ bf pw hs lo lg rt nb (nI fi) (nI fo) (nI en) 1 cu ma) := hD
  refine lv_aload_n hx hb dX0_start_14 rfl (lv_at hl 0 rfl) ?_
  refine lv_iconst (v := (-1)) hx hb dX0_start_15 (by decide) ?_
  refine va_put (ci := 0) (v := .int (-1)) (ty := .int) (C := RX0) (T := TX0) (N := 13) hx hb hts inX0_start tyX0 tyX0_ok nmX0 hown hK hP hD hS 0 rfl rfl 11 (by decide) (hts _ flX0_start_35) (fun _ h9 => h9) rfl (by decide +kernel) rfl rfl (Nat.le_of_ble_eq_true rfl) dX0_start_16 (fun H locs hP hD hS => ?_)
  have hP : va_P D vwCl (wC h0 a0 a1 a2 a3 a4 a5 cI cZ bf pw hs lo lg rt nb (nI fi) (nI fo) (nI en) 1 (-1) ma) H := hP
  have hD : va_D A (wC h0 a0 a1 a2 a3 a4 a5 cI cZ bf pw hs lo lg rt nb (nI fi) (nI fo) (nI en) 1 (-1) ma) := hD
  refine lv_iconst (v := (1)) hx hb dX0_start_19 (by decide) ?_
  exact e_Z hx hb hr hlocks hP hD hS rfl rfl dX0_start_20
set_option maxHeartbeats 4000000 in
set_option maxRecDepth 100000 in
theorem tX0_isOn_ok {l : Launch} {D : va_G} {cI cZ : ClassId} {h0 a0 a1 a2 a3 a4 a5 : Nat} (bf pw hs lo lg rt : Nat → Int32) (nb : Int32) (fi fo en : Nat) (on cu ma : Int32) (hz : on = 0 ∨ on = 1) : RI l yX0_isOn wsX0_isOn 8 0 0 D (tyC cI cZ) (wC h0 a0 a1 a2 a3 a4 a5 cI cZ bf pw hs lo lg rt nb (nI fi) (nI fo) (nI en) on cu ma) [.ref h0] on (wC h0 a0 a1 a2 a3 a4 a5 cI cZ bf pw hs lo lg rt nb (nI fi) (nI fo) (nI en) on cu ma) := by
  refine st_I (cc := cX0_isOn) (maxL := 1) (ret := (some .boolean)) (by decide +kernel) rfl (Nat.le_of_ble_eq_true rfl) ?_
  intro p e s m below meth c A hx hb hr hts hown hml hlocks hK hP hD hA hS ls hl
  have hown : s.vm.findClass RX0 = some m.cls := hown
  have hl : lv_has ls 1 [(0, .ref h0)] := hl
  refine lv_aload_n hx hb dX0_isOn_0 rfl (lv_at hl 0 rfl) ?_
  refine va_get (ci := 0) (v := .int on) (C := RX0) (T := TX0) (N := 13) hx hb hts inX0_isOn hown hK hP 0 rfl rfl 10 (by decide) (hts _ flX0_isOn_31) (fun _ h9 => h9) rfl dX0_isOn_1 ?_
  exact e_Z hx hb hr hlocks hP hD hS rfl (by rcases hz with rfl | rfl <;> rfl) dX0_isOn_4
