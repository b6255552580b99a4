/-! OWN ROWS, by program: the class, its least writes, its page writes -/
/-- a page's state: 0 whole, 1 torn, 2 lost -/
def sp_ps (lo hs : Nat → Int32) (k : Nat) : Int32 := if lo k = 0 then (if hs (k * 2) = hs (k * 2 + 1) then 0 else 1) else 2
def dcu (x : Int32) : Int32 := if x = -1 then x else x - 1
abbrev zf (f : Nat → Int32) : Nat → Int32 := fl (fun _ => 0) 64 f
set_option maxHeartbeats 4000000 in
set_option maxRecDepth 100000 in
theorem tX0_logSlot {l : Launch} {D : va_G} (k : Nat) (h : k < 2 ^ 31) : RI l yX0_logSlot wsX0_logSlot 1 0 0 D [] ([]) [.int (nI k)] (nI (k % 65536)) ([]) := by
  refine st_I (cc := cX0_logSlot) (maxL := 1) (ret := (some .int)) (by decide +kernel) rfl (Nat.le_of_ble_eq_true rfl) ?_
  intro p e s m below meth c A hx hb hr hts hown hml hlocks hK hP hD hA hS ls hl
  have hown : s.vm.findClass RX0 = some m.cls := hown
  have hl : lv_has ls 1 [(0, .int (nI k))] := hl
  refine lv_iload_n hx hb dX0_logSlot_0 rfl (lv_at hl 0 rfl) ?_
  refine lv_ldc (v := nI 65535) hx hb hown (hts (.constant RX0 127 (65535)) (by decide +kernel)) dX0_logSlot_1 ?_
  refine n_m16 hx hb (by omega) dX0_logSlot_3 ?_
  exact e_I hx hb hr hlocks hP hD hS rfl dX0_logSlot_4
set_option maxHeartbeats 4000000 in
set_option maxRecDepth 100000 in
theorem tX0_pageState {l : Launch} {D : va_G} {cI cZ : ClassId} {h0 a0 a1 a2 a3 a4 a5 : Nat} (bf pw hs lo lg rt : Nat → Int32) (nb : Int32) (fi fo en : Nat) (on cu ma : Int32) (k : Nat) (h : k < 512) : RI l yX0_pageState wsX0_pageState 1 0 0 D (tyC cI cZ) (wC h0 a0 a1 a2 a3 a4 a5 cI cZ bf pw hs lo lg rt nb (nI fi) (nI fo) (nI en) on cu ma) [.ref h0, .int (nI k)] (sp_ps lo hs k) (wC h0 a0 a1 a2 a3 a4 a5 cI cZ bf pw hs lo lg rt nb (nI fi) (nI fo) (nI en) on cu ma) := by
  refine st_I (cc := cX0_pageState) (maxL := 2) (ret := (some .int)) (by decide +kernel) rfl (Nat.le_of_ble_eq_true rfl) ?_
  intro p e s m below meth c A hx hb hr hts hown hml hlocks hK hP hD hA hS ls hl
  have hown : s.vm.findClass RX0 = some m.cls := hown
  have hl : lv_has ls 2 [(0, .ref h0), (1, .int (nI k))] := hl
  refine lv_aload_n hx hb dX0_pageState_0 rfl (lv_at hl 0 rfl) ?_
  refine va_get (ci := 0) (v := .ref a3) (C := RX0) (T := TX0) (N := 13) hx hb hts inX0_pageState hown hK hP 0 rfl rfl 3 (by decide) (hts _ flX0_pageState_20) (fun _ h9 => h9) rfl dX0_pageState_1 ?_
  refine lv_iload_n hx hb dX0_pageState_4 rfl (lv_at hl 1 rfl) ?_
  refine n_zald hx hb hK hP 4 1 rfl rfl k (by omega) (by omega) dX0_pageState_5 ?_
  refine lv_if_eq (tgt := 11) hx hb dX0_pageState_6 (by decide) (fun c_6 => ?_) (fun c_6 => ?_)
  · refine lv_aload_n hx hb dX0_pageState_11 rfl (lv_at hl 0 rfl) ?_
    refine va_get (ci := 0) (v := .ref a2) (C := RX0) (T := TX0) (N := 13) hx hb hts inX0_pageState hown hK hP 0 rfl rfl 2 (by decide) (hts _ flX0_pageState_17) (fun _ h9 => h9) rfl dX0_pageState_12 ?_
    refine lv_iload_n hx hb dX0_pageState_15 rfl (lv_at hl 1 rfl) ?_
    refine lv_iconst (v := (nI 2)) hx hb dX0_pageState_16 (by decide) ?_
    refine n_imul hx hb dX0_pageState_17 ?_
    refine n_iald hx hb hK hP 3 0 rfl rfl (k * 2) (by omega) (by omega) dX0_pageState_18 ?_
    refine lv_aload_n hx hb dX0_pageState_19 rfl (lv_at hl 0 rfl) ?_
    refine va_get (ci := 0) (v := .ref a2) (C := RX0) (T := TX0) (N := 13) hx hb hts inX0_pageState hown hK hP 0 rfl rfl 2 (by decide) (hts _ flX0_pageState_17) (fun _ h9 => h9) rfl dX0_pageState_20 ?_
    refine lv_iload_n hx hb dX0_pageState_23 rfl (lv_at hl 1 rfl) ?_
    refine lv_iconst (v := (nI 2)) hx hb dX0_pageState_24 (by decide) ?_
    refine n_imul hx hb dX0_pageState_25 ?_
    refine lv_iconst (v := (nI 1)) hx hb dX0_pageState_26 (by decide) ?_
    refine n_iadd hx hb dX0_pageState_27 ?_
    refine n_iald hx hb hK hP 3 0 rfl rfl ((k * 2) + 1) (by omega) (by omega) dX0_pageState_28 ?_
    refine lv_icmp_ne (tgt := 36) hx hb dX0_pageState_29 (by decide) (fun c_29 => ?_) (fun c_29 => ?_)
    · refine lv_iconst (v := (1)) hx hb dX0_pageState_36 (by decide) ?_
      exact e_I hx hb hr hlocks hP hD hS (by simp [sp_ps, c_6, c_29]) dX0_pageState_37
    · refine lv_iconst (v := (0)) hx hb dX0_pageState_32 (by decide) ?_
      refine lv_goto (tgt := 37) hx hb dX0_pageState_33 (by decide) ?_
      exact e_I hx hb hr hlocks hP hD hS (by simp [sp_ps, c_6, c_29]) dX0_pageState_37
  · refine lv_iconst (v := (2)) hx hb dX0_pageState_9 (by decide) ?_
    exact e_I hx hb hr hlocks hP hD hS (by simp [sp_ps, c_6]) dX0_pageState_10
set_option maxHeartbeats 4000000 in
set_option maxRecDepth 100000 in
theorem tJ7_fill {l : Launch} {D : va_G} {cI : ClassId} {ad : Nat} (n : Nat) (hn : n < 2 ^ 31) (f : Nat → Int32) (v : Int32) : RV l yJ7_fill_53178 wsJ7_fill_53178 1 0 0 D [(cI, .int)] ([(ad, .inl (cI, n, .inl f))]) [.ref ad, .int v] ([(ad, .inl (cI, n, .inl (fl (fun _ => v) n f)))]) := by
  refine st_V (cc := cJ7_fill_53178) (maxL := 4) (ret := none) (by decide +kernel) rfl (Nat.le_of_ble_eq_true rfl) ?_
  intro p e s m below meth c A hx hb hr hts hown hml hlocks hK hP hD hA hS ls hl
  have hl : lv_has ls 4 [(0, .ref ad), (1, .int v)] := hl
  refine lv_iconst (v := (nI 0)) hx hb dJ7_fill_53178_0 (by decide) ?_
  refine lv_istore_n (lv' := [(2, .int (nI 0)), (0, .ref ad), (1, .int v)]) hx hb dJ7_fill_53178_1 rfl hl (by decide) rfl (fun ls hl => ?_)
  refine lv_aload_n hx hb dJ7_fill_53178_2 rfl (lv_at hl 1 rfl) ?_
  refine va_alen (v := nI n) hx hb hK hP 0 0 rfl rfl rfl dJ7_fill_53178_3 ?_
  refine lv_istore_n (lv' := [(3, .int (nI n)), (2, .int (nI 0)), (0, .ref ad), (1, .int v)]) hx hb dJ7_fill_53178_4 rfl hl (by decide) rfl (fun ls hl => ?_)
  have lp_5 : ∀ (n9 i : Nat), i + n9 = n → ∀ (H : Heap) (locs : List Loc) (ls : Array Slot), va_P D vwCl ([(ad, .inl (cI, n, .inl (fl (fun _ => v) i f)))]) H → va_D A ([(ad, .inl (cI, n, .inl (fl (fun _ => v) i f)))]) → va_S A s.heap H locs → lv_has ls 4 [(0, .ref ad), (1, .int v), (2, .int (nI i)), (3, .int (nI n))] → W p l e (rmL 1 0 0) s m ([.ref ad, .int v] : List Value).toArray below meth c H locs 0 0 (MQ below (qcV D A ([(ad, .inl (cI, n, .inl (fl (fun _ => v) n f)))])) ([.ref ad, .int v] : List Value).toArray s 0 0 A) (F0 m 5 ls []) := by
    intro n9
    induction n9 with
    | zero =>
      intro i hi H locs ls hP hD hS hl
      obtain rfl : i = n := by omega
      refine lv_iload_n hx hb dJ7_fill_53178_5 rfl (lv_at hl 2 rfl) ?_
      refine lv_iload_n hx hb dJ7_fill_53178_6 rfl (lv_at hl 3 rfl) ?_
      refine n_ge (tgt := 20) hx hb (by omega) (by omega) dJ7_fill_53178_7 (by decide) (fun c_7 => ?_) (fun c_7 => absurd c_7 (by omega))
      exact e_V hx hb hr hlocks hP hD hS dJ7_fill_53178_20
    | succ n9 ih =>
      intro i hi H locs ls hP hD hS hl
      refine lv_iload_n hx hb dJ7_fill_53178_5 rfl (lv_at hl 2 rfl) ?_
      refine lv_iload_n hx hb dJ7_fill_53178_6 rfl (lv_at hl 3 rfl) ?_
      refine n_ge (tgt := 20) hx hb (by omega) (by omega) dJ7_fill_53178_7 (by decide) (fun c_7 => absurd c_7 (by omega)) (fun c_7 => ?_)
      refine lv_aload_n hx hb dJ7_fill_53178_10 rfl (lv_at hl 0 rfl) ?_
      refine lv_iload_n hx hb dJ7_fill_53178_11 rfl (lv_at hl 2 rfl) ?_
      refine lv_iload_n hx hb dJ7_fill_53178_12 rfl (lv_at hl 1 rfl) ?_
      refine n_iast hx hb hK hP hD hS 0 0 rfl rfl i (by omega) (by omega) dJ7_fill_53178_13 (fun H locs hP hD hS => ?_)
      have hP : va_P D vwCl ([(ad, .inl (cI, n, .inl (upd (fl (fun _ => v) i f) i v)))]) H := hP
      have hD : va_D A ([(ad, .inl (cI, n, .inl (upd (fl (fun _ => v) i f) i v)))]) := hD
      refine n_iinc (lv' := [(2, .int (nI (i + 1))), (0, .ref ad), (1, .int v), (3, .int (nI n))]) hx hb dJ7_fill_53178_14 hl (k := 2) rfl (by decide) rfl (fun ls hl => ?_)
      refine lv_goto (tgt := 5) hx hb dJ7_fill_53178_17 (by decide) ?_
      have hP : va_P D vwCl ([(ad, .inl (cI, n, .inl (fl (fun _ => v) (i + 1) f)))]) H := by rw [← fl_s]; exact hP
      have hD : va_D A ([(ad, .inl (cI, n, .inl (fl (fun _ => v) (i + 1) f)))]) := by rw [← fl_s]; exact hD
      exact ih (i + 1) (by omega) _ _ _ hP hD hS (lv_sub hl [1, 2, 0, 3] rfl)
  have hP : va_P D vwCl ([(ad, .inl (cI, n, .inl (fl (fun _ => v) 0 f)))]) s.heap := by rw [fl_0]; exact hP
  have hD : va_D A ([(ad, .inl (cI, n, .inl (fl (fun _ => v) 0 f)))]) := by rw [fl_0]; exact hD
  exact lp_5 n 0 (by omega) _ _ _ hP hD hS (lv_sub hl [2, 3, 1, 0] rfl)
set_option maxHeartbeats 4000000 in
set_option maxRecDepth 100000 in
theorem tX0_failPower {l : Launch} {D : va_G} {cI cZ : ClassId} {h0 a0 a1 a2 a3 a4 a5 : Nat} (bf pw hs lo lg rt : Nat → Int32) (nb : Int32) (fi fo en : Nat) (on cu ma : Int32) : RV l yX0_failPower wsX0_failPower 2 0 0 D (tyC cI cZ) (wC h0 a0 a1 a2 a3 a4 a5 cI cZ bf pw hs lo lg rt nb (nI fi) (nI fo) (nI en) on cu ma) [.ref h0] (wC h0 a0 a1 a2 a3 a4 a5 cI cZ (zf bf) pw hs lo lg rt nb (nI fi) (nI fo) (nI fo) 0 cu ma) := by
  refine st_V (cc := cX0_failPower) (maxL := 1) (ret := none) (by decide +kernel) rfl (Nat.le_of_ble_eq_true rfl) ?_
  intro p e s m below meth c A hx hb hr hts hown hml hlocks hK hP hD hA hS ls hl
  have hown : s.vm.findClass RX0 = some m.cls := hown
  have hl : lv_has ls 1 [(0, .ref h0)] := hl
  refine lv_aload_n hx hb dX0_failPower_0 rfl (lv_at hl 0 rfl) ?_
  refine lv_iconst (v := (0)) hx hb dX0_failPower_1 (by decide) ?_
  refine va_put (ci := 0) (v := .int 0) (ty := .boolean) (C := RX0) (T := TX0) (N := 13) hx hb hts inX0_failPower tyX0 tyX0_ok nmX0 hown hK hP hD hS 0 rfl rfl 10 (by decide) (hts _ flX0_failPower_31) (fun _ h9 => h9) rfl (by decide +kernel) rfl rfl (Nat.le_of_ble_eq_true rfl) dX0_failPower_2 (fun H locs hP hD hS => ?_)
  have hP : va_P D vwCl (wC h0 a0 a1 a2 a3 a4 a5 cI cZ bf pw hs lo lg rt nb (nI fi) (nI fo) (nI en) 0 cu ma) H := hP
  have hD : va_D A (wC h0 a0 a1 a2 a3 a4 a5 cI cZ bf pw hs lo lg rt nb (nI fi) (nI fo) (nI en) 0 cu ma) := hD
  refine lv_aload_n hx hb dX0_failPower_5 rfl (lv_at hl 0 rfl) ?_
  refine lv_aload_n hx hb dX0_failPower_6 rfl (lv_at hl 0 rfl) ?_
  refine va_get (ci := 0) (v := .int (nI fo)) (C := RX0) (T := TX0) (N := 13) hx hb hts inX0_failPower hown hK hP 0 rfl rfl 7 (by decide) (hts _ flX0_failPower_96) (fun _ h9 => h9) rfl dX0_failPower_7 ?_
  refine va_put (ci := 0) (v := .int (nI fo)) (ty := .int) (C := RX0) (T := TX0) (N := 13) hx hb hts inX0_failPower tyX0 tyX0_ok nmX0 hown hK hP hD hS 0 rfl rfl 8 (by decide) (hts _ flX0_failPower_84) (fun _ h9 => h9) rfl (by decide +kernel) rfl rfl (Nat.le_of_ble_eq_true rfl) dX0_failPower_10 (fun H locs hP hD hS => ?_)
  have hP : va_P D vwCl (wC h0 a0 a1 a2 a3 a4 a5 cI cZ bf pw hs lo lg rt nb (nI fi) (nI fo) (nI fo) 0 cu ma) H := hP
  have hD : va_D A (wC h0 a0 a1 a2 a3 a4 a5 cI cZ bf pw hs lo lg rt nb (nI fi) (nI fo) (nI fo) 0 cu ma) := hD
  refine lv_aload_n hx hb dX0_failPower_13 rfl (lv_at hl 0 rfl) ?_
  refine va_get (ci := 0) (v := .ref a0) (C := RX0) (T := TX0) (N := 13) hx hb hts inX0_failPower hown hK hP 0 rfl rfl 0 (by decide) (hts _ flX0_failPower_9) (fun _ h9 => h9) rfl dX0_failPower_14 ?_
  refine lv_iconst (v := (0)) hx hb dX0_failPower_17 (by decide) ?_
  refine k_V (wr := List.eraseIdx (wC h0 a0 a1 a2 a3 a4 a5 cI cZ bf pw hs lo lg rt nb (nI fi) (nI fo) (nI fo) 0 cu ma) 1) hP hD hS hA (va_runS (As := [.ref a0, .int 0]) (rest := []) ⟨hx, hb, hml, hown, hts⟩ (tJ7_fill 64 (by omega) bf 0 _) (va_cwS 2 hts gX0_failPower_J7_fill_53178 rfl rfl rfl (by decide +kernel) ⟨Nat.le_of_ble_eq_true rfl, Nat.le_of_ble_eq_true rfl⟩) (pS_B hP hD hK [0] rfl [1] rfl rfl) rfl rfl hl.1 rfl (lv_room (Nat.le_of_ble_eq_true rfl)) dX0_failPower_18 ⟨Nat.le_of_ble_eq_true rfl, Nat.le_of_ble_eq_true rfl⟩) [1] [0, 2, 3, 4, 5, 6] rfl rfl rfl (by decide) (fun H locs hP hD hS => ?_)
  have hP : va_P D vwCl (wC h0 a0 a1 a2 a3 a4 a5 cI cZ (zf bf) pw hs lo lg rt nb (nI fi) (nI fo) (nI fo) 0 cu ma) H := hP.sub [0, 6, 1, 2, 3, 4, 5] rfl
  have hD : va_D A (wC h0 a0 a1 a2 a3 a4 a5 cI cZ (zf bf) pw hs lo lg rt nb (nI fi) (nI fo) (nI fo) 0 cu ma) := hD.sub [0, 6, 1, 2, 3, 4, 5] (by decide) rfl
  exact e_V hx hb hr hlocks hP hD hS dX0_failPower_21
set_option maxHeartbeats 4000000 in
set_option maxRecDepth 100000 in
theorem tX0_makeLeastWrite_cut {l : Launch} {D : va_G} {cI cZ : ClassId} {h0 a0 a1 a2 a3 a4 a5 : Nat} (bf pw hs lo lg rt : Nat → Int32) (nb : Int32) (fi fo en : Nat) (on cu ma : Int32) (h : cu = 0) : RI l yX0_makeLeastWrite wsX0_makeLeastWrite 3 0 0 D (tyC cI cZ) (wC h0 a0 a1 a2 a3 a4 a5 cI cZ bf pw hs lo lg rt nb (nI fi) (nI fo) (nI en) on cu ma) [.ref h0] 0 (wC h0 a0 a1 a2 a3 a4 a5 cI cZ (zf bf) pw hs lo lg rt nb (nI fi) (nI fo) (nI fo) 0 cu ma) := by
  refine st_I (cc := cX0_makeLeastWrite) (maxL := 1) (ret := (some .boolean)) (by decide +kernel) rfl (Nat.le_of_ble_eq_true rfl) ?_
  intro p e s m below meth c A hx hb hr hts hown hml hlocks hK hP hD hA hS ls hl
  have hown : s.vm.findClass RX0 = some m.cls := hown
  have hl : lv_has ls 1 [(0, .ref h0)] := hl
  refine lv_aload_n hx hb dX0_makeLeastWrite_0 rfl (lv_at hl 0 rfl) ?_
  refine va_get (ci := 0) (v := .int cu) (C := RX0) (T := TX0) (N := 13) hx hb hts inX0_makeLeastWrite hown hK hP 0 rfl rfl 11 (by decide) (hts _ flX0_makeLeastWrite_35) (fun _ h9 => h9) rfl dX0_makeLeastWrite_1 ?_
  refine lv_if_ne (tgt := 13) hx hb dX0_makeLeastWrite_4 (by decide) (fun c_4 => absurd (h) c_4) (fun c_4 => ?_)
  refine lv_aload_n hx hb dX0_makeLeastWrite_7 rfl (lv_at hl 0 rfl) ?_
  refine k_V (wr := []) hP hD hS hA (va_runV (As := []) (rest := []) ⟨hx, hb, hml, hown, hts⟩ ((tX0_failPower bf pw hs lo lg rt nb fi fo en on cu ma) _) (cwV 0 hts gX0_makeLeastWrite_X0_failPower rfl rfl rfl (by decide +kernel) ⟨Nat.le_of_ble_eq_true rfl, Nat.le_of_ble_eq_true rfl⟩) (pV_B hP hD hK (ci := 0) (q0 := 0) rfl rfl rfl [0, 1] rfl [0, 1, 2, 3, 4, 5, 6] rfl rfl) rfl rfl hl.1 rfl (lv_room (Nat.le_of_ble_eq_true rfl)) dX0_makeLeastWrite_8 ⟨Nat.le_of_ble_eq_true rfl, Nat.le_of_ble_eq_true rfl⟩) [0, 1, 2, 3, 4, 5, 6] [] rfl rfl rfl (by decide) (fun H locs hP hD hS => ?_)
  have hP : va_P D vwCl (wC h0 a0 a1 a2 a3 a4 a5 cI cZ (zf bf) pw hs lo lg rt nb (nI fi) (nI fo) (nI fo) 0 cu ma) H := hP
  have hD : va_D A (wC h0 a0 a1 a2 a3 a4 a5 cI cZ (zf bf) pw hs lo lg rt nb (nI fi) (nI fo) (nI fo) 0 cu ma) := hD
  refine lv_iconst (v := (0)) hx hb dX0_makeLeastWrite_11 (by decide) ?_
  exact e_Z hx hb hr hlocks hP hD hS rfl rfl dX0_makeLeastWrite_12
set_option maxHeartbeats 4000000 in
set_option maxRecDepth 100000 in
theorem tX0_makeLeastWrite_ok {l : Launch} {D : va_G} {cI cZ : ClassId} {h0 a0 a1 a2 a3 a4 a5 : Nat} (bf pw hs lo lg rt : Nat → Int32) (nb : Int32) (fi fo en : Nat) (on cu ma : Int32) (h : ¬ cu = 0) : RI l yX0_makeLeastWrite wsX0_makeLeastWrite 3 0 0 D (tyC cI cZ) (wC h0 a0 a1 a2 a3 a4 a5 cI cZ bf pw hs lo lg rt nb (nI fi) (nI fo) (nI en) on cu ma) [.ref h0] 1 (wC h0 a0 a1 a2 a3 a4 a5 cI cZ bf pw hs lo lg rt nb (nI fi) (nI fo) (nI en) on (dcu cu) (ma + 1)) := by
  refine st_I (cc := cX0_makeLeastWrite) (maxL := 1) (ret := (some .boolean)) (by decide +kernel) rfl (Nat.le_of_ble_eq_true rfl) ?_
  intro p e s m below meth c A hx hb hr hts hown hml hlocks hK hP hD hA hS ls hl
  have hown : s.vm.findClass RX0 = some m.cls := hown
  have hl : lv_has ls 1 [(0, .ref h0)] := hl
  refine lv_aload_n hx hb dX0_makeLeastWrite_0 rfl (lv_at hl 0 rfl) ?_
  refine va_get (ci := 0) (v := .int cu) (C := RX0) (T := TX0) (N := 13) hx hb hts inX0_makeLeastWrite hown hK hP 0 rfl rfl 11 (by decide) (hts _ flX0_makeLeastWrite_35) (fun _ h9 => h9) rfl dX0_makeLeastWrite_1 ?_
  refine lv_if_ne (tgt := 13) hx hb dX0_makeLeastWrite_4 (by decide) (fun c_4 => ?_) (fun c_4 => absurd c_4 (h))
  refine lv_aload_n hx hb dX0_makeLeastWrite_13 rfl (lv_at hl 0 rfl) ?_
  refine va_get (ci := 0) (v := .int cu) (C := RX0) (T := TX0) (N := 13) hx hb hts inX0_makeLeastWrite hown hK hP 0 rfl rfl 11 (by decide) (hts _ flX0_makeLeastWrite_35) (fun _ h9 => h9) rfl dX0_makeLeastWrite_14 ?_
  refine lv_iconst (v := (-1)) hx hb dX0_makeLeastWrite_17 (by decide) ?_
  refine lv_icmp_eq (tgt := 31) hx hb dX0_makeLeastWrite_18 (by decide) (fun c_18 => ?_) (fun c_18 => ?_)
  · have hP : va_P D vwCl (wC h0 a0 a1 a2 a3 a4 a5 cI cZ bf pw hs lo lg rt nb (nI fi) (nI fo) (nI en) on (dcu cu) ma) s.heap := by rw [show dcu cu = cu by simp [dcu, c_18]]; exact hP
    have hD : va_D A (wC h0 a0 a1 a2 a3 a4 a5 cI cZ bf pw hs lo lg rt nb (nI fi) (nI fo) (nI en) on (dcu cu) ma) := by rw [show dcu cu = cu by simp [dcu, c_18]]; exact hD
    refine lv_aload_n hx hb dX0_makeLeastWrite_31 rfl (lv_at hl 0 rfl) ?_
    refine lv_dup hx hb dX0_makeLeastWrite_32 rfl ?_
    refine va_get (ci := 0) (v := .int ma) (C := RX0) (T := TX0) (N := 13) hx hb hts inX0_makeLeastWrite hown hK hP 0 rfl rfl 12 (by decide) (hts _ flX0_makeLeastWrite_108) (fun _ h9 => h9) rfl dX0_makeLeastWrite_33 ?_
    refine lv_iconst (v := (1)) hx hb dX0_makeLeastWrite_36 (by decide) ?_
    refine lv_iadd hx hb dX0_makeLeastWrite_37 ?_
    refine va_put (ci := 0) (v := .int (ma + 1)) (ty := .int) (C := RX0) (T := TX0) (N := 13) hx hb hts inX0_makeLeastWrite tyX0 tyX0_ok nmX0 hown hK hP hD hS 0 rfl rfl 12 (by decide) (hts _ flX0_makeLeastWrite_108) (fun _ h9 => h9) rfl (by decide +kernel) rfl rfl (Nat.le_of_ble_eq_true rfl) dX0_makeLeastWrite_38 (fun H locs hP hD hS => ?_)
    have hP : va_P D vwCl (wC h0 a0 a1 a2 a3 a4 a5 cI cZ bf pw hs lo lg rt nb (nI fi) (nI fo) (nI en) on (dcu cu) (ma + 1)) H := hP
    have hD : va_D A (wC h0 a0 a1 a2 a3 a4 a5 cI cZ bf pw hs lo lg rt nb (nI fi) (nI fo) (nI en) on (dcu cu) (ma + 1)) := hD
    refine lv_iconst (v := (1)) hx hb dX0_makeLeastWrite_41 (by decide) ?_
    exact e_Z hx hb hr hlocks hP hD hS rfl rfl dX0_makeLeastWrite_42
  · refine lv_aload_n hx hb dX0_makeLeastWrite_21 rfl (lv_at hl 0 rfl) ?_
    refine lv_dup hx hb dX0_makeLeastWrite_22 rfl ?_
    refine va_get (ci := 0) (v := .int cu) (C := RX0) (T := TX0) (N := 13) hx hb hts inX0_makeLeastWrite hown hK hP 0 rfl rfl 11 (by decide) (hts _ flX0_makeLeastWrite_35) (fun _ h9 => h9) rfl dX0_makeLeastWrite_23 ?_
    refine lv_iconst (v := (1)) hx hb dX0_makeLeastWrite_26 (by decide) ?_
    refine lv_isub hx hb dX0_makeLeastWrite_27 ?_
    refine va_put (ci := 0) (v := .int (cu - 1)) (ty := .int) (C := RX0) (T := TX0) (N := 13) hx hb hts inX0_makeLeastWrite tyX0 tyX0_ok nmX0 hown hK hP hD hS 0 rfl rfl 11 (by decide) (hts _ flX0_makeLeastWrite_35) (fun _ h9 => h9) rfl (by decide +kernel) rfl rfl (Nat.le_of_ble_eq_true rfl) dX0_makeLeastWrite_28 (fun H locs hP hD hS => ?_)
    have hP : va_P D vwCl (wC h0 a0 a1 a2 a3 a4 a5 cI cZ bf pw hs lo lg rt nb (nI fi) (nI fo) (nI en) on (cu - 1) ma) H := hP
    have hD : va_D A (wC h0 a0 a1 a2 a3 a4 a5 cI cZ bf pw hs lo lg rt nb (nI fi) (nI fo) (nI en) on (cu - 1) ma) := hD
    have hP : va_P D vwCl (wC h0 a0 a1 a2 a3 a4 a5 cI cZ bf pw hs lo lg rt nb (nI fi) (nI fo) (nI en) on (dcu cu) ma) H := by rw [show dcu cu = cu - 1 by simp [dcu, c_18]]; exact hP
    have hD : va_D A (wC h0 a0 a1 a2 a3 a4 a5 cI cZ bf pw hs lo lg rt nb (nI fi) (nI fo) (nI en) on (dcu cu) ma) := by rw [show dcu cu = cu - 1 by simp [dcu, c_18]]; exact hD
    refine lv_aload_n hx hb dX0_makeLeastWrite_31 rfl (lv_at hl 0 rfl) ?_
    refine lv_dup hx hb dX0_makeLeastWrite_32 rfl ?_
    refine va_get (ci := 0) (v := .int ma) (C := RX0) (T := TX0) (N := 13) hx hb hts inX0_makeLeastWrite hown hK hP 0 rfl rfl 12 (by decide) (hts _ flX0_makeLeastWrite_108) (fun _ h9 => h9) rfl dX0_makeLeastWrite_33 ?_
    refine lv_iconst (v := (1)) hx hb dX0_makeLeastWrite_36 (by decide) ?_
    refine lv_iadd hx hb dX0_makeLeastWrite_37 ?_
    refine va_put (ci := 0) (v := .int (ma + 1)) (ty := .int) (C := RX0) (T := TX0) (N := 13) hx hb hts inX0_makeLeastWrite tyX0 tyX0_ok nmX0 hown hK hP hD hS 0 rfl rfl 12 (by decide) (hts _ flX0_makeLeastWrite_108) (fun _ h9 => h9) rfl (by decide +kernel) rfl rfl (Nat.le_of_ble_eq_true rfl) dX0_makeLeastWrite_38 (fun H locs hP hD hS => ?_)
    have hP : va_P D vwCl (wC h0 a0 a1 a2 a3 a4 a5 cI cZ bf pw hs lo lg rt nb (nI fi) (nI fo) (nI en) on (dcu cu) (ma + 1)) H := hP
    have hD : va_D A (wC h0 a0 a1 a2 a3 a4 a5 cI cZ bf pw hs lo lg rt nb (nI fi) (nI fo) (nI en) on (dcu cu) (ma + 1)) := hD
    refine lv_iconst (v := (1)) hx hb dX0_makeLeastWrite_41 (by decide) ?_
    exact e_Z hx hb hr hlocks hP hD hS rfl rfl dX0_makeLeastWrite_42
set_option maxHeartbeats 4000000 in
set_option maxRecDepth 100000 in
theorem tX0_writePage_b0 {l : Launch} {D : va_G} {cI cZ : ClassId} {h0 a0 a1 a2 a3 a4 a5 : Nat} (bf pw hs lo lg rt : Nat → Int32) (nb : Int32) (fi fo en : Nat) (on cu ma : Int32) (k : Nat) (hk : k < 512) (h : cu = 0) : RI l yX0_writePage wsX0_writePage 4 0 0 D (tyC cI cZ) (wC h0 a0 a1 a2 a3 a4 a5 cI cZ bf pw hs lo lg rt nb (nI fi) (nI fo) (nI en) on cu ma) [.ref h0, .int (nI k), .ref a0, .int (nI 0)] (-1) (wC h0 a0 a1 a2 a3 a4 a5 cI cZ (zf bf) pw hs lo lg rt (nb + 1) (nI fi) (nI fo) (nI fo) 0 cu ma) := by
  refine st_I (cc := cX0_writePage) (maxL := 6) (ret := (some .int)) (by decide +kernel) rfl (Nat.le_of_ble_eq_true rfl) ?_
  intro p e s m below meth c A hx hb hr hts hown hml hlocks hK hP hD hA hS ls hl
  have hown : s.vm.findClass RX0 = some m.cls := hown
  have hl : lv_has ls 6 [(0, .ref h0), (1, .int (nI k)), (2, .ref a0), (3, .int (nI 0))] := hl
  refine lv_aload_n hx hb dX0_writePage_0 rfl (lv_at hl 0 rfl) ?_
  refine lv_dup hx hb dX0_writePage_1 rfl ?_
  refine va_get (ci := 0) (v := .int nb) (C := RX0) (T := TX0) (N := 13) hx hb hts inX0_writePage hown hK hP 0 rfl rfl 4 (by decide) (hts _ flX0_writePage_128) (fun _ h9 => h9) rfl dX0_writePage_2 ?_
  refine lv_iconst (v := (1)) hx hb dX0_writePage_5 (by decide) ?_
  refine lv_iadd hx hb dX0_writePage_6 ?_
  refine va_put (ci := 0) (v := .int (nb + 1)) (ty := .int) (C := RX0) (T := TX0) (N := 13) hx hb hts inX0_writePage tyX0 tyX0_ok nmX0 hown hK hP hD hS 0 rfl rfl 4 (by decide) (hts _ flX0_writePage_128) (fun _ h9 => h9) rfl (by decide +kernel) rfl rfl (Nat.le_of_ble_eq_true rfl) dX0_writePage_7 (fun H locs hP hD hS => ?_)
  have hP : va_P D vwCl (wC h0 a0 a1 a2 a3 a4 a5 cI cZ bf pw hs lo lg rt (nb + 1) (nI fi) (nI fo) (nI en) on cu ma) H := hP
  have hD : va_D A (wC h0 a0 a1 a2 a3 a4 a5 cI cZ bf pw hs lo lg rt (nb + 1) (nI fi) (nI fo) (nI en) on cu ma) := hD
  refine lv_iconst (v := (nI 0)) hx hb dX0_writePage_10 (by decide) ?_
  refine lv_istore (lv' := [(4, .int (nI 0)), (0, .ref h0), (1, .int (nI k)), (2, .ref a0), (3, .int (nI 0))]) hx hb dX0_writePage_11 hl (by decide) rfl (fun ls hl => ?_)
  refine lv_iload hx hb dX0_writePage_13 (lv_at hl 0 rfl) ?_
  refine lv_iconst (v := (nI 2)) hx hb dX0_writePage_15 (by decide) ?_
  refine n_ge (tgt := 77) hx hb (by omega) (by omega) dX0_writePage_16 (by decide) (fun c_16 => absurd c_16 (by omega)) (fun c_16 => ?_)
  refine lv_aload_n hx hb dX0_writePage_19 rfl (lv_at hl 1 rfl) ?_
  refine k_I (wr := []) hP hD hS hA (va_runV (As := []) (rest := []) ⟨hx, hb, hml, hown, hts⟩ ((tX0_makeLeastWrite_cut bf pw hs lo lg rt (nb + 1) fi fo en on cu ma h) _) (cwV 0 hts gX0_writePage_X0_makeLeastWrite rfl rfl rfl (by decide +kernel) ⟨Nat.le_of_ble_eq_true rfl, Nat.le_of_ble_eq_true rfl⟩) (pV_B hP hD hK (ci := 0) (q0 := 0) rfl rfl rfl [0, 1] rfl [0, 1, 2, 3, 4, 5, 6] rfl rfl) rfl rfl hl.1 rfl (lv_room (Nat.le_of_ble_eq_true rfl)) dX0_writePage_20 ⟨Nat.le_of_ble_eq_true rfl, Nat.le_of_ble_eq_true rfl⟩) [0, 1, 2, 3, 4, 5, 6] [] rfl rfl rfl (by decide) (fun H locs hP hD hS => ?_)
  have hP : va_P D vwCl (wC h0 a0 a1 a2 a3 a4 a5 cI cZ (zf bf) pw hs lo lg rt (nb + 1) (nI fi) (nI fo) (nI fo) 0 cu ma) H := hP
  have hD : va_D A (wC h0 a0 a1 a2 a3 a4 a5 cI cZ (zf bf) pw hs lo lg rt (nb + 1) (nI fi) (nI fo) (nI fo) 0 cu ma) := hD
  refine lv_if_ne (tgt := 28) hx hb dX0_writePage_23 (by decide) (fun c_23 => absurd (rfl) c_23) (fun c_23 => ?_)
  refine lv_iconst (v := (-1)) hx hb dX0_writePage_26 (by decide) ?_
  exact e_I hx hb hr hlocks hP hD hS rfl dX0_writePage_27
set_option maxHeartbeats 4000000 in
set_option maxRecDepth 100000 in
theorem tX0_writePage_b1 {l : Launch} {D : va_G} {cI cZ : ClassId} {h0 a0 a1 a2 a3 a4 a5 : Nat} (bf pw hs lo lg rt : Nat → Int32) (nb : Int32) (fi fo en : Nat) (on cu ma : Int32) (k : Nat) (hk : k < 512) (h : ¬ cu = 0) (h1 : dcu cu = 0) : RI l yX0_writePage wsX0_writePage 4 0 0 D (tyC cI cZ) (wC h0 a0 a1 a2 a3 a4 a5 cI cZ bf pw hs lo lg rt nb (nI fi) (nI fo) (nI en) on cu ma) [.ref h0, .int (nI k), .ref a0, .int (nI 0)] (-1) (wC h0 a0 a1 a2 a3 a4 a5 cI cZ (zf bf) (va_cpy bf pw 0 (k * 64) 32) (upd hs (k * 2) (nb + 1)) lo lg rt (nb + 1) (nI fi) (nI fo) (nI fo) 0 (dcu cu) (ma + 1)) := by
  refine st_I (cc := cX0_writePage) (maxL := 6) (ret := (some .int)) (by decide +kernel) rfl (Nat.le_of_ble_eq_true rfl) ?_
  intro p e s m below meth c A hx hb hr hts hown hml hlocks hK hP hD hA hS ls hl
  have hown : s.vm.findClass RX0 = some m.cls := hown
  have hl : lv_has ls 6 [(0, .ref h0), (1, .int (nI k)), (2, .ref a0), (3, .int (nI 0))] := hl
  refine lv_aload_n hx hb dX0_writePage_0 rfl (lv_at hl 0 rfl) ?_
  refine lv_dup hx hb dX0_writePage_1 rfl ?_
  refine va_get (ci := 0) (v := .int nb) (C := RX0) (T := TX0) (N := 13) hx hb hts inX0_writePage hown hK hP 0 rfl rfl 4 (by decide) (hts _ flX0_writePage_128) (fun _ h9 => h9) rfl dX0_writePage_2 ?_
  refine lv_iconst (v := (1)) hx hb dX0_writePage_5 (by decide) ?_
  refine lv_iadd hx hb dX0_writePage_6 ?_
  refine va_put (ci := 0) (v := .int (nb + 1)) (ty := .int) (C := RX0) (T := TX0) (N := 13) hx hb hts inX0_writePage tyX0 tyX0_ok nmX0 hown hK hP hD hS 0 rfl rfl 4 (by decide) (hts _ flX0_writePage_128) (fun _ h9 => h9) rfl (by decide +kernel) rfl rfl (Nat.le_of_ble_eq_true rfl) dX0_writePage_7 (fun H locs hP hD hS => ?_)
  have hP : va_P D vwCl (wC h0 a0 a1 a2 a3 a4 a5 cI cZ bf pw hs lo lg rt (nb + 1) (nI fi) (nI fo) (nI en) on cu ma) H := hP
  have hD : va_D A (wC h0 a0 a1 a2 a3 a4 a5 cI cZ bf pw hs lo lg rt (nb + 1) (nI fi) (nI fo) (nI en) on cu ma) := hD
  refine lv_iconst (v := (nI 0)) hx hb dX0_writePage_10 (by decide) ?_
  refine lv_istore (lv' := [(4, .int (nI 0)), (0, .ref h0), (1, .int (nI k)), (2, .ref a0), (3, .int (nI 0))]) hx hb dX0_writePage_11 hl (by decide) rfl (fun ls hl => ?_)
  refine lv_iload hx hb dX0_writePage_13 (lv_at hl 0 rfl) ?_
  refine lv_iconst (v := (nI 2)) hx hb dX0_writePage_15 (by decide) ?_
  refine n_ge (tgt := 77) hx hb (by omega) (by omega) dX0_writePage_16 (by decide) (fun c_16 => absurd c_16 (by omega)) (fun c_16 => ?_)
  refine lv_aload_n hx hb dX0_writePage_19 rfl (lv_at hl 1 rfl) ?_
  refine k_I (wr := []) hP hD hS hA (va_runV (As := []) (rest := []) ⟨hx, hb, hml, hown, hts⟩ ((tX0_makeLeastWrite_ok bf pw hs lo lg rt (nb + 1) fi fo en on cu ma h) _) (cwV 0 hts gX0_writePage_X0_makeLeastWrite rfl rfl rfl (by decide +kernel) ⟨Nat.le_of_ble_eq_true rfl, Nat.le_of_ble_eq_true rfl⟩) (pV_B hP hD hK (ci := 0) (q0 := 0) rfl rfl rfl [0, 1] rfl [0, 1, 2, 3, 4, 5, 6] rfl rfl) rfl rfl hl.1 rfl (lv_room (Nat.le_of_ble_eq_true rfl)) dX0_writePage_20 ⟨Nat.le_of_ble_eq_true rfl, Nat.le_of_ble_eq_true rfl⟩) [0, 1, 2, 3, 4, 5, 6] [] rfl rfl rfl (by decide) (fun H locs hP hD hS => ?_)
  have hP : va_P D vwCl (wC h0 a0 a1 a2 a3 a4 a5 cI cZ bf pw hs lo lg rt (nb + 1) (nI fi) (nI fo) (nI en) on (dcu cu) (ma + 1)) H := hP
  have hD : va_D A (wC h0 a0 a1 a2 a3 a4 a5 cI cZ bf pw hs lo lg rt (nb + 1) (nI fi) (nI fo) (nI en) on (dcu cu) (ma + 1)) := hD
  refine lv_if_ne (tgt := 28) hx hb dX0_writePage_23 (by decide) (fun c_23 => ?_) (fun c_23 => absurd c_23 (by decide))
  refine lv_iload hx hb dX0_writePage_28 (lv_at hl 0 rfl) ?_
  refine lv_bipush (v := (nI 32)) hx hb dX0_writePage_30 (by decide) ?_
  refine n_imul hx hb dX0_writePage_32 ?_
  refine lv_istore (lv' := [(5, .int (nI 0)), (4, .int (nI 0)), (0, .ref h0), (1, .int (nI k)), (2, .ref a0), (3, .int (nI 0))]) hx hb dX0_writePage_33 hl (by decide) rfl (fun ls hl => ?_)
  refine lv_aload_n hx hb dX0_writePage_35 rfl (lv_at hl 4 rfl) ?_
  refine lv_iload_n hx hb dX0_writePage_36 rfl (lv_at hl 5 rfl) ?_
  refine lv_iload hx hb dX0_writePage_37 (lv_at hl 0 rfl) ?_
  refine n_iadd hx hb dX0_writePage_39 ?_
  refine lv_aload_n hx hb dX0_writePage_40 rfl (lv_at hl 2 rfl) ?_
  refine va_get (ci := 0) (v := .ref a1) (C := RX0) (T := TX0) (N := 13) hx hb hts inX0_writePage hown hK hP 0 rfl rfl 1 (by decide) (hts _ flX0_writePage_14) (fun _ h9 => h9) rfl dX0_writePage_41 ?_
  refine lv_iload_n hx hb dX0_writePage_44 rfl (lv_at hl 3 rfl) ?_
  refine lv_bipush (v := (nI 64)) hx hb dX0_writePage_45 (by decide) ?_
  refine n_imul hx hb dX0_writePage_47 ?_
  refine lv_iload hx hb dX0_writePage_48 (lv_at hl 0 rfl) ?_
  refine n_iadd hx hb dX0_writePage_50 ?_
  refine lv_bipush (v := (nI 32)) hx hb dX0_writePage_51 (by decide) ?_
  refine n_copyi hx hb hl.1 hml hown acX0_writePage hts hK hP hD hS 1 2 0 rfl rfl rfl 0 (k * 64) 32 (by omega) (by omega) (by omega) (by omega) (by omega) (Nat.le_of_ble_eq_true rfl) (Nat.le_of_ble_eq_true rfl) dX0_writePage_53 (fun H locs hP hD hS => ?_)
  have hP : va_P D vwCl (wC h0 a0 a1 a2 a3 a4 a5 cI cZ bf (va_cpy bf pw 0 (k * 64) 32) hs lo lg rt (nb + 1) (nI fi) (nI fo) (nI en) on (dcu cu) (ma + 1)) H := hP
  have hD : va_D A (wC h0 a0 a1 a2 a3 a4 a5 cI cZ bf (va_cpy bf pw 0 (k * 64) 32) hs lo lg rt (nb + 1) (nI fi) (nI fo) (nI en) on (dcu cu) (ma + 1)) := hD
  refine lv_aload_n hx hb dX0_writePage_56 rfl (lv_at hl 2 rfl) ?_
  refine va_get (ci := 0) (v := .ref a2) (C := RX0) (T := TX0) (N := 13) hx hb hts inX0_writePage hown hK hP 0 rfl rfl 2 (by decide) (hts _ flX0_writePage_17) (fun _ h9 => h9) rfl dX0_writePage_57 ?_
  refine lv_iload_n hx hb dX0_writePage_60 rfl (lv_at hl 3 rfl) ?_
  refine lv_iconst (v := (nI 2)) hx hb dX0_writePage_61 (by decide) ?_
  refine n_imul hx hb dX0_writePage_62 ?_
  refine lv_iload hx hb dX0_writePage_63 (lv_at hl 1 rfl) ?_
  refine n_iadd hx hb dX0_writePage_65 ?_
  refine lv_aload_n hx hb dX0_writePage_66 rfl (lv_at hl 2 rfl) ?_
  refine va_get (ci := 0) (v := .int (nb + 1)) (C := RX0) (T := TX0) (N := 13) hx hb hts inX0_writePage hown hK hP 0 rfl rfl 4 (by decide) (hts _ flX0_writePage_128) (fun _ h9 => h9) rfl dX0_writePage_67 ?_
  refine n_iast hx hb hK hP hD hS 3 0 rfl rfl (k * 2) (by omega) (by omega) dX0_writePage_70 (fun H locs hP hD hS => ?_)
  have hP : va_P D vwCl (wC h0 a0 a1 a2 a3 a4 a5 cI cZ bf (va_cpy bf pw 0 (k * 64) 32) (upd hs (k * 2) (nb + 1)) lo lg rt (nb + 1) (nI fi) (nI fo) (nI en) on (dcu cu) (ma + 1)) H := hP
  have hD : va_D A (wC h0 a0 a1 a2 a3 a4 a5 cI cZ bf (va_cpy bf pw 0 (k * 64) 32) (upd hs (k * 2) (nb + 1)) lo lg rt (nb + 1) (nI fi) (nI fo) (nI en) on (dcu cu) (ma + 1)) := hD
  refine n_iinc (lv' := [(4, .int (nI 1)), (5, .int (nI 0)), (0, .ref h0), (1, .int (nI k)), (2, .ref a0), (3, .int (nI 0))]) hx hb dX0_writePage_71 hl (k := 1) rfl (by decide) rfl (fun ls hl => ?_)
  refine lv_goto (tgt := 13) hx hb dX0_writePage_74 (by decide) ?_
  refine lv_iload hx hb dX0_writePage_13 (lv_at hl 0 rfl) ?_
  refine lv_iconst (v := (nI 2)) hx hb dX0_writePage_15 (by decide) ?_
  refine n_ge (tgt := 77) hx hb (by omega) (by omega) dX0_writePage_16 (by decide) (fun c_16 => absurd c_16 (by omega)) (fun c_16 => ?_)
  refine lv_aload_n hx hb dX0_writePage_19 rfl (lv_at hl 2 rfl) ?_
  refine k_I (wr := []) hP hD hS hA (va_runV (As := []) (rest := []) ⟨hx, hb, hml, hown, hts⟩ ((tX0_makeLeastWrite_cut bf (va_cpy bf pw 0 (k * 64) 32) (upd hs (k * 2) (nb + 1)) lo lg rt (nb + 1) fi fo en on (dcu cu) (ma + 1) h1) _) (cwV 0 hts gX0_writePage_X0_makeLeastWrite rfl rfl rfl (by decide +kernel) ⟨Nat.le_of_ble_eq_true rfl, Nat.le_of_ble_eq_true rfl⟩) (pV_B hP hD hK (ci := 0) (q0 := 0) rfl rfl rfl [0, 1] rfl [0, 1, 2, 3, 4, 5, 6] rfl rfl) rfl rfl hl.1 rfl (lv_room (Nat.le_of_ble_eq_true rfl)) dX0_writePage_20 ⟨Nat.le_of_ble_eq_true rfl, Nat.le_of_ble_eq_true rfl⟩) [0, 1, 2, 3, 4, 5, 6] [] rfl rfl rfl (by decide) (fun H locs hP hD hS => ?_)
  have hP : va_P D vwCl (wC h0 a0 a1 a2 a3 a4 a5 cI cZ (zf bf) (va_cpy bf pw 0 (k * 64) 32) (upd hs (k * 2) (nb + 1)) lo lg rt (nb + 1) (nI fi) (nI fo) (nI fo) 0 (dcu cu) (ma + 1)) H := hP
  have hD : va_D A (wC h0 a0 a1 a2 a3 a4 a5 cI cZ (zf bf) (va_cpy bf pw 0 (k * 64) 32) (upd hs (k * 2) (nb + 1)) lo lg rt (nb + 1) (nI fi) (nI fo) (nI fo) 0 (dcu cu) (ma + 1)) := hD
  refine lv_if_ne (tgt := 28) hx hb dX0_writePage_23 (by decide) (fun c_23 => absurd (rfl) c_23) (fun c_23 => ?_)
  refine lv_iconst (v := (-1)) hx hb dX0_writePage_26 (by decide) ?_
  exact e_I hx hb hr hlocks hP hD hS rfl dX0_writePage_27
set_option maxHeartbeats 4000000 in
set_option maxRecDepth 100000 in
theorem tX0_writePage_b2 {l : Launch} {D : va_G} {cI cZ : ClassId} {h0 a0 a1 a2 a3 a4 a5 : Nat} (bf pw hs lo lg rt : Nat → Int32) (nb : Int32) (fi fo en : Nat) (on cu ma : Int32) (k : Nat) (hk : k < 512) (h : ¬ cu = 0) (h1 : ¬ dcu cu = 0) : RI l yX0_writePage wsX0_writePage 4 0 0 D (tyC cI cZ) (wC h0 a0 a1 a2 a3 a4 a5 cI cZ bf pw hs lo lg rt nb (nI fi) (nI fo) (nI en) on cu ma) [.ref h0, .int (nI k), .ref a0, .int (nI 0)] (nb + 1) (wC h0 a0 a1 a2 a3 a4 a5 cI cZ bf (va_cpy bf (va_cpy bf pw 0 (k * 64) 32) 32 (k * 64 + 32) 32) (upd (upd hs (k * 2) (nb + 1)) (k * 2 + 1) (nb + 1)) (upd lo k 0) lg rt (nb + 1) (nI fi) (nI fo) (nI en) on (dcu (dcu cu)) (ma + 1 + 1)) := by
  refine st_I (cc := cX0_writePage) (maxL := 6) (ret := (some .int)) (by decide +kernel) rfl (Nat.le_of_ble_eq_true rfl) ?_
  intro p e s m below meth c A hx hb hr hts hown hml hlocks hK hP hD hA hS ls hl
  have hown : s.vm.findClass RX0 = some m.cls := hown
  have hl : lv_has ls 6 [(0, .ref h0), (1, .int (nI k)), (2, .ref a0), (3, .int (nI 0))] := hl
  refine lv_aload_n hx hb dX0_writePage_0 rfl (lv_at hl 0 rfl) ?_
  refine lv_dup hx hb dX0_writePage_1 rfl ?_
  refine va_get (ci := 0) (v := .int nb) (C := RX0) (T := TX0) (N := 13) hx hb hts inX0_writePage hown hK hP 0 rfl rfl 4 (by decide) (hts _ flX0_writePage_128) (fun _ h9 => h9) rfl dX0_writePage_2 ?_
  refine lv_iconst (v := (1)) hx hb dX0_writePage_5 (by decide) ?_
  refine lv_iadd hx hb dX0_writePage_6 ?_
  refine va_put (ci := 0) (v := .int (nb + 1)) (ty := .int) (C := RX0) (T := TX0) (N := 13) hx hb hts inX0_writePage tyX0 tyX0_ok nmX0 hown hK hP hD hS 0 rfl rfl 4 (by decide) (hts _ flX0_writePage_128) (fun _ h9 => h9) rfl (by decide +kernel) rfl rfl (Nat.le_of_ble_eq_true rfl) dX0_writePage_7 (fun H locs hP hD hS => ?_)
  have hP : va_P D vwCl (wC h0 a0 a1 a2 a3 a4 a5 cI cZ bf pw hs lo lg rt (nb + 1) (nI fi) (nI fo) (nI en) on cu ma) H := hP
  have hD : va_D A (wC h0 a0 a1 a2 a3 a4 a5 cI cZ bf pw hs lo lg rt (nb + 1) (nI fi) (nI fo) (nI en) on cu ma) := hD
  refine lv_iconst (v := (nI 0)) hx hb dX0_writePage_10 (by decide) ?_
  refine lv_istore (lv' := [(4, .int (nI 0)), (0, .ref h0), (1, .int (nI k)), (2, .ref a0), (3, .int (nI 0))]) hx hb dX0_writePage_11 hl (by decide) rfl (fun ls hl => ?_)
  refine lv_iload hx hb dX0_writePage_13 (lv_at hl 0 rfl) ?_
  refine lv_iconst (v := (nI 2)) hx hb dX0_writePage_15 (by decide) ?_
  refine n_ge (tgt := 77) hx hb (by omega) (by omega) dX0_writePage_16 (by decide) (fun c_16 => absurd c_16 (by omega)) (fun c_16 => ?_)
  refine lv_aload_n hx hb dX0_writePage_19 rfl (lv_at hl 1 rfl) ?_
  refine k_I (wr := []) hP hD hS hA (va_runV (As := []) (rest := []) ⟨hx, hb, hml, hown, hts⟩ ((tX0_makeLeastWrite_ok bf pw hs lo lg rt (nb + 1) fi fo en on cu ma h) _) (cwV 0 hts gX0_writePage_X0_makeLeastWrite rfl rfl rfl (by decide +kernel) ⟨Nat.le_of_ble_eq_true rfl, Nat.le_of_ble_eq_true rfl⟩) (pV_B hP hD hK (ci := 0) (q0 := 0) rfl rfl rfl [0, 1] rfl [0, 1, 2, 3, 4, 5, 6] rfl rfl) rfl rfl hl.1 rfl (lv_room (Nat.le_of_ble_eq_true rfl)) dX0_writePage_20 ⟨Nat.le_of_ble_eq_true rfl, Nat.le_of_ble_eq_true rfl⟩) [0, 1, 2, 3, 4, 5, 6] [] rfl rfl rfl (by decide) (fun H locs hP hD hS => ?_)
  have hP : va_P D vwCl (wC h0 a0 a1 a2 a3 a4 a5 cI cZ bf pw hs lo lg rt (nb + 1) (nI fi) (nI fo) (nI en) on (dcu cu) (ma + 1)) H := hP
  have hD : va_D A (wC h0 a0 a1 a2 a3 a4 a5 cI cZ bf pw hs lo lg rt (nb + 1) (nI fi) (nI fo) (nI en) on (dcu cu) (ma + 1)) := hD
  refine lv_if_ne (tgt := 28) hx hb dX0_writePage_23 (by decide) (fun c_23 => ?_) (fun c_23 => absurd c_23 (by decide))
  refine lv_iload hx hb dX0_writePage_28 (lv_at hl 0 rfl) ?_
  refine lv_bipush (v := (nI 32)) hx hb dX0_writePage_30 (by decide) ?_
  refine n_imul hx hb dX0_writePage_32 ?_
  refine lv_istore (lv' := [(5, .int (nI 0)), (4, .int (nI 0)), (0, .ref h0), (1, .int (nI k)), (2, .ref a0), (3, .int (nI 0))]) hx hb dX0_writePage_33 hl (by decide) rfl (fun ls hl => ?_)
  refine lv_aload_n hx hb dX0_writePage_35 rfl (lv_at hl 4 rfl) ?_
  refine lv_iload_n hx hb dX0_writePage_36 rfl (lv_at hl 5 rfl) ?_
  refine lv_iload hx hb dX0_writePage_37 (lv_at hl 0 rfl) ?_
  refine n_iadd hx hb dX0_writePage_39 ?_
  refine lv_aload_n hx hb dX0_writePage_40 rfl (lv_at hl 2 rfl) ?_
  refine va_get (ci := 0) (v := .ref a1) (C := RX0) (T := TX0) (N := 13) hx hb hts inX0_writePage hown hK hP 0 rfl rfl 1 (by decide) (hts _ flX0_writePage_14) (fun _ h9 => h9) rfl dX0_writePage_41 ?_
  refine lv_iload_n hx hb dX0_writePage_44 rfl (lv_at hl 3 rfl) ?_
  refine lv_bipush (v := (nI 64)) hx hb dX0_writePage_45 (by decide) ?_
  refine n_imul hx hb dX0_writePage_47 ?_
  refine lv_iload hx hb dX0_writePage_48 (lv_at hl 0 rfl) ?_
  refine n_iadd hx hb dX0_writePage_50 ?_
  refine lv_bipush (v := (nI 32)) hx hb dX0_writePage_51 (by decide) ?_
  refine n_copyi hx hb hl.1 hml hown acX0_writePage hts hK hP hD hS 1 2 0 rfl rfl rfl 0 (k * 64) 32 (by omega) (by omega) (by omega) (by omega) (by omega) (Nat.le_of_ble_eq_true rfl) (Nat.le_of_ble_eq_true rfl) dX0_writePage_53 (fun H locs hP hD hS => ?_)
  have hP : va_P D vwCl (wC h0 a0 a1 a2 a3 a4 a5 cI cZ bf (va_cpy bf pw 0 (k * 64) 32) hs lo lg rt (nb + 1) (nI fi) (nI fo) (nI en) on (dcu cu) (ma + 1)) H := hP
  have hD : va_D A (wC h0 a0 a1 a2 a3 a4 a5 cI cZ bf (va_cpy bf pw 0 (k * 64) 32) hs lo lg rt (nb + 1) (nI fi) (nI fo) (nI en) on (dcu cu) (ma + 1)) := hD
  refine lv_aload_n hx hb dX0_writePage_56 rfl (lv_at hl 2 rfl) ?_
  refine va_get (ci := 0) (v := .ref a2) (C := RX0) (T := TX0) (N := 13) hx hb hts inX0_writePage hown hK hP 0 rfl rfl 2 (by decide) (hts _ flX0_writePage_17) (fun _ h9 => h9) rfl dX0_writePage_57 ?_
  refine lv_iload_n hx hb dX0_writePage_60 rfl (lv_at hl 3 rfl) ?_
  refine lv_iconst (v := (nI 2)) hx hb dX0_writePage_61 (by decide) ?_
  refine n_imul hx hb dX0_writePage_62 ?_
  refine lv_iload hx hb dX0_writePage_63 (lv_at hl 1 rfl) ?_
  refine n_iadd hx hb dX0_writePage_65 ?_
  refine lv_aload_n hx hb dX0_writePage_66 rfl (lv_at hl 2 rfl) ?_
  refine va_get (ci := 0) (v := .int (nb + 1)) (C := RX0) (T := TX0) (N := 13) hx hb hts inX0_writePage hown hK hP 0 rfl rfl 4 (by decide) (hts _ flX0_writePage_128) (fun _ h9 => h9) rfl dX0_writePage_67 ?_
  refine n_iast hx hb hK hP hD hS 3 0 rfl rfl (k * 2) (by omega) (by omega) dX0_writePage_70 (fun H locs hP hD hS => ?_)
  have hP : va_P D vwCl (wC h0 a0 a1 a2 a3 a4 a5 cI cZ bf (va_cpy bf pw 0 (k * 64) 32) (upd hs (k * 2) (nb + 1)) lo lg rt (nb + 1) (nI fi) (nI fo) (nI en) on (dcu cu) (ma + 1)) H := hP
  have hD : va_D A (wC h0 a0 a1 a2 a3 a4 a5 cI cZ bf (va_cpy bf pw 0 (k * 64) 32) (upd hs (k * 2) (nb + 1)) lo lg rt (nb + 1) (nI fi) (nI fo) (nI en) on (dcu cu) (ma + 1)) := hD
  refine n_iinc (lv' := [(4, .int (nI 1)), (5, .int (nI 0)), (0, .ref h0), (1, .int (nI k)), (2, .ref a0), (3, .int (nI 0))]) hx hb dX0_writePage_71 hl (k := 1) rfl (by decide) rfl (fun ls hl => ?_)
  refine lv_goto (tgt := 13) hx hb dX0_writePage_74 (by decide) ?_
  refine lv_iload hx hb dX0_writePage_13 (lv_at hl 0 rfl) ?_
  refine lv_iconst (v := (nI 2)) hx hb dX0_writePage_15 (by decide) ?_
  refine n_ge (tgt := 77) hx hb (by omega) (by omega) dX0_writePage_16 (by decide) (fun c_16 => absurd c_16 (by omega)) (fun c_16 => ?_)
  refine lv_aload_n hx hb dX0_writePage_19 rfl (lv_at hl 2 rfl) ?_
  refine k_I (wr := []) hP hD hS hA (va_runV (As := []) (rest := []) ⟨hx, hb, hml, hown, hts⟩ ((tX0_makeLeastWrite_ok bf (va_cpy bf pw 0 (k * 64) 32) (upd hs (k * 2) (nb + 1)) lo lg rt (nb + 1) fi fo en on (dcu cu) (ma + 1) h1) _) (cwV 0 hts gX0_writePage_X0_makeLeastWrite rfl rfl rfl (by decide +kernel) ⟨Nat.le_of_ble_eq_true rfl, Nat.le_of_ble_eq_true rfl⟩) (pV_B hP hD hK (ci := 0) (q0 := 0) rfl rfl rfl [0, 1] rfl [0, 1, 2, 3, 4, 5, 6] rfl rfl) rfl rfl hl.1 rfl (lv_room (Nat.le_of_ble_eq_true rfl)) dX0_writePage_20 ⟨Nat.le_of_ble_eq_true rfl, Nat.le_of_ble_eq_true rfl⟩) [0, 1, 2, 3, 4, 5, 6] [] rfl rfl rfl (by decide) (fun H locs hP hD hS => ?_)
  have hP : va_P D vwCl (wC h0 a0 a1 a2 a3 a4 a5 cI cZ bf (va_cpy bf pw 0 (k * 64) 32) (upd hs (k * 2) (nb + 1)) lo lg rt (nb + 1) (nI fi) (nI fo) (nI en) on (dcu (dcu cu)) (ma + 1 + 1)) H := hP
  have hD : va_D A (wC h0 a0 a1 a2 a3 a4 a5 cI cZ bf (va_cpy bf pw 0 (k * 64) 32) (upd hs (k * 2) (nb + 1)) lo lg rt (nb + 1) (nI fi) (nI fo) (nI en) on (dcu (dcu cu)) (ma + 1 + 1)) := hD
  refine lv_if_ne (tgt := 28) hx hb dX0_writePage_23 (by decide) (fun c_23 => ?_) (fun c_23 => absurd c_23 (by decide))
  refine lv_iload hx hb dX0_writePage_28 (lv_at hl 0 rfl) ?_
  refine lv_bipush (v := (nI 32)) hx hb dX0_writePage_30 (by decide) ?_
  refine n_imul hx hb dX0_writePage_32 ?_
  refine lv_istore (lv' := [(5, .int (nI 32)), (4, .int (nI 1)), (0, .ref h0), (1, .int (nI k)), (2, .ref a0), (3, .int (nI 0))]) hx hb dX0_writePage_33 hl (by decide) rfl (fun ls hl => ?_)
  refine lv_aload_n hx hb dX0_writePage_35 rfl (lv_at hl 4 rfl) ?_
  refine lv_iload_n hx hb dX0_writePage_36 rfl (lv_at hl 5 rfl) ?_
  refine lv_iload hx hb dX0_writePage_37 (lv_at hl 0 rfl) ?_
  refine n_iadd hx hb dX0_writePage_39 ?_
  refine lv_aload_n hx hb dX0_writePage_40 rfl (lv_at hl 2 rfl) ?_
  refine va_get (ci := 0) (v := .ref a1) (C := RX0) (T := TX0) (N := 13) hx hb hts inX0_writePage hown hK hP 0 rfl rfl 1 (by decide) (hts _ flX0_writePage_14) (fun _ h9 => h9) rfl dX0_writePage_41 ?_
  refine lv_iload_n hx hb dX0_writePage_44 rfl (lv_at hl 3 rfl) ?_
  refine lv_bipush (v := (nI 64)) hx hb dX0_writePage_45 (by decide) ?_
  refine n_imul hx hb dX0_writePage_47 ?_
  refine lv_iload hx hb dX0_writePage_48 (lv_at hl 0 rfl) ?_
  refine n_iadd hx hb dX0_writePage_50 ?_
  refine lv_bipush (v := (nI 32)) hx hb dX0_writePage_51 (by decide) ?_
  refine n_copyi hx hb hl.1 hml hown acX0_writePage hts hK hP hD hS 1 2 0 rfl rfl rfl 32 ((k * 64) + 32) 32 (by omega) (by omega) (by omega) (by omega) (by omega) (Nat.le_of_ble_eq_true rfl) (Nat.le_of_ble_eq_true rfl) dX0_writePage_53 (fun H locs hP hD hS => ?_)
  have hP : va_P D vwCl (wC h0 a0 a1 a2 a3 a4 a5 cI cZ bf (va_cpy bf (va_cpy bf pw 0 (k * 64) 32) 32 ((k * 64) + 32) 32) (upd hs (k * 2) (nb + 1)) lo lg rt (nb + 1) (nI fi) (nI fo) (nI en) on (dcu (dcu cu)) (ma + 1 + 1)) H := hP
  have hD : va_D A (wC h0 a0 a1 a2 a3 a4 a5 cI cZ bf (va_cpy bf (va_cpy bf pw 0 (k * 64) 32) 32 ((k * 64) + 32) 32) (upd hs (k * 2) (nb + 1)) lo lg rt (nb + 1) (nI fi) (nI fo) (nI en) on (dcu (dcu cu)) (ma + 1 + 1)) := hD
  refine lv_aload_n hx hb dX0_writePage_56 rfl (lv_at hl 2 rfl) ?_
  refine va_get (ci := 0) (v := .ref a2) (C := RX0) (T := TX0) (N := 13) hx hb hts inX0_writePage hown hK hP 0 rfl rfl 2 (by decide) (hts _ flX0_writePage_17) (fun _ h9 => h9) rfl dX0_writePage_57 ?_
  refine lv_iload_n hx hb dX0_writePage_60 rfl (lv_at hl 3 rfl) ?_
  refine lv_iconst (v := (nI 2)) hx hb dX0_writePage_61 (by decide) ?_
  refine n_imul hx hb dX0_writePage_62 ?_
  refine lv_iload hx hb dX0_writePage_63 (lv_at hl 1 rfl) ?_
  refine n_iadd hx hb dX0_writePage_65 ?_
  refine lv_aload_n hx hb dX0_writePage_66 rfl (lv_at hl 2 rfl) ?_
  refine va_get (ci := 0) (v := .int (nb + 1)) (C := RX0) (T := TX0) (N := 13) hx hb hts inX0_writePage hown hK hP 0 rfl rfl 4 (by decide) (hts _ flX0_writePage_128) (fun _ h9 => h9) rfl dX0_writePage_67 ?_
  refine n_iast hx hb hK hP hD hS 3 0 rfl rfl ((k * 2) + 1) (by omega) (by omega) dX0_writePage_70 (fun H locs hP hD hS => ?_)
  have hP : va_P D vwCl (wC h0 a0 a1 a2 a3 a4 a5 cI cZ bf (va_cpy bf (va_cpy bf pw 0 (k * 64) 32) 32 ((k * 64) + 32) 32) (upd (upd hs (k * 2) (nb + 1)) ((k * 2) + 1) (nb + 1)) lo lg rt (nb + 1) (nI fi) (nI fo) (nI en) on (dcu (dcu cu)) (ma + 1 + 1)) H := hP
  have hD : va_D A (wC h0 a0 a1 a2 a3 a4 a5 cI cZ bf (va_cpy bf (va_cpy bf pw 0 (k * 64) 32) 32 ((k * 64) + 32) 32) (upd (upd hs (k * 2) (nb + 1)) ((k * 2) + 1) (nb + 1)) lo lg rt (nb + 1) (nI fi) (nI fo) (nI en) on (dcu (dcu cu)) (ma + 1 + 1)) := hD
  refine n_iinc (lv' := [(4, .int (nI 2)), (5, .int (nI 32)), (0, .ref h0), (1, .int (nI k)), (2, .ref a0), (3, .int (nI 0))]) hx hb dX0_writePage_71 hl (k := 1) rfl (by decide) rfl (fun ls hl => ?_)
  refine lv_goto (tgt := 13) hx hb dX0_writePage_74 (by decide) ?_
  refine lv_iload hx hb dX0_writePage_13 (lv_at hl 0 rfl) ?_
  refine lv_iconst (v := (nI 2)) hx hb dX0_writePage_15 (by decide) ?_
  refine n_ge (tgt := 77) hx hb (by omega) (by omega) dX0_writePage_16 (by decide) (fun c_16 => ?_) (fun c_16 => absurd c_16 (by omega))
  refine lv_aload_n hx hb dX0_writePage_77 rfl (lv_at hl 2 rfl) ?_
  refine va_get (ci := 0) (v := .ref a3) (C := RX0) (T := TX0) (N := 13) hx hb hts inX0_writePage hown hK hP 0 rfl rfl 3 (by decide) (hts _ flX0_writePage_20) (fun _ h9 => h9) rfl dX0_writePage_78 ?_
  refine lv_iload_n hx hb dX0_writePage_81 rfl (lv_at hl 3 rfl) ?_
  refine lv_iconst (v := (0)) hx hb dX0_writePage_82 (by decide) ?_
  refine n_zast hx hb hK hP hD hS 4 1 rfl rfl k (by omega) (by omega) (by decide) dX0_writePage_83 (fun H locs hP hD hS => ?_)
  have hP : va_P D vwCl (wC h0 a0 a1 a2 a3 a4 a5 cI cZ bf (va_cpy bf (va_cpy bf pw 0 (k * 64) 32) 32 ((k * 64) + 32) 32) (upd (upd hs (k * 2) (nb + 1)) ((k * 2) + 1) (nb + 1)) (upd lo k 0) lg rt (nb + 1) (nI fi) (nI fo) (nI en) on (dcu (dcu cu)) (ma + 1 + 1)) H := hP
  have hD : va_D A (wC h0 a0 a1 a2 a3 a4 a5 cI cZ bf (va_cpy bf (va_cpy bf pw 0 (k * 64) 32) 32 ((k * 64) + 32) 32) (upd (upd hs (k * 2) (nb + 1)) ((k * 2) + 1) (nb + 1)) (upd lo k 0) lg rt (nb + 1) (nI fi) (nI fo) (nI en) on (dcu (dcu cu)) (ma + 1 + 1)) := hD
  refine lv_aload_n hx hb dX0_writePage_84 rfl (lv_at hl 2 rfl) ?_
  refine va_get (ci := 0) (v := .int (nb + 1)) (C := RX0) (T := TX0) (N := 13) hx hb hts inX0_writePage hown hK hP 0 rfl rfl 4 (by decide) (hts _ flX0_writePage_128) (fun _ h9 => h9) rfl dX0_writePage_85 ?_
  exact e_I hx hb hr hlocks hP hD hS rfl dX0_writePage_88
set_option maxHeartbeats 4000000 in
set_option maxRecDepth 100000 in
theorem tX0_writePage_p0 {l : Launch} {D : va_G} {cI cZ : ClassId} {h0 a0 a1 a2 a3 a4 a5 : Nat} (bf pw hs lo lg rt : Nat → Int32) (nb : Int32) (fi fo en : Nat) (on cu ma : Int32) (k : Nat) (hk : k < 512) (fr : Nat) (hfr : fr + 64 ≤ 32768) (h : cu = 0) : RI l yX0_writePage wsX0_writePage 4 0 0 D (tyC cI cZ) (wC h0 a0 a1 a2 a3 a4 a5 cI cZ bf pw hs lo lg rt nb (nI fi) (nI fo) (nI en) on cu ma) [.ref h0, .int (nI k), .ref a1, .int (nI fr)] (-1) (wC h0 a0 a1 a2 a3 a4 a5 cI cZ (zf bf) pw hs lo lg rt (nb + 1) (nI fi) (nI fo) (nI fo) 0 cu ma) := by
  refine st_I (cc := cX0_writePage) (maxL := 6) (ret := (some .int)) (by decide +kernel) rfl (Nat.le_of_ble_eq_true rfl) ?_
  intro p e s m below meth c A hx hb hr hts hown hml hlocks hK hP hD hA hS ls hl
  have hown : s.vm.findClass RX0 = some m.cls := hown
  have hl : lv_has ls 6 [(0, .ref h0), (1, .int (nI k)), (2, .ref a1), (3, .int (nI fr))] := hl
  refine lv_aload_n hx hb dX0_writePage_0 rfl (lv_at hl 0 rfl) ?_
  refine lv_dup hx hb dX0_writePage_1 rfl ?_
  refine va_get (ci := 0) (v := .int nb) (C := RX0) (T := TX0) (N := 13) hx hb hts inX0_writePage hown hK hP 0 rfl rfl 4 (by decide) (hts _ flX0_writePage_128) (fun _ h9 => h9) rfl dX0_writePage_2 ?_
  refine lv_iconst (v := (1)) hx hb dX0_writePage_5 (by decide) ?_
  refine lv_iadd hx hb dX0_writePage_6 ?_
  refine va_put (ci := 0) (v := .int (nb + 1)) (ty := .int) (C := RX0) (T := TX0) (N := 13) hx hb hts inX0_writePage tyX0 tyX0_ok nmX0 hown hK hP hD hS 0 rfl rfl 4 (by decide) (hts _ flX0_writePage_128) (fun _ h9 => h9) rfl (by decide +kernel) rfl rfl (Nat.le_of_ble_eq_true rfl) dX0_writePage_7 (fun H locs hP hD hS => ?_)
  have hP : va_P D vwCl (wC h0 a0 a1 a2 a3 a4 a5 cI cZ bf pw hs lo lg rt (nb + 1) (nI fi) (nI fo) (nI en) on cu ma) H := hP
  have hD : va_D A (wC h0 a0 a1 a2 a3 a4 a5 cI cZ bf pw hs lo lg rt (nb + 1) (nI fi) (nI fo) (nI en) on cu ma) := hD
  refine lv_iconst (v := (nI 0)) hx hb dX0_writePage_10 (by decide) ?_
  refine lv_istore (lv' := [(4, .int (nI 0)), (0, .ref h0), (1, .int (nI k)), (2, .ref a1), (3, .int (nI fr))]) hx hb dX0_writePage_11 hl (by decide) rfl (fun ls hl => ?_)
  refine lv_iload hx hb dX0_writePage_13 (lv_at hl 0 rfl) ?_
  refine lv_iconst (v := (nI 2)) hx hb dX0_writePage_15 (by decide) ?_
  refine n_ge (tgt := 77) hx hb (by omega) (by omega) dX0_writePage_16 (by decide) (fun c_16 => absurd c_16 (by omega)) (fun c_16 => ?_)
  refine lv_aload_n hx hb dX0_writePage_19 rfl (lv_at hl 1 rfl) ?_
  refine k_I (wr := []) hP hD hS hA (va_runV (As := []) (rest := []) ⟨hx, hb, hml, hown, hts⟩ ((tX0_makeLeastWrite_cut bf pw hs lo lg rt (nb + 1) fi fo en on cu ma h) _) (cwV 0 hts gX0_writePage_X0_makeLeastWrite rfl rfl rfl (by decide +kernel) ⟨Nat.le_of_ble_eq_true rfl, Nat.le_of_ble_eq_true rfl⟩) (pV_B hP hD hK (ci := 0) (q0 := 0) rfl rfl rfl [0, 1] rfl [0, 1, 2, 3, 4, 5, 6] rfl rfl) rfl rfl hl.1 rfl (lv_room (Nat.le_of_ble_eq_true rfl)) dX0_writePage_20 ⟨Nat.le_of_ble_eq_true rfl, Nat.le_of_ble_eq_true rfl⟩) [0, 1, 2, 3, 4, 5, 6] [] rfl rfl rfl (by decide) (fun H locs hP hD hS => ?_)
  have hP : va_P D vwCl (wC h0 a0 a1 a2 a3 a4 a5 cI cZ (zf bf) pw hs lo lg rt (nb + 1) (nI fi) (nI fo) (nI fo) 0 cu ma) H := hP
  have hD : va_D A (wC h0 a0 a1 a2 a3 a4 a5 cI cZ (zf bf) pw hs lo lg rt (nb + 1) (nI fi) (nI fo) (nI fo) 0 cu ma) := hD
  refine lv_if_ne (tgt := 28) hx hb dX0_writePage_23 (by decide) (fun c_23 => absurd (rfl) c_23) (fun c_23 => ?_)
  refine lv_iconst (v := (-1)) hx hb dX0_writePage_26 (by decide) ?_
  exact e_I hx hb hr hlocks hP hD hS rfl dX0_writePage_27
set_option maxHeartbeats 4000000 in
set_option maxRecDepth 100000 in
theorem tX0_writePage_p1 {l : Launch} {D : va_G} {cI cZ : ClassId} {h0 a0 a1 a2 a3 a4 a5 : Nat} (bf pw hs lo lg rt : Nat → Int32) (nb : Int32) (fi fo en : Nat) (on cu ma : Int32) (k : Nat) (hk : k < 512) (fr : Nat) (hfr : fr + 64 ≤ 32768) (h : ¬ cu = 0) (h1 : dcu cu = 0) : RI l yX0_writePage wsX0_writePage 4 0 0 D (tyC cI cZ) (wC h0 a0 a1 a2 a3 a4 a5 cI cZ bf pw hs lo lg rt nb (nI fi) (nI fo) (nI en) on cu ma) [.ref h0, .int (nI k), .ref a1, .int (nI fr)] (-1) (wC h0 a0 a1 a2 a3 a4 a5 cI cZ (zf bf) (va_cpy pw pw fr (k * 64) 32) (upd hs (k * 2) (nb + 1)) lo lg rt (nb + 1) (nI fi) (nI fo) (nI fo) 0 (dcu cu) (ma + 1)) := by
  refine st_I (cc := cX0_writePage) (maxL := 6) (ret := (some .int)) (by decide +kernel) rfl (Nat.le_of_ble_eq_true rfl) ?_
  intro p e s m below meth c A hx hb hr hts hown hml hlocks hK hP hD hA hS ls hl
  have hown : s.vm.findClass RX0 = some m.cls := hown
  have hl : lv_has ls 6 [(0, .ref h0), (1, .int (nI k)), (2, .ref a1), (3, .int (nI fr))] := hl
  refine lv_aload_n hx hb dX0_writePage_0 rfl (lv_at hl 0 rfl) ?_
  refine lv_dup hx hb dX0_writePage_1 rfl ?_
  refine va_get (ci := 0) (v := .int nb) (C := RX0) (T := TX0) (N := 13) hx hb hts inX0_writePage hown hK hP 0 rfl rfl 4 (by decide) (hts _ flX0_writePage_128) (fun _ h9 => h9) rfl dX0_writePage_2 ?_
  refine lv_iconst (v := (1)) hx hb dX0_writePage_5 (by decide) ?_
  refine lv_iadd hx hb dX0_writePage_6 ?_
  refine va_put (ci := 0) (v := .int (nb + 1)) (ty := .int) (C := RX0) (T := TX0) (N := 13) hx hb hts inX0_writePage tyX0 tyX0_ok nmX0 hown hK hP hD hS 0 rfl rfl 4 (by decide) (hts _ flX0_writePage_128) (fun _ h9 => h9) rfl (by decide +kernel) rfl rfl (Nat.le_of_ble_eq_true rfl) dX0_writePage_7 (fun H locs hP hD hS => ?_)
  have hP : va_P D vwCl (wC h0 a0 a1 a2 a3 a4 a5 cI cZ bf pw hs lo lg rt (nb + 1) (nI fi) (nI fo) (nI en) on cu ma) H := hP
  have hD : va_D A (wC h0 a0 a1 a2 a3 a4 a5 cI cZ bf pw hs lo lg rt (nb + 1) (nI fi) (nI fo) (nI en) on cu ma) := hD
  refine lv_iconst (v := (nI 0)) hx hb dX0_writePage_10 (by decide) ?_
  refine lv_istore (lv' := [(4, .int (nI 0)), (0, .ref h0), (1, .int (nI k)), (2, .ref a1), (3, .int (nI fr))]) hx hb dX0_writePage_11 hl (by decide) rfl (fun ls hl => ?_)
  refine lv_iload hx hb dX0_writePage_13 (lv_at hl 0 rfl) ?_
  refine lv_iconst (v := (nI 2)) hx hb dX0_writePage_15 (by decide) ?_
  refine n_ge (tgt := 77) hx hb (by omega) (by omega) dX0_writePage_16 (by decide) (fun c_16 => absurd c_16 (by omega)) (fun c_16 => ?_)
  refine lv_aload_n hx hb dX0_writePage_19 rfl (lv_at hl 1 rfl) ?_
  refine k_I (wr := []) hP hD hS hA (va_runV (As := []) (rest := []) ⟨hx, hb, hml, hown, hts⟩ ((tX0_makeLeastWrite_ok bf pw hs lo lg rt (nb + 1) fi fo en on cu ma h) _) (cwV 0 hts gX0_writePage_X0_makeLeastWrite rfl rfl rfl (by decide +kernel) ⟨Nat.le_of_ble_eq_true rfl, Nat.le_of_ble_eq_true rfl⟩) (pV_B hP hD hK (ci := 0) (q0 := 0) rfl rfl rfl [0, 1] rfl [0, 1, 2, 3, 4, 5, 6] rfl rfl) rfl rfl hl.1 rfl (lv_room (Nat.le_of_ble_eq_true rfl)) dX0_writePage_20 ⟨Nat.le_of_ble_eq_true rfl, Nat.le_of_ble_eq_true rfl⟩) [0, 1, 2, 3, 4, 5, 6] [] rfl rfl rfl (by decide) (fun H locs hP hD hS => ?_)
  have hP : va_P D vwCl (wC h0 a0 a1 a2 a3 a4 a5 cI cZ bf pw hs lo lg rt (nb + 1) (nI fi) (nI fo) (nI en) on (dcu cu) (ma + 1)) H := hP
  have hD : va_D A (wC h0 a0 a1 a2 a3 a4 a5 cI cZ bf pw hs lo lg rt (nb + 1) (nI fi) (nI fo) (nI en) on (dcu cu) (ma + 1)) := hD
  refine lv_if_ne (tgt := 28) hx hb dX0_writePage_23 (by decide) (fun c_23 => ?_) (fun c_23 => absurd c_23 (by decide))
  refine lv_iload hx hb dX0_writePage_28 (lv_at hl 0 rfl) ?_
  refine lv_bipush (v := (nI 32)) hx hb dX0_writePage_30 (by decide) ?_
  refine n_imul hx hb dX0_writePage_32 ?_
  refine lv_istore (lv' := [(5, .int (nI 0)), (4, .int (nI 0)), (0, .ref h0), (1, .int (nI k)), (2, .ref a1), (3, .int (nI fr))]) hx hb dX0_writePage_33 hl (by decide) rfl (fun ls hl => ?_)
  refine lv_aload_n hx hb dX0_writePage_35 rfl (lv_at hl 4 rfl) ?_
  refine lv_iload_n hx hb dX0_writePage_36 rfl (lv_at hl 5 rfl) ?_
  refine lv_iload hx hb dX0_writePage_37 (lv_at hl 0 rfl) ?_
  refine n_iadd hx hb dX0_writePage_39 ?_
  refine lv_aload_n hx hb dX0_writePage_40 rfl (lv_at hl 2 rfl) ?_
  refine va_get (ci := 0) (v := .ref a1) (C := RX0) (T := TX0) (N := 13) hx hb hts inX0_writePage hown hK hP 0 rfl rfl 1 (by decide) (hts _ flX0_writePage_14) (fun _ h9 => h9) rfl dX0_writePage_41 ?_
  refine lv_iload_n hx hb dX0_writePage_44 rfl (lv_at hl 3 rfl) ?_
  refine lv_bipush (v := (nI 64)) hx hb dX0_writePage_45 (by decide) ?_
  refine n_imul hx hb dX0_writePage_47 ?_
  refine lv_iload hx hb dX0_writePage_48 (lv_at hl 0 rfl) ?_
  refine n_iadd hx hb dX0_writePage_50 ?_
  refine lv_bipush (v := (nI 32)) hx hb dX0_writePage_51 (by decide) ?_
  refine n_copyi hx hb hl.1 hml hown acX0_writePage hts hK hP hD hS 2 2 0 rfl rfl rfl fr (k * 64) 32 (by omega) (by omega) (by omega) (by omega) (by omega) (Nat.le_of_ble_eq_true rfl) (Nat.le_of_ble_eq_true rfl) dX0_writePage_53 (fun H locs hP hD hS => ?_)
  have hP : va_P D vwCl (wC h0 a0 a1 a2 a3 a4 a5 cI cZ bf (va_cpy pw pw fr (k * 64) 32) hs lo lg rt (nb + 1) (nI fi) (nI fo) (nI en) on (dcu cu) (ma + 1)) H := hP
  have hD : va_D A (wC h0 a0 a1 a2 a3 a4 a5 cI cZ bf (va_cpy pw pw fr (k * 64) 32) hs lo lg rt (nb + 1) (nI fi) (nI fo) (nI en) on (dcu cu) (ma + 1)) := hD
  refine lv_aload_n hx hb dX0_writePage_56 rfl (lv_at hl 2 rfl) ?_
  refine va_get (ci := 0) (v := .ref a2) (C := RX0) (T := TX0) (N := 13) hx hb hts inX0_writePage hown hK hP 0 rfl rfl 2 (by decide) (hts _ flX0_writePage_17) (fun _ h9 => h9) rfl dX0_writePage_57 ?_
  refine lv_iload_n hx hb dX0_writePage_60 rfl (lv_at hl 3 rfl) ?_
  refine lv_iconst (v := (nI 2)) hx hb dX0_writePage_61 (by decide) ?_
  refine n_imul hx hb dX0_writePage_62 ?_
  refine lv_iload hx hb dX0_writePage_63 (lv_at hl 1 rfl) ?_
  refine n_iadd hx hb dX0_writePage_65 ?_
  refine lv_aload_n hx hb dX0_writePage_66 rfl (lv_at hl 2 rfl) ?_
  refine va_get (ci := 0) (v := .int (nb + 1)) (C := RX0) (T := TX0) (N := 13) hx hb hts inX0_writePage hown hK hP 0 rfl rfl 4 (by decide) (hts _ flX0_writePage_128) (fun _ h9 => h9) rfl dX0_writePage_67 ?_
  refine n_iast hx hb hK hP hD hS 3 0 rfl rfl (k * 2) (by omega) (by omega) dX0_writePage_70 (fun H locs hP hD hS => ?_)
  have hP : va_P D vwCl (wC h0 a0 a1 a2 a3 a4 a5 cI cZ bf (va_cpy pw pw fr (k * 64) 32) (upd hs (k * 2) (nb + 1)) lo lg rt (nb + 1) (nI fi) (nI fo) (nI en) on (dcu cu) (ma + 1)) H := hP
  have hD : va_D A (wC h0 a0 a1 a2 a3 a4 a5 cI cZ bf (va_cpy pw pw fr (k * 64) 32) (upd hs (k * 2) (nb + 1)) lo lg rt (nb + 1) (nI fi) (nI fo) (nI en) on (dcu cu) (ma + 1)) := hD
  refine n_iinc (lv' := [(4, .int (nI 1)), (5, .int (nI 0)), (0, .ref h0), (1, .int (nI k)), (2, .ref a1), (3, .int (nI fr))]) hx hb dX0_writePage_71 hl (k := 1) rfl (by decide) rfl (fun ls hl => ?_)
  refine lv_goto (tgt := 13) hx hb dX0_writePage_74 (by decide) ?_
  refine lv_iload hx hb dX0_writePage_13 (lv_at hl 0 rfl) ?_
  refine lv_iconst (v := (nI 2)) hx hb dX0_writePage_15 (by decide) ?_
  refine n_ge (tgt := 77) hx hb (by omega) (by omega) dX0_writePage_16 (by decide) (fun c_16 => absurd c_16 (by omega)) (fun c_16 => ?_)
  refine lv_aload_n hx hb dX0_writePage_19 rfl (lv_at hl 2 rfl) ?_
  refine k_I (wr := []) hP hD hS hA (va_runV (As := []) (rest := []) ⟨hx, hb, hml, hown, hts⟩ ((tX0_makeLeastWrite_cut bf (va_cpy pw pw fr (k * 64) 32) (upd hs (k * 2) (nb + 1)) lo lg rt (nb + 1) fi fo en on (dcu cu) (ma + 1) h1) _) (cwV 0 hts gX0_writePage_X0_makeLeastWrite rfl rfl rfl (by decide +kernel) ⟨Nat.le_of_ble_eq_true rfl, Nat.le_of_ble_eq_true rfl⟩) (pV_B hP hD hK (ci := 0) (q0 := 0) rfl rfl rfl [0, 1] rfl [0, 1, 2, 3, 4, 5, 6] rfl rfl) rfl rfl hl.1 rfl (lv_room (Nat.le_of_ble_eq_true rfl)) dX0_writePage_20 ⟨Nat.le_of_ble_eq_true rfl, Nat.le_of_ble_eq_true rfl⟩) [0, 1, 2, 3, 4, 5, 6] [] rfl rfl rfl (by decide) (fun H locs hP hD hS => ?_)
  have hP : va_P D vwCl (wC h0 a0 a1 a2 a3 a4 a5 cI cZ (zf bf) (va_cpy pw pw fr (k * 64) 32) (upd hs (k * 2) (nb + 1)) lo lg rt (nb + 1) (nI fi) (nI fo) (nI fo) 0 (dcu cu) (ma + 1)) H := hP
  have hD : va_D A (wC h0 a0 a1 a2 a3 a4 a5 cI cZ (zf bf) (va_cpy pw pw fr (k * 64) 32) (upd hs (k * 2) (nb + 1)) lo lg rt (nb + 1) (nI fi) (nI fo) (nI fo) 0 (dcu cu) (ma + 1)) := hD
  refine lv_if_ne (tgt := 28) hx hb dX0_writePage_23 (by decide) (fun c_23 => absurd (rfl) c_23) (fun c_23 => ?_)
  refine lv_iconst (v := (-1)) hx hb dX0_writePage_26 (by decide) ?_
  exact e_I hx hb hr hlocks hP hD hS rfl dX0_writePage_27
set_option maxHeartbeats 4000000 in
set_option maxRecDepth 100000 in
theorem tX0_writePage_p2 {l : Launch} {D : va_G} {cI cZ : ClassId} {h0 a0 a1 a2 a3 a4 a5 : Nat} (bf pw hs lo lg rt : Nat → Int32) (nb : Int32) (fi fo en : Nat) (on cu ma : Int32) (k : Nat) (hk : k < 512) (fr : Nat) (hfr : fr + 64 ≤ 32768) (h : ¬ cu = 0) (h1 : ¬ dcu cu = 0) : RI l yX0_writePage wsX0_writePage 4 0 0 D (tyC cI cZ) (wC h0 a0 a1 a2 a3 a4 a5 cI cZ bf pw hs lo lg rt nb (nI fi) (nI fo) (nI en) on cu ma) [.ref h0, .int (nI k), .ref a1, .int (nI fr)] (nb + 1) (wC h0 a0 a1 a2 a3 a4 a5 cI cZ bf (va_cpy (va_cpy pw pw fr (k * 64) 32) (va_cpy pw pw fr (k * 64) 32) (fr + 32) (k * 64 + 32) 32) (upd (upd hs (k * 2) (nb + 1)) (k * 2 + 1) (nb + 1)) (upd lo k 0) lg rt (nb + 1) (nI fi) (nI fo) (nI en) on (dcu (dcu cu)) (ma + 1 + 1)) := by
  refine st_I (cc := cX0_writePage) (maxL := 6) (ret := (some .int)) (by decide +kernel) rfl (Nat.le_of_ble_eq_true rfl) ?_
  intro p e s m below meth c A hx hb hr hts hown hml hlocks hK hP hD hA hS ls hl
  have hown : s.vm.findClass RX0 = some m.cls := hown
  have hl : lv_has ls 6 [(0, .ref h0), (1, .int (nI k)), (2, .ref a1), (3, .int (nI fr))] := hl
  refine lv_aload_n hx hb dX0_writePage_0 rfl (lv_at hl 0 rfl) ?_
  refine lv_dup hx hb dX0_writePage_1 rfl ?_
  refine va_get (ci := 0) (v := .int nb) (C := RX0) (T := TX0) (N := 13) hx hb hts inX0_writePage hown hK hP 0 rfl rfl 4 (by decide) (hts _ flX0_writePage_128) (fun _ h9 => h9) rfl dX0_writePage_2 ?_
  refine lv_iconst (v := (1)) hx hb dX0_writePage_5 (by decide) ?_
  refine lv_iadd hx hb dX0_writePage_6 ?_
  refine va_put (ci := 0) (v := .int (nb + 1)) (ty := .int) (C := RX0) (T := TX0) (N := 13) hx hb hts inX0_writePage tyX0 tyX0_ok nmX0 hown hK hP hD hS 0 rfl rfl 4 (by decide) (hts _ flX0_writePage_128) (fun _ h9 => h9) rfl (by decide +kernel) rfl rfl (Nat.le_of_ble_eq_true rfl) dX0_writePage_7 (fun H locs hP hD hS => ?_)
  have hP : va_P D vwCl (wC h0 a0 a1 a2 a3 a4 a5 cI cZ bf pw hs lo lg rt (nb + 1) (nI fi) (nI fo) (nI en) on cu ma) H := hP
  have hD : va_D A (wC h0 a0 a1 a2 a3 a4 a5 cI cZ bf pw hs lo lg rt (nb + 1) (nI fi) (nI fo) (nI en) on cu ma) := hD
  refine lv_iconst (v := (nI 0)) hx hb dX0_writePage_10 (by decide) ?_
  refine lv_istore (lv' := [(4, .int (nI 0)), (0, .ref h0), (1, .int (nI k)), (2, .ref a1), (3, .int (nI fr))]) hx hb dX0_writePage_11 hl (by decide) rfl (fun ls hl => ?_)
  refine lv_iload hx hb dX0_writePage_13 (lv_at hl 0 rfl) ?_
  refine lv_iconst (v := (nI 2)) hx hb dX0_writePage_15 (by decide) ?_
  refine n_ge (tgt := 77) hx hb (by omega) (by omega) dX0_writePage_16 (by decide) (fun c_16 => absurd c_16 (by omega)) (fun c_16 => ?_)
  refine lv_aload_n hx hb dX0_writePage_19 rfl (lv_at hl 1 rfl) ?_
  refine k_I (wr := []) hP hD hS hA (va_runV (As := []) (rest := []) ⟨hx, hb, hml, hown, hts⟩ ((tX0_makeLeastWrite_ok bf pw hs lo lg rt (nb + 1) fi fo en on cu ma h) _) (cwV 0 hts gX0_writePage_X0_makeLeastWrite rfl rfl rfl (by decide +kernel) ⟨Nat.le_of_ble_eq_true rfl, Nat.le_of_ble_eq_true rfl⟩) (pV_B hP hD hK (ci := 0) (q0 := 0) rfl rfl rfl [0, 1] rfl [0, 1, 2, 3, 4, 5, 6] rfl rfl) rfl rfl hl.1 rfl (lv_room (Nat.le_of_ble_eq_true rfl)) dX0_writePage_20 ⟨Nat.le_of_ble_eq_true rfl, Nat.le_of_ble_eq_true rfl⟩) [0, 1, 2, 3, 4, 5, 6] [] rfl rfl rfl (by decide) (fun H locs hP hD hS => ?_)
  have hP : va_P D vwCl (wC h0 a0 a1 a2 a3 a4 a5 cI cZ bf pw hs lo lg rt (nb + 1) (nI fi) (nI fo) (nI en) on (dcu cu) (ma + 1)) H := hP
  have hD : va_D A (wC h0 a0 a1 a2 a3 a4 a5 cI cZ bf pw hs lo lg rt (nb + 1) (nI fi) (nI fo) (nI en) on (dcu cu) (ma + 1)) := hD
  refine lv_if_ne (tgt := 28) hx hb dX0_writePage_23 (by decide) (fun c_23 => ?_) (fun c_23 => absurd c_23 (by decide))
  refine lv_iload hx hb dX0_writePage_28 (lv_at hl 0 rfl) ?_
  refine lv_bipush (v := (nI 32)) hx hb dX0_writePage_30 (by decide) ?_
  refine n_imul hx hb dX0_writePage_32 ?_
  refine lv_istore (lv' := [(5, .int (nI 0)), (4, .int (nI 0)), (0, .ref h0), (1, .int (nI k)), (2, .ref a1), (3, .int (nI fr))]) hx hb dX0_writePage_33 hl (by decide) rfl (fun ls hl => ?_)
  refine lv_aload_n hx hb dX0_writePage_35 rfl (lv_at hl 4 rfl) ?_
  refine lv_iload_n hx hb dX0_writePage_36 rfl (lv_at hl 5 rfl) ?_
  refine lv_iload hx hb dX0_writePage_37 (lv_at hl 0 rfl) ?_
  refine n_iadd hx hb dX0_writePage_39 ?_
  refine lv_aload_n hx hb dX0_writePage_40 rfl (lv_at hl 2 rfl) ?_
  refine va_get (ci := 0) (v := .ref a1) (C := RX0) (T := TX0) (N := 13) hx hb hts inX0_writePage hown hK hP 0 rfl rfl 1 (by decide) (hts _ flX0_writePage_14) (fun _ h9 => h9) rfl dX0_writePage_41 ?_
  refine lv_iload_n hx hb dX0_writePage_44 rfl (lv_at hl 3 rfl) ?_
  refine lv_bipush (v := (nI 64)) hx hb dX0_writePage_45 (by decide) ?_
  refine n_imul hx hb dX0_writePage_47 ?_
  refine lv_iload hx hb dX0_writePage_48 (lv_at hl 0 rfl) ?_
  refine n_iadd hx hb dX0_writePage_50 ?_
  refine lv_bipush (v := (nI 32)) hx hb dX0_writePage_51 (by decide) ?_
  refine n_copyi hx hb hl.1 hml hown acX0_writePage hts hK hP hD hS 2 2 0 rfl rfl rfl fr (k * 64) 32 (by omega) (by omega) (by omega) (by omega) (by omega) (Nat.le_of_ble_eq_true rfl) (Nat.le_of_ble_eq_true rfl) dX0_writePage_53 (fun H locs hP hD hS => ?_)
  have hP : va_P D vwCl (wC h0 a0 a1 a2 a3 a4 a5 cI cZ bf (va_cpy pw pw fr (k * 64) 32) hs lo lg rt (nb + 1) (nI fi) (nI fo) (nI en) on (dcu cu) (ma + 1)) H := hP
  have hD : va_D A (wC h0 a0 a1 a2 a3 a4 a5 cI cZ bf (va_cpy pw pw fr (k * 64) 32) hs lo lg rt (nb + 1) (nI fi) (nI fo) (nI en) on (dcu cu) (ma + 1)) := hD
  refine lv_aload_n hx hb dX0_writePage_56 rfl (lv_at hl 2 rfl) ?_
  refine va_get (ci := 0) (v := .ref a2) (C := RX0) (T := TX0) (N := 13) hx hb hts inX0_writePage hown hK hP 0 rfl rfl 2 (by decide) (hts _ flX0_writePage_17) (fun _ h9 => h9) rfl dX0_writePage_57 ?_
  refine lv_iload_n hx hb dX0_writePage_60 rfl (lv_at hl 3 rfl) ?_
  refine lv_iconst (v := (nI 2)) hx hb dX0_writePage_61 (by decide) ?_
  refine n_imul hx hb dX0_writePage_62 ?_
  refine lv_iload hx hb dX0_writePage_63 (lv_at hl 1 rfl) ?_
  refine n_iadd hx hb dX0_writePage_65 ?_
  refine lv_aload_n hx hb dX0_writePage_66 rfl (lv_at hl 2 rfl) ?_
  refine va_get (ci := 0) (v := .int (nb + 1)) (C := RX0) (T := TX0) (N := 13) hx hb hts inX0_writePage hown hK hP 0 rfl rfl 4 (by decide) (hts _ flX0_writePage_128) (fun _ h9 => h9) rfl dX0_writePage_67 ?_
  refine n_iast hx hb hK hP hD hS 3 0 rfl rfl (k * 2) (by omega) (by omega) dX0_writePage_70 (fun H locs hP hD hS => ?_)
  have hP : va_P D vwCl (wC h0 a0 a1 a2 a3 a4 a5 cI cZ bf (va_cpy pw pw fr (k * 64) 32) (upd hs (k * 2) (nb + 1)) lo lg rt (nb + 1) (nI fi) (nI fo) (nI en) on (dcu cu) (ma + 1)) H := hP
  have hD : va_D A (wC h0 a0 a1 a2 a3 a4 a5 cI cZ bf (va_cpy pw pw fr (k * 64) 32) (upd hs (k * 2) (nb + 1)) lo lg rt (nb + 1) (nI fi) (nI fo) (nI en) on (dcu cu) (ma + 1)) := hD
  refine n_iinc (lv' := [(4, .int (nI 1)), (5, .int (nI 0)), (0, .ref h0), (1, .int (nI k)), (2, .ref a1), (3, .int (nI fr))]) hx hb dX0_writePage_71 hl (k := 1) rfl (by decide) rfl (fun ls hl => ?_)
  refine lv_goto (tgt := 13) hx hb dX0_writePage_74 (by decide) ?_
  refine lv_iload hx hb dX0_writePage_13 (lv_at hl 0 rfl) ?_
  refine lv_iconst (v := (nI 2)) hx hb dX0_writePage_15 (by decide) ?_
  refine n_ge (tgt := 77) hx hb (by omega) (by omega) dX0_writePage_16 (by decide) (fun c_16 => absurd c_16 (by omega)) (fun c_16 => ?_)
  refine lv_aload_n hx hb dX0_writePage_19 rfl (lv_at hl 2 rfl) ?_
  refine k_I (wr := []) hP hD hS hA (va_runV (As := []) (rest := []) ⟨hx, hb, hml, hown, hts⟩ ((tX0_makeLeastWrite_ok bf (va_cpy pw pw fr (k * 64) 32) (upd hs (k * 2) (nb + 1)) lo lg rt (nb + 1) fi fo en on (dcu cu) (ma + 1) h1) _) (cwV 0 hts gX0_writePage_X0_makeLeastWrite rfl rfl rfl (by decide +kernel) ⟨Nat.le_of_ble_eq_true rfl, Nat.le_of_ble_eq_true rfl⟩) (pV_B hP hD hK (ci := 0) (q0 := 0) rfl rfl rfl [0, 1] rfl [0, 1, 2, 3, 4, 5, 6] rfl rfl) rfl rfl hl.1 rfl (lv_room (Nat.le_of_ble_eq_true rfl)) dX0_writePage_20 ⟨Nat.le_of_ble_eq_true rfl, Nat.le_of_ble_eq_true rfl⟩) [0, 1, 2, 3, 4, 5, 6] [] rfl rfl rfl (by decide) (fun H locs hP hD hS => ?_)
  have hP : va_P D vwCl (wC h0 a0 a1 a2 a3 a4 a5 cI cZ bf (va_cpy pw pw fr (k * 64) 32) (upd hs (k * 2) (nb + 1)) lo lg rt (nb + 1) (nI fi) (nI fo) (nI en) on (dcu (dcu cu)) (ma + 1 + 1)) H := hP
  have hD : va_D A (wC h0 a0 a1 a2 a3 a4 a5 cI cZ bf (va_cpy pw pw fr (k * 64) 32) (upd hs (k * 2) (nb + 1)) lo lg rt (nb + 1) (nI fi) (nI fo) (nI en) on (dcu (dcu cu)) (ma + 1 + 1)) := hD
  refine lv_if_ne (tgt := 28) hx hb dX0_writePage_23 (by decide) (fun c_23 => ?_) (fun c_23 => absurd c_23 (by decide))
  refine lv_iload hx hb dX0_writePage_28 (lv_at hl 0 rfl) ?_
  refine lv_bipush (v := (nI 32)) hx hb dX0_writePage_30 (by decide) ?_
  refine n_imul hx hb dX0_writePage_32 ?_
  refine lv_istore (lv' := [(5, .int (nI 32)), (4, .int (nI 1)), (0, .ref h0), (1, .int (nI k)), (2, .ref a1), (3, .int (nI fr))]) hx hb dX0_writePage_33 hl (by decide) rfl (fun ls hl => ?_)
  refine lv_aload_n hx hb dX0_writePage_35 rfl (lv_at hl 4 rfl) ?_
  refine lv_iload_n hx hb dX0_writePage_36 rfl (lv_at hl 5 rfl) ?_
  refine lv_iload hx hb dX0_writePage_37 (lv_at hl 0 rfl) ?_
  refine n_iadd hx hb dX0_writePage_39 ?_
  refine lv_aload_n hx hb dX0_writePage_40 rfl (lv_at hl 2 rfl) ?_
  refine va_get (ci := 0) (v := .ref a1) (C := RX0) (T := TX0) (N := 13) hx hb hts inX0_writePage hown hK hP 0 rfl rfl 1 (by decide) (hts _ flX0_writePage_14) (fun _ h9 => h9) rfl dX0_writePage_41 ?_
  refine lv_iload_n hx hb dX0_writePage_44 rfl (lv_at hl 3 rfl) ?_
  refine lv_bipush (v := (nI 64)) hx hb dX0_writePage_45 (by decide) ?_
  refine n_imul hx hb dX0_writePage_47 ?_
  refine lv_iload hx hb dX0_writePage_48 (lv_at hl 0 rfl) ?_
  refine n_iadd hx hb dX0_writePage_50 ?_
  refine lv_bipush (v := (nI 32)) hx hb dX0_writePage_51 (by decide) ?_
  refine n_copyi hx hb hl.1 hml hown acX0_writePage hts hK hP hD hS 2 2 0 rfl rfl rfl (fr + 32) ((k * 64) + 32) 32 (by omega) (by omega) (by omega) (by omega) (by omega) (Nat.le_of_ble_eq_true rfl) (Nat.le_of_ble_eq_true rfl) dX0_writePage_53 (fun H locs hP hD hS => ?_)
  have hP : va_P D vwCl (wC h0 a0 a1 a2 a3 a4 a5 cI cZ bf (va_cpy (va_cpy pw pw fr (k * 64) 32) (va_cpy pw pw fr (k * 64) 32) (fr + 32) ((k * 64) + 32) 32) (upd hs (k * 2) (nb + 1)) lo lg rt (nb + 1) (nI fi) (nI fo) (nI en) on (dcu (dcu cu)) (ma + 1 + 1)) H := hP
  have hD : va_D A (wC h0 a0 a1 a2 a3 a4 a5 cI cZ bf (va_cpy (va_cpy pw pw fr (k * 64) 32) (va_cpy pw pw fr (k * 64) 32) (fr + 32) ((k * 64) + 32) 32) (upd hs (k * 2) (nb + 1)) lo lg rt (nb + 1) (nI fi) (nI fo) (nI en) on (dcu (dcu cu)) (ma + 1 + 1)) := hD
  refine lv_aload_n hx hb dX0_writePage_56 rfl (lv_at hl 2 rfl) ?_
  refine va_get (ci := 0) (v := .ref a2) (C := RX0) (T := TX0) (N := 13) hx hb hts inX0_writePage hown hK hP 0 rfl rfl 2 (by decide) (hts _ flX0_writePage_17) (fun _ h9 => h9) rfl dX0_writePage_57 ?_
  refine lv_iload_n hx hb dX0_writePage_60 rfl (lv_at hl 3 rfl) ?_
  refine lv_iconst (v := (nI 2)) hx hb dX0_writePage_61 (by decide) ?_
  refine n_imul hx hb dX0_writePage_62 ?_
  refine lv_iload hx hb dX0_writePage_63 (lv_at hl 1 rfl) ?_
  refine n_iadd hx hb dX0_writePage_65 ?_
  refine lv_aload_n hx hb dX0_writePage_66 rfl (lv_at hl 2 rfl) ?_
  refine va_get (ci := 0) (v := .int (nb + 1)) (C := RX0) (T := TX0) (N := 13) hx hb hts inX0_writePage hown hK hP 0 rfl rfl 4 (by decide) (hts _ flX0_writePage_128) (fun _ h9 => h9) rfl dX0_writePage_67 ?_
  refine n_iast hx hb hK hP hD hS 3 0 rfl rfl ((k * 2) + 1) (by omega) (by omega) dX0_writePage_70 (fun H locs hP hD hS => ?_)
  have hP : va_P D vwCl (wC h0 a0 a1 a2 a3 a4 a5 cI cZ bf (va_cpy (va_cpy pw pw fr (k * 64) 32) (va_cpy pw pw fr (k * 64) 32) (fr + 32) ((k * 64) + 32) 32) (upd (upd hs (k * 2) (nb + 1)) ((k * 2) + 1) (nb + 1)) lo lg rt (nb + 1) (nI fi) (nI fo) (nI en) on (dcu (dcu cu)) (ma + 1 + 1)) H := hP
  have hD : va_D A (wC h0 a0 a1 a2 a3 a4 a5 cI cZ bf (va_cpy (va_cpy pw pw fr (k * 64) 32) (va_cpy pw pw fr (k * 64) 32) (fr + 32) ((k * 64) + 32) 32) (upd (upd hs (k * 2) (nb + 1)) ((k * 2) + 1) (nb + 1)) lo lg rt (nb + 1) (nI fi) (nI fo) (nI en) on (dcu (dcu cu)) (ma + 1 + 1)) := hD
  refine n_iinc (lv' := [(4, .int (nI 2)), (5, .int (nI 32)), (0, .ref h0), (1, .int (nI k)), (2, .ref a1), (3, .int (nI fr))]) hx hb dX0_writePage_71 hl (k := 1) rfl (by decide) rfl (fun ls hl => ?_)
  refine lv_goto (tgt := 13) hx hb dX0_writePage_74 (by decide) ?_
  refine lv_iload hx hb dX0_writePage_13 (lv_at hl 0 rfl) ?_
  refine lv_iconst (v := (nI 2)) hx hb dX0_writePage_15 (by decide) ?_
  refine n_ge (tgt := 77) hx hb (by omega) (by omega) dX0_writePage_16 (by decide) (fun c_16 => ?_) (fun c_16 => absurd c_16 (by omega))
  refine lv_aload_n hx hb dX0_writePage_77 rfl (lv_at hl 2 rfl) ?_
  refine va_get (ci := 0) (v := .ref a3) (C := RX0) (T := TX0) (N := 13) hx hb hts inX0_writePage hown hK hP 0 rfl rfl 3 (by decide) (hts _ flX0_writePage_20) (fun _ h9 => h9) rfl dX0_writePage_78 ?_
  refine lv_iload_n hx hb dX0_writePage_81 rfl (lv_at hl 3 rfl) ?_
  refine lv_iconst (v := (0)) hx hb dX0_writePage_82 (by decide) ?_
  refine n_zast hx hb hK hP hD hS 4 1 rfl rfl k (by omega) (by omega) (by decide) dX0_writePage_83 (fun H locs hP hD hS => ?_)
  have hP : va_P D vwCl (wC h0 a0 a1 a2 a3 a4 a5 cI cZ bf (va_cpy (va_cpy pw pw fr (k * 64) 32) (va_cpy pw pw fr (k * 64) 32) (fr + 32) ((k * 64) + 32) 32) (upd (upd hs (k * 2) (nb + 1)) ((k * 2) + 1) (nb + 1)) (upd lo k 0) lg rt (nb + 1) (nI fi) (nI fo) (nI en) on (dcu (dcu cu)) (ma + 1 + 1)) H := hP
  have hD : va_D A (wC h0 a0 a1 a2 a3 a4 a5 cI cZ bf (va_cpy (va_cpy pw pw fr (k * 64) 32) (va_cpy pw pw fr (k * 64) 32) (fr + 32) ((k * 64) + 32) 32) (upd (upd hs (k * 2) (nb + 1)) ((k * 2) + 1) (nb + 1)) (upd lo k 0) lg rt (nb + 1) (nI fi) (nI fo) (nI en) on (dcu (dcu cu)) (ma + 1 + 1)) := hD
  refine lv_aload_n hx hb dX0_writePage_84 rfl (lv_at hl 2 rfl) ?_
  refine va_get (ci := 0) (v := .int (nb + 1)) (C := RX0) (T := TX0) (N := 13) hx hb hts inX0_writePage hown hK hP 0 rfl rfl 4 (by decide) (hts _ flX0_writePage_128) (fun _ h9 => h9) rfl dX0_writePage_85 ?_
  exact e_I hx hb hr hlocks hP hD hS rfl dX0_writePage_88
