/-! OWN ROWS, by program: the reference, its small methods -/
set_option maxHeartbeats 4000000 in
set_option maxRecDepth 100000 in
theorem tX1_in {l : Launch} {D : va_G} (x a b : Int32) : RI l yX1_in wsX1_in 1 0 0 D [] ([]) [.int x, .int a, .int b] (sp_in x a b) ([]) := by
  refine st_I (cc := cX1_in) (maxL := 3) (ret := (some .boolean)) (by decide +kernel) rfl (Nat.le_of_ble_eq_true rfl) ?_
  intro p e s m below meth c A hx hb hr hts hown hml hlocks hK hP hD hA hS ls hl
  have hown : s.vm.findClass RX1 = some m.cls := hown
  have hl : lv_has ls 3 [(0, .int x), (1, .int a), (2, .int b)] := hl
  refine lv_iload_n hx hb dX1_in_0 rfl (lv_at hl 0 rfl) ?_
  refine lv_iload_n hx hb dX1_in_1 rfl (lv_at hl 1 rfl) ?_
  refine lv_icmp_lt (tgt := 14) hx hb dX1_in_2 (by decide) (fun c_2 => ?_) (fun c_2 => ?_)
  · refine lv_iconst (v := (0)) hx hb dX1_in_14 (by decide) ?_
    exact e_Z hx hb hr hlocks hP hD hS (by simp [sp_in, c_2]) rfl dX1_in_15
  · refine lv_iload_n hx hb dX1_in_5 rfl (lv_at hl 0 rfl) ?_
    refine lv_iload_n hx hb dX1_in_6 rfl (lv_at hl 2 rfl) ?_
    refine lv_icmp_gt (tgt := 14) hx hb dX1_in_7 (by decide) (fun c_7 => ?_) (fun c_7 => ?_)
    · refine lv_iconst (v := (0)) hx hb dX1_in_14 (by decide) ?_
      exact e_Z hx hb hr hlocks hP hD hS (by simp [sp_in, c_2, c_7]) rfl dX1_in_15
    · refine lv_iconst (v := (1)) hx hb dX1_in_10 (by decide) ?_
      refine lv_goto (tgt := 15) hx hb dX1_in_11 (by decide) ?_
      exact e_Z hx hb hr hlocks hP hD hS (by simp [sp_in, c_2, c_7]) rfl dX1_in_15
theorem sp_in_t {k a b : Nat} (h1 : a ≤ k) (h2 : k ≤ b) (hb : b < 2 ^ 31) : sp_in (nI k) (nI a) (nI b) = 1 := by
  unfold sp_in
  rw [if_neg (fun q => absurd ((nI_ltI (by omega) (by omega)).mp q) (by omega)), if_neg (fun q => absurd ((nI_ltI (by omega) (by omega)).mp q) (by omega))]
theorem sp_in_f {x a b : Int32} (h : x < a ∨ b < x) : sp_in x a b = 0 := by
  unfold sp_in
  rcases h with h | h
  · rw [if_pos h]
  · split
    · rfl
    · rfl
theorem sp_in_01 (x a b : Int32) : sp_in x a b = 0 ∨ sp_in x a b = 1 := by
  unfold sp_in
  split
  · exact Or.inl rfl
  · split
    · exact Or.inl rfl
    · exact Or.inr rfl
theorem sp_pg_t {ar pg : Nat} (h1 : ar < 2) (h2 : pg < 256) : sp_pg (nI ar) (nI pg) = 1 := by
  unfold sp_pg
  rw [sp_in_t (by omega) (by omega) (by omega), if_neg (by decide), sp_in_t (by omega) (by omega) (by omega)]
theorem sp_pg_f {x y : Int32} (h : badP x y) : sp_pg x y = 0 := by
  unfold sp_pg
  rcases h with h | ⟨ar, h1, rfl, h⟩
  · rw [sp_in_f (ix_in 1 (by omega) h), if_pos rfl]
  · rw [sp_in_t (by omega) (by omega) (by omega), if_neg (by decide), sp_in_f (ix_in 255 (by omega) h)]
theorem tX1_in_e {l : Launch} {D : va_G} (x a b r : Int32) (h : sp_in x a b = r) : RI l yX1_in wsX1_in 1 0 0 D [] ([]) [.int x, .int a, .int b] r ([]) := h ▸ tX1_in x a b
set_option maxHeartbeats 4000000 in
set_option maxRecDepth 100000 in
theorem tX1_isPage {l : Launch} {D : va_G} (x y : Int32) : RI l yX1_isPage wsX1_isPage 2 0 0 D [] ([]) [.int x, .int y] (sp_pg x y) ([]) := by
  refine st_I (cc := cX1_isPage) (maxL := 2) (ret := (some .boolean)) (by decide +kernel) rfl (Nat.le_of_ble_eq_true rfl) ?_
  intro p e s m below meth c A hx hb hr hts hown hml hlocks hK hP hD hA hS ls hl
  have hown : s.vm.findClass RX1 = some m.cls := hown
  have hl : lv_has ls 2 [(0, .int x), (1, .int y)] := hl
  refine lv_iload_n hx hb dX1_isPage_0 rfl (lv_at hl 0 rfl) ?_
  refine lv_iconst (v := (nI 0)) hx hb dX1_isPage_1 (by decide) ?_
  refine lv_iconst (v := (nI 1)) hx hb dX1_isPage_2 (by decide) ?_
  refine k_I (wr := []) hP hD hS hA (va_runS (As := [.int x, .int (nI 0), .int (nI 1)]) (rest := []) ⟨hx, hb, hml, hown, hts⟩ ((tX1_in_e x (nI 0) (nI 1) (sp_in x (nI 0) (nI 1)) rfl) _) (va_cwS 3 hts gX1_isPage_X1_in rfl rfl rfl (by decide +kernel) ⟨Nat.le_of_ble_eq_true rfl, Nat.le_of_ble_eq_true rfl⟩) (pS_B hP hD hK [] rfl [] rfl rfl) rfl rfl hl.1 rfl (lv_room (Nat.le_of_ble_eq_true rfl)) dX1_isPage_3 ⟨Nat.le_of_ble_eq_true rfl, Nat.le_of_ble_eq_true rfl⟩) [] [] rfl rfl rfl (by decide) (fun H locs hP hD hS => ?_)
  have hP : va_P D vwCl ([]) H := hP
  have hD : va_D A ([]) := hD
  refine lv_if_eq (tgt := 24) hx hb dX1_isPage_6 (by decide) (fun c_6 => ?_) (fun c_6 => ?_)
  · refine lv_iconst (v := (0)) hx hb dX1_isPage_24 (by decide) ?_
    exact e_Z hx hb hr hlocks hP hD hS (by simp [sp_pg, c_6]) rfl dX1_isPage_25
  · refine lv_iload_n hx hb dX1_isPage_9 rfl (lv_at hl 1 rfl) ?_
    refine lv_iconst (v := (nI 0)) hx hb dX1_isPage_10 (by decide) ?_
    refine lv_sipush (v := (nI 255)) hx hb dX1_isPage_11 (by decide) ?_
    refine k_I (wr := []) hP hD hS hA (va_runS (As := [.int y, .int (nI 0), .int (nI 255)]) (rest := []) ⟨hx, hb, hml, hown, hts⟩ ((tX1_in_e y (nI 0) (nI 255) (sp_in y (nI 0) (nI 255)) rfl) _) (va_cwS 3 hts gX1_isPage_X1_in rfl rfl rfl (by decide +kernel) ⟨Nat.le_of_ble_eq_true rfl, Nat.le_of_ble_eq_true rfl⟩) (pS_B hP hD hK [] rfl [] rfl rfl) rfl rfl hl.1 rfl (lv_room (Nat.le_of_ble_eq_true rfl)) dX1_isPage_14 ⟨Nat.le_of_ble_eq_true rfl, Nat.le_of_ble_eq_true rfl⟩) [] [] rfl rfl rfl (by decide) (fun H locs hP hD hS => ?_)
    have hP : va_P D vwCl ([]) H := hP
    have hD : va_D A ([]) := hD
    refine lv_if_eq (tgt := 24) hx hb dX1_isPage_17 (by decide) (fun c_17 => ?_) (fun c_17 => ?_)
    · refine lv_iconst (v := (0)) hx hb dX1_isPage_24 (by decide) ?_
      exact e_Z hx hb hr hlocks hP hD hS (by simp [sp_pg, c_6, c_17]) rfl dX1_isPage_25
    · refine lv_iconst (v := (1)) hx hb dX1_isPage_20 (by decide) ?_
      refine lv_goto (tgt := 25) hx hb dX1_isPage_21 (by decide) ?_
      exact e_Z hx hb hr hlocks hP hD hS (by rcases sp_in_01 y (nI 0) (nI 255) with q | q; exact absurd q c_17; simp [sp_pg, c_6, q]) rfl dX1_isPage_25
theorem tX1_isPage_e {l : Launch} {D : va_G} (x y r : Int32) (h : sp_pg x y = r) : RI l yX1_isPage wsX1_isPage 2 0 0 D [] ([]) [.int x, .int y] r ([]) := h ▸ tX1_isPage x y
set_option maxHeartbeats 4000000 in
set_option maxRecDepth 100000 in
theorem tX1_place {l : Launch} {D : va_G} (ar pg : Nat) : RI l yX1_place wsX1_place 1 0 0 D [] ([]) [.int (nI ar), .int (nI pg)] (nI (ar * 256 + pg)) ([]) := by
  refine st_I (cc := cX1_place) (maxL := 2) (ret := (some .int)) (by decide +kernel) rfl (Nat.le_of_ble_eq_true rfl) ?_
  intro p e s m below meth c A hx hb hr hts hown hml hlocks hK hP hD hA hS ls hl
  have hown : s.vm.findClass RX1 = some m.cls := hown
  have hl : lv_has ls 2 [(0, .int (nI ar)), (1, .int (nI pg))] := hl
  refine lv_sipush (v := (nI 256)) hx hb dX1_place_0 (by decide) ?_
  refine lv_iload_n hx hb dX1_place_3 rfl (lv_at hl 0 rfl) ?_
  refine n_imul hx hb dX1_place_4 ?_
  refine lv_iload_n hx hb dX1_place_5 rfl (lv_at hl 1 rfl) ?_
  refine n_iadd hx hb dX1_place_6 ?_
  exact e_I hx hb hr hlocks hP hD hS (by rw [Nat.mul_comm]) dX1_place_7
set_option maxHeartbeats 4000000 in
set_option maxRecDepth 100000 in
theorem tX1_refused_1 {l : Launch} {D : va_G} {cI cZ : ClassId} {h0 a0 a1 a2 a3 a4 a5 : Nat} (th : Int32) (bf pw hs lo lg rt : Nat → Int32) (nb : Int32) (fi fo en : Nat) (off cu ma : Int32) (y : Int32) : RI l yX1_refused wsX1_refused 1 0 0 D (tyC cI cZ) (wM h0 a0 a1 a2 a3 a4 a5 cI cZ th bf pw hs lo lg rt nb (nI fi) (nI fo) (nI en) off cu ma) [.ref h0, .int 1, .int y] 1 (wM h0 a0 a1 a2 a3 a4 a5 cI cZ 1 bf pw hs lo lg rt nb (nI fi) (nI fo) (nI en) off cu ma) := by
  refine st_I (cc := cX1_refused) (maxL := 3) (ret := (some .boolean)) (by decide +kernel) rfl (Nat.le_of_ble_eq_true rfl) ?_
  intro p e s m below meth c A hx hb hr hts hown hml hlocks hK hP hD hA hS ls hl
  have hown : s.vm.findClass RX1 = some m.cls := hown
  have hl : lv_has ls 3 [(0, .ref h0), (1, .int 1), (2, .int y)] := hl
  refine lv_aload_n hx hb dX1_refused_0 rfl (lv_at hl 0 rfl) ?_
  refine lv_iload_n hx hb dX1_refused_1 rfl (lv_at hl 1 rfl) ?_
  refine lv_if_eq (tgt := 9) hx hb dX1_refused_2 (by decide) (fun c_2 => absurd c_2 (by decide)) (fun c_2 => ?_)
  refine lv_iconst (v := (1)) hx hb dX1_refused_5 (by decide) ?_
  refine lv_goto (tgt := 18) hx hb dX1_refused_6 (by decide) ?_
  refine va_put (ci := 1) (v := .int 1) (ty := .int) (C := RX1) (T := TX1) (N := 14) hx hb hts inX1_refused tyX1 tyX1_ok nmX1 hown hK hP hD hS 0 rfl rfl 0 (by decide) (hts _ flX1_refused_38) (fun _ h9 => h9) rfl (by decide +kernel) rfl rfl (Nat.le_of_ble_eq_true rfl) dX1_refused_18 (fun H locs hP hD hS => ?_)
  have hP : va_P D vwCl (wM h0 a0 a1 a2 a3 a4 a5 cI cZ 1 bf pw hs lo lg rt nb (nI fi) (nI fo) (nI en) off cu ma) H := hP
  have hD : va_D A (wM h0 a0 a1 a2 a3 a4 a5 cI cZ 1 bf pw hs lo lg rt nb (nI fi) (nI fo) (nI en) off cu ma) := hD
  refine lv_aload_n hx hb dX1_refused_21 rfl (lv_at hl 0 rfl) ?_
  refine va_get (ci := 1) (v := .int 1) (C := RX1) (T := TX1) (N := 14) hx hb hts inX1_refused hown hK hP 0 rfl rfl 0 (by decide) (hts _ flX1_refused_38) (fun _ h9 => h9) rfl dX1_refused_22 ?_
  refine lv_if_le (tgt := 32) hx hb dX1_refused_25 (by decide) (fun c_25 => absurd c_25 (by decide)) (fun c_25 => ?_)
  refine lv_iconst (v := (1)) hx hb dX1_refused_28 (by decide) ?_
  refine lv_goto (tgt := 33) hx hb dX1_refused_29 (by decide) ?_
  exact e_Z hx hb hr hlocks hP hD hS rfl rfl dX1_refused_33
set_option maxHeartbeats 4000000 in
set_option maxRecDepth 100000 in
theorem tX1_refused_2 {l : Launch} {D : va_G} {cI cZ : ClassId} {h0 a0 a1 a2 a3 a4 a5 : Nat} (th : Int32) (bf pw hs lo lg rt : Nat → Int32) (nb : Int32) (fi fo en : Nat) (off cu ma : Int32) : RI l yX1_refused wsX1_refused 1 0 0 D (tyC cI cZ) (wM h0 a0 a1 a2 a3 a4 a5 cI cZ th bf pw hs lo lg rt nb (nI fi) (nI fo) (nI en) off cu ma) [.ref h0, .int 0, .int 1] 1 (wM h0 a0 a1 a2 a3 a4 a5 cI cZ 2 bf pw hs lo lg rt nb (nI fi) (nI fo) (nI en) off cu ma) := by
  refine st_I (cc := cX1_refused) (maxL := 3) (ret := (some .boolean)) (by decide +kernel) rfl (Nat.le_of_ble_eq_true rfl) ?_
  intro p e s m below meth c A hx hb hr hts hown hml hlocks hK hP hD hA hS ls hl
  have hown : s.vm.findClass RX1 = some m.cls := hown
  have hl : lv_has ls 3 [(0, .ref h0), (1, .int 0), (2, .int 1)] := hl
  refine lv_aload_n hx hb dX1_refused_0 rfl (lv_at hl 0 rfl) ?_
  refine lv_iload_n hx hb dX1_refused_1 rfl (lv_at hl 1 rfl) ?_
  refine lv_if_eq (tgt := 9) hx hb dX1_refused_2 (by decide) (fun c_2 => ?_) (fun c_2 => absurd (by decide) c_2)
  refine lv_iload_n hx hb dX1_refused_9 rfl (lv_at hl 2 rfl) ?_
  refine lv_if_eq (tgt := 17) hx hb dX1_refused_10 (by decide) (fun c_10 => absurd c_10 (by decide)) (fun c_10 => ?_)
  refine lv_iconst (v := (2)) hx hb dX1_refused_13 (by decide) ?_
  refine lv_goto (tgt := 18) hx hb dX1_refused_14 (by decide) ?_
  refine va_put (ci := 1) (v := .int 2) (ty := .int) (C := RX1) (T := TX1) (N := 14) hx hb hts inX1_refused tyX1 tyX1_ok nmX1 hown hK hP hD hS 0 rfl rfl 0 (by decide) (hts _ flX1_refused_38) (fun _ h9 => h9) rfl (by decide +kernel) rfl rfl (Nat.le_of_ble_eq_true rfl) dX1_refused_18 (fun H locs hP hD hS => ?_)
  have hP : va_P D vwCl (wM h0 a0 a1 a2 a3 a4 a5 cI cZ 2 bf pw hs lo lg rt nb (nI fi) (nI fo) (nI en) off cu ma) H := hP
  have hD : va_D A (wM h0 a0 a1 a2 a3 a4 a5 cI cZ 2 bf pw hs lo lg rt nb (nI fi) (nI fo) (nI en) off cu ma) := hD
  refine lv_aload_n hx hb dX1_refused_21 rfl (lv_at hl 0 rfl) ?_
  refine va_get (ci := 1) (v := .int 2) (C := RX1) (T := TX1) (N := 14) hx hb hts inX1_refused hown hK hP 0 rfl rfl 0 (by decide) (hts _ flX1_refused_38) (fun _ h9 => h9) rfl dX1_refused_22 ?_
  refine lv_if_le (tgt := 32) hx hb dX1_refused_25 (by decide) (fun c_25 => absurd c_25 (by decide)) (fun c_25 => ?_)
  refine lv_iconst (v := (1)) hx hb dX1_refused_28 (by decide) ?_
  refine lv_goto (tgt := 33) hx hb dX1_refused_29 (by decide) ?_
  exact e_Z hx hb hr hlocks hP hD hS rfl rfl dX1_refused_33
set_option maxHeartbeats 4000000 in
set_option maxRecDepth 100000 in
theorem tX1_refused_0 {l : Launch} {D : va_G} {cI cZ : ClassId} {h0 a0 a1 a2 a3 a4 a5 : Nat} (th : Int32) (bf pw hs lo lg rt : Nat → Int32) (nb : Int32) (fi fo en : Nat) (off cu ma : Int32) : RI l yX1_refused wsX1_refused 1 0 0 D (tyC cI cZ) (wM h0 a0 a1 a2 a3 a4 a5 cI cZ th bf pw hs lo lg rt nb (nI fi) (nI fo) (nI en) off cu ma) [.ref h0, .int 0, .int 0] 0 (wM h0 a0 a1 a2 a3 a4 a5 cI cZ 0 bf pw hs lo lg rt nb (nI fi) (nI fo) (nI en) off cu ma) := by
  refine st_I (cc := cX1_refused) (maxL := 3) (ret := (some .boolean)) (by decide +kernel) rfl (Nat.le_of_ble_eq_true rfl) ?_
  intro p e s m below meth c A hx hb hr hts hown hml hlocks hK hP hD hA hS ls hl
  have hown : s.vm.findClass RX1 = some m.cls := hown
  have hl : lv_has ls 3 [(0, .ref h0), (1, .int 0), (2, .int 0)] := hl
  refine lv_aload_n hx hb dX1_refused_0 rfl (lv_at hl 0 rfl) ?_
  refine lv_iload_n hx hb dX1_refused_1 rfl (lv_at hl 1 rfl) ?_
  refine lv_if_eq (tgt := 9) hx hb dX1_refused_2 (by decide) (fun c_2 => ?_) (fun c_2 => absurd (by decide) c_2)
  refine lv_iload_n hx hb dX1_refused_9 rfl (lv_at hl 2 rfl) ?_
  refine lv_if_eq (tgt := 17) hx hb dX1_refused_10 (by decide) (fun c_10 => ?_) (fun c_10 => absurd (by decide) c_10)
  refine lv_iconst (v := (0)) hx hb dX1_refused_17 (by decide) ?_
  refine va_put (ci := 1) (v := .int 0) (ty := .int) (C := RX1) (T := TX1) (N := 14) hx hb hts inX1_refused tyX1 tyX1_ok nmX1 hown hK hP hD hS 0 rfl rfl 0 (by decide) (hts _ flX1_refused_38) (fun _ h9 => h9) rfl (by decide +kernel) rfl rfl (Nat.le_of_ble_eq_true rfl) dX1_refused_18 (fun H locs hP hD hS => ?_)
  have hP : va_P D vwCl (wM h0 a0 a1 a2 a3 a4 a5 cI cZ 0 bf pw hs lo lg rt nb (nI fi) (nI fo) (nI en) off cu ma) H := hP
  have hD : va_D A (wM h0 a0 a1 a2 a3 a4 a5 cI cZ 0 bf pw hs lo lg rt nb (nI fi) (nI fo) (nI en) off cu ma) := hD
  refine lv_aload_n hx hb dX1_refused_21 rfl (lv_at hl 0 rfl) ?_
  refine va_get (ci := 1) (v := .int 0) (C := RX1) (T := TX1) (N := 14) hx hb hts inX1_refused hown hK hP 0 rfl rfl 0 (by decide) (hts _ flX1_refused_38) (fun _ h9 => h9) rfl dX1_refused_22 ?_
  refine lv_if_le (tgt := 32) hx hb dX1_refused_25 (by decide) (fun c_25 => ?_) (fun c_25 => absurd (by decide) c_25)
  refine lv_iconst (v := (0)) hx hb dX1_refused_32 (by decide) ?_
  exact e_Z hx hb hr hlocks hP hD hS rfl rfl dX1_refused_33
set_option maxHeartbeats 4000000 in
set_option maxRecDepth 100000 in
theorem tX1_isTorn_t {l : Launch} {D : va_G} {cI cZ : ClassId} {h0 a0 a1 a2 a3 a4 a5 : Nat} (th : Int32) (bf pw hs lo lg rt : Nat → Int32) (nb : Int32) (fi fo en : Nat) (off cu ma : Int32) (k : Nat) (h : k < 512) (he : ¬ hs (k * 2) = hs (k * 2 + 1)) : RI l yX1_isTorn wsX1_isTorn 1 0 0 D (tyC cI cZ) (wM h0 a0 a1 a2 a3 a4 a5 cI cZ th bf pw hs lo lg rt nb (nI fi) (nI fo) (nI en) off cu ma) [.ref h0, .int (nI k)] 1 (wM h0 a0 a1 a2 a3 a4 a5 cI cZ th bf pw hs lo lg rt nb (nI fi) (nI fo) (nI en) off cu ma) := by
  refine st_I (cc := cX1_isTorn) (maxL := 2) (ret := (some .boolean)) (by decide +kernel) rfl (Nat.le_of_ble_eq_true rfl) ?_
  intro p e s m below meth c A hx hb hr hts hown hml hlocks hK hP hD hA hS ls hl
  have hown : s.vm.findClass RX1 = some m.cls := hown
  have hl : lv_has ls 2 [(0, .ref h0), (1, .int (nI k))] := hl
  refine lv_aload_n hx hb dX1_isTorn_0 rfl (lv_at hl 0 rfl) ?_
  refine va_get (ci := 1) (v := .ref a2) (C := RX1) (T := TX1) (N := 14) hx hb hts inX1_isTorn hown hK hP 0 rfl rfl 2 (by decide) (hts _ flX1_isTorn_14) (fun _ h9 => h9) rfl dX1_isTorn_1 ?_
  refine lv_iconst (v := (nI 2)) hx hb dX1_isTorn_4 (by decide) ?_
  refine lv_iload_n hx hb dX1_isTorn_5 rfl (lv_at hl 1 rfl) ?_
  refine n_imulc hx hb dX1_isTorn_6 ?_
  refine n_iald hx hb hK hP 3 0 rfl rfl (k * 2) (by omega) (by omega) dX1_isTorn_7 ?_
  refine lv_aload_n hx hb dX1_isTorn_8 rfl (lv_at hl 0 rfl) ?_
  refine va_get (ci := 1) (v := .ref a2) (C := RX1) (T := TX1) (N := 14) hx hb hts inX1_isTorn hown hK hP 0 rfl rfl 2 (by decide) (hts _ flX1_isTorn_14) (fun _ h9 => h9) rfl dX1_isTorn_9 ?_
  refine lv_iconst (v := (nI 2)) hx hb dX1_isTorn_12 (by decide) ?_
  refine lv_iload_n hx hb dX1_isTorn_13 rfl (lv_at hl 1 rfl) ?_
  refine n_imulc hx hb dX1_isTorn_14 ?_
  refine lv_iconst (v := (nI 1)) hx hb dX1_isTorn_15 (by decide) ?_
  refine n_iadd hx hb dX1_isTorn_16 ?_
  refine n_iald hx hb hK hP 3 0 rfl rfl ((k * 2) + 1) (by omega) (by omega) dX1_isTorn_17 ?_
  refine lv_icmp_eq (tgt := 25) hx hb dX1_isTorn_18 (by decide) (fun c_18 => absurd c_18 (he)) (fun c_18 => ?_)
  refine lv_iconst (v := (1)) hx hb dX1_isTorn_21 (by decide) ?_
  refine lv_goto (tgt := 26) hx hb dX1_isTorn_22 (by decide) ?_
  exact e_Z hx hb hr hlocks hP hD hS rfl rfl dX1_isTorn_26
set_option maxHeartbeats 4000000 in
set_option maxRecDepth 100000 in
theorem tX1_isTorn_f {l : Launch} {D : va_G} {cI cZ : ClassId} {h0 a0 a1 a2 a3 a4 a5 : Nat} (th : Int32) (bf pw hs lo lg rt : Nat → Int32) (nb : Int32) (fi fo en : Nat) (off cu ma : Int32) (k : Nat) (h : k < 512) (he : hs (k * 2) = hs (k * 2 + 1)) : RI l yX1_isTorn wsX1_isTorn 1 0 0 D (tyC cI cZ) (wM h0 a0 a1 a2 a3 a4 a5 cI cZ th bf pw hs lo lg rt nb (nI fi) (nI fo) (nI en) off cu ma) [.ref h0, .int (nI k)] 0 (wM h0 a0 a1 a2 a3 a4 a5 cI cZ th bf pw hs lo lg rt nb (nI fi) (nI fo) (nI en) off cu ma) := by
  refine st_I (cc := cX1_isTorn) (maxL := 2) (ret := (some .boolean)) (by decide +kernel) rfl (Nat.le_of_ble_eq_true rfl) ?_
  intro p e s m below meth c A hx hb hr hts hown hml hlocks hK hP hD hA hS ls hl
  have hown : s.vm.findClass RX1 = some m.cls := hown
  have hl : lv_has ls 2 [(0, .ref h0), (1, .int (nI k))] := hl
  refine lv_aload_n hx hb dX1_isTorn_0 rfl (lv_at hl 0 rfl) ?_
  refine va_get (ci := 1) (v := .ref a2) (C := RX1) (T := TX1) (N := 14) hx hb hts inX1_isTorn hown hK hP 0 rfl rfl 2 (by decide) (hts _ flX1_isTorn_14) (fun _ h9 => h9) rfl dX1_isTorn_1 ?_
  refine lv_iconst (v := (nI 2)) hx hb dX1_isTorn_4 (by decide) ?_
  refine lv_iload_n hx hb dX1_isTorn_5 rfl (lv_at hl 1 rfl) ?_
  refine n_imulc hx hb dX1_isTorn_6 ?_
  refine n_iald hx hb hK hP 3 0 rfl rfl (k * 2) (by omega) (by omega) dX1_isTorn_7 ?_
  refine lv_aload_n hx hb dX1_isTorn_8 rfl (lv_at hl 0 rfl) ?_
  refine va_get (ci := 1) (v := .ref a2) (C := RX1) (T := TX1) (N := 14) hx hb hts inX1_isTorn hown hK hP 0 rfl rfl 2 (by decide) (hts _ flX1_isTorn_14) (fun _ h9 => h9) rfl dX1_isTorn_9 ?_
  refine lv_iconst (v := (nI 2)) hx hb dX1_isTorn_12 (by decide) ?_
  refine lv_iload_n hx hb dX1_isTorn_13 rfl (lv_at hl 1 rfl) ?_
  refine n_imulc hx hb dX1_isTorn_14 ?_
  refine lv_iconst (v := (nI 1)) hx hb dX1_isTorn_15 (by decide) ?_
  refine n_iadd hx hb dX1_isTorn_16 ?_
  refine n_iald hx hb hK hP 3 0 rfl rfl ((k * 2) + 1) (by omega) (by omega) dX1_isTorn_17 ?_
  refine lv_icmp_eq (tgt := 25) hx hb dX1_isTorn_18 (by decide) (fun c_18 => ?_) (fun c_18 => absurd (he) c_18)
  refine lv_iconst (v := (0)) hx hb dX1_isTorn_25 (by decide) ?_
  exact e_Z hx hb hr hlocks hP hD hS rfl rfl dX1_isTorn_26
set_option maxHeartbeats 4000000 in
set_option maxRecDepth 100000 in
theorem tX1_stateOf {l : Launch} {D : va_G} {cI cZ : ClassId} {h0 a0 a1 a2 a3 a4 a5 : Nat} (th : Int32) (bf pw hs lo lg rt : Nat → Int32) (nb : Int32) (fi fo en : Nat) (off cu ma : Int32) (k : Nat) (h : k < 512) : RI l yX1_stateOf wsX1_stateOf 2 0 0 D (tyC cI cZ) (wM h0 a0 a1 a2 a3 a4 a5 cI cZ th bf pw hs lo lg rt nb (nI fi) (nI fo) (nI en) off cu ma) [.ref h0, .int (nI k)] (sp_ps lo hs k) (wM h0 a0 a1 a2 a3 a4 a5 cI cZ th bf pw hs lo lg rt nb (nI fi) (nI fo) (nI en) off cu ma) := by
  refine st_I (cc := cX1_stateOf) (maxL := 2) (ret := (some .int)) (by decide +kernel) rfl (Nat.le_of_ble_eq_true rfl) ?_
  intro p e s m below meth c A hx hb hr hts hown hml hlocks hK hP hD hA hS ls hl
  have hown : s.vm.findClass RX1 = some m.cls := hown
  have hl : lv_has ls 2 [(0, .ref h0), (1, .int (nI k))] := hl
  refine lv_aload_n hx hb dX1_stateOf_0 rfl (lv_at hl 0 rfl) ?_
  refine va_get (ci := 1) (v := .ref a3) (C := RX1) (T := TX1) (N := 14) hx hb hts inX1_stateOf hown hK hP 0 rfl rfl 3 (by decide) (hts _ flX1_stateOf_17) (fun _ h9 => h9) rfl dX1_stateOf_1 ?_
  refine lv_iload_n hx hb dX1_stateOf_4 rfl (lv_at hl 1 rfl) ?_
  refine n_zald hx hb hK hP 4 1 rfl rfl k (by omega) (by omega) dX1_stateOf_5 ?_
  refine lv_if_eq (tgt := 13) hx hb dX1_stateOf_6 (by decide) (fun c_6 => ?_) (fun c_6 => ?_)
  · refine lv_aload_n hx hb dX1_stateOf_13 rfl (lv_at hl 0 rfl) ?_
    refine lv_iload_n hx hb dX1_stateOf_14 rfl (lv_at hl 1 rfl) ?_
    by_cases he : hs (k * 2) = hs (k * 2 + 1)
    · refine k_I (wr := []) hP hD hS hA (va_runV (As := [.int (nI k)]) (rest := []) ⟨hx, hb, hml, hown, hts⟩ ((tX1_isTorn_f th bf pw hs lo lg rt nb fi fo en off cu ma k h he) _) (cwV 1 hts gX1_stateOf_X1_isTorn rfl rfl rfl (by decide +kernel) ⟨Nat.le_of_ble_eq_true rfl, Nat.le_of_ble_eq_true rfl⟩) (pV_B hP hD hK (ci := 1) (q0 := 0) rfl rfl rfl [0, 1] rfl [0, 1, 2, 3, 4, 5, 6] rfl rfl) rfl rfl hl.1 rfl (lv_room (Nat.le_of_ble_eq_true rfl)) dX1_stateOf_15 ⟨Nat.le_of_ble_eq_true rfl, Nat.le_of_ble_eq_true rfl⟩) [0, 1, 2, 3, 4, 5, 6] [] rfl rfl rfl (by decide) (fun H locs hP hD hS => ?_)
      have hP : va_P D vwCl (wM h0 a0 a1 a2 a3 a4 a5 cI cZ th bf pw hs lo lg rt nb (nI fi) (nI fo) (nI en) off cu ma) H := hP
      have hD : va_D A (wM h0 a0 a1 a2 a3 a4 a5 cI cZ th bf pw hs lo lg rt nb (nI fi) (nI fo) (nI en) off cu ma) := hD
      refine lv_if_eq (tgt := 25) hx hb dX1_stateOf_18 (by decide) (fun c_18 => ?_) (fun c_18 => absurd (by decide) c_18)
      refine lv_iconst (v := (0)) hx hb dX1_stateOf_25 (by decide) ?_
      exact e_I hx hb hr hlocks hP hD hS (by simp [sp_ps, c_6, he]) dX1_stateOf_26
    · refine k_I (wr := []) hP hD hS hA (va_runV (As := [.int (nI k)]) (rest := []) ⟨hx, hb, hml, hown, hts⟩ ((tX1_isTorn_t th bf pw hs lo lg rt nb fi fo en off cu ma k h he) _) (cwV 1 hts gX1_stateOf_X1_isTorn rfl rfl rfl (by decide +kernel) ⟨Nat.le_of_ble_eq_true rfl, Nat.le_of_ble_eq_true rfl⟩) (pV_B hP hD hK (ci := 1) (q0 := 0) rfl rfl rfl [0, 1] rfl [0, 1, 2, 3, 4, 5, 6] rfl rfl) rfl rfl hl.1 rfl (lv_room (Nat.le_of_ble_eq_true rfl)) dX1_stateOf_15 ⟨Nat.le_of_ble_eq_true rfl, Nat.le_of_ble_eq_true rfl⟩) [0, 1, 2, 3, 4, 5, 6] [] rfl rfl rfl (by decide) (fun H locs hP hD hS => ?_)
      have hP : va_P D vwCl (wM h0 a0 a1 a2 a3 a4 a5 cI cZ th bf pw hs lo lg rt nb (nI fi) (nI fo) (nI en) off cu ma) H := hP
      have hD : va_D A (wM h0 a0 a1 a2 a3 a4 a5 cI cZ th bf pw hs lo lg rt nb (nI fi) (nI fo) (nI en) off cu ma) := hD
      refine lv_if_eq (tgt := 25) hx hb dX1_stateOf_18 (by decide) (fun c_18 => absurd c_18 (by decide)) (fun c_18 => ?_)
      refine lv_iconst (v := (1)) hx hb dX1_stateOf_21 (by decide) ?_
      refine lv_goto (tgt := 26) hx hb dX1_stateOf_22 (by decide) ?_
      exact e_I hx hb hr hlocks hP hD hS (by simp [sp_ps, c_6, he]) dX1_stateOf_26
  · refine lv_iconst (v := (2)) hx hb dX1_stateOf_9 (by decide) ?_
    refine lv_goto (tgt := 26) hx hb dX1_stateOf_10 (by decide) ?_
    exact e_I hx hb hr hlocks hP hD hS (by simp [sp_ps, c_6]) dX1_stateOf_26
set_option maxHeartbeats 4000000 in
set_option maxRecDepth 100000 in
theorem tX1_fail {l : Launch} {D : va_G} {cI cZ : ClassId} {h0 a0 a1 a2 a3 a4 a5 : Nat} (th : Int32) (bf pw hs lo lg rt : Nat → Int32) (nb : Int32) (fi fo en : Nat) (off cu ma : Int32) : RV l yX1_fail wsX1_fail 1 0 0 D (tyC cI cZ) (wM h0 a0 a1 a2 a3 a4 a5 cI cZ th bf pw hs lo lg rt nb (nI fi) (nI fo) (nI en) off cu ma) [.ref h0] (wM h0 a0 a1 a2 a3 a4 a5 cI cZ th (zf bf) pw hs lo lg rt nb (nI fi) (nI fo) (nI fo) 1 cu ma) := by
  refine st_V (cc := cX1_fail) (maxL := 2) (ret := none) (by decide +kernel) rfl (Nat.le_of_ble_eq_true rfl) ?_
  intro p e s m below meth c A hx hb hr hts hown hml hlocks hK hP hD hA hS ls hl
  have hown : s.vm.findClass RX1 = some m.cls := hown
  have hl : lv_has ls 2 [(0, .ref h0)] := hl
  refine lv_aload_n hx hb dX1_fail_0 rfl (lv_at hl 0 rfl) ?_
  refine lv_iconst (v := (1)) hx hb dX1_fail_1 (by decide) ?_
  refine va_put (ci := 1) (v := .int 1) (ty := .boolean) (C := RX1) (T := TX1) (N := 14) hx hb hts inX1_fail tyX1 tyX1_ok nmX1 hown hK hP hD hS 0 rfl rfl 12 (by decide) (hts _ flX1_fail_45) (fun _ h9 => h9) rfl (by decide +kernel) rfl rfl (Nat.le_of_ble_eq_true rfl) dX1_fail_2 (fun H locs hP hD hS => ?_)
  have hP : va_P D vwCl (wM h0 a0 a1 a2 a3 a4 a5 cI cZ th bf pw hs lo lg rt nb (nI fi) (nI fo) (nI en) 1 cu ma) H := hP
  have hD : va_D A (wM h0 a0 a1 a2 a3 a4 a5 cI cZ th bf pw hs lo lg rt nb (nI fi) (nI fo) (nI en) 1 cu ma) := hD
  refine lv_aload_n hx hb dX1_fail_5 rfl (lv_at hl 0 rfl) ?_
  refine lv_aload_n hx hb dX1_fail_6 rfl (lv_at hl 0 rfl) ?_
  refine va_get (ci := 1) (v := .int (nI fo)) (C := RX1) (T := TX1) (N := 14) hx hb hts inX1_fail hown hK hP 0 rfl rfl 8 (by decide) (hts _ flX1_fail_49) (fun _ h9 => h9) rfl dX1_fail_7 ?_
  refine va_put (ci := 1) (v := .int (nI fo)) (ty := .int) (C := RX1) (T := TX1) (N := 14) hx hb hts inX1_fail tyX1 tyX1_ok nmX1 hown hK hP hD hS 0 rfl rfl 9 (by decide) (hts _ flX1_fail_52) (fun _ h9 => h9) rfl (by decide +kernel) rfl rfl (Nat.le_of_ble_eq_true rfl) dX1_fail_10 (fun H locs hP hD hS => ?_)
  have hP : va_P D vwCl (wM h0 a0 a1 a2 a3 a4 a5 cI cZ th bf pw hs lo lg rt nb (nI fi) (nI fo) (nI fo) 1 cu ma) H := hP
  have hD : va_D A (wM h0 a0 a1 a2 a3 a4 a5 cI cZ th bf pw hs lo lg rt nb (nI fi) (nI fo) (nI fo) 1 cu ma) := hD
  refine lv_iconst (v := (nI 0)) hx hb dX1_fail_13 (by decide) ?_
  refine lv_istore_n (lv' := [(1, .int (nI 0)), (0, .ref h0)]) hx hb dX1_fail_14 rfl hl (by decide) rfl (fun ls hl => ?_)
  have lp_15 : ∀ (n9 i : Nat), i + n9 = 64 → ∀ (H : Heap) (locs : List Loc) (ls : Array Slot), va_P D vwCl (wM h0 a0 a1 a2 a3 a4 a5 cI cZ th (fl (fun _ => 0) i bf) pw hs lo lg rt nb (nI fi) (nI fo) (nI fo) 1 cu ma) H → va_D A (wM h0 a0 a1 a2 a3 a4 a5 cI cZ th (fl (fun _ => 0) i bf) pw hs lo lg rt nb (nI fi) (nI fo) (nI fo) 1 cu ma) → va_S A s.heap H locs → lv_has ls 2 [(0, .ref h0), (1, .int (nI i))] → W p l e (rmL 1 0 0) s m ([.ref h0] : List Value).toArray below meth c H locs 0 0 (MQ below (qcV D A (wM h0 a0 a1 a2 a3 a4 a5 cI cZ th (zf bf) pw hs lo lg rt nb (nI fi) (nI fo) (nI fo) 1 cu ma)) ([.ref h0] : List Value).toArray s 0 0 A) (F0 m 15 ls []) := by
    intro n9
    induction n9 with
    | zero =>
      intro i hi H locs ls hP hD hS hl
      obtain rfl : i = 64 := by omega
      refine lv_iload_n hx hb dX1_fail_15 rfl (lv_at hl 1 rfl) ?_
      refine lv_bipush (v := (nI 64)) hx hb dX1_fail_16 (by decide) ?_
      refine n_ge (tgt := 34) hx hb (by omega) (by omega) dX1_fail_18 (by decide) (fun c_18 => ?_) (fun c_18 => absurd c_18 (by omega))
      exact e_V hx hb hr hlocks hP hD hS dX1_fail_34
    | succ n9 ih =>
      intro i hi H locs ls hP hD hS hl
      refine lv_iload_n hx hb dX1_fail_15 rfl (lv_at hl 1 rfl) ?_
      refine lv_bipush (v := (nI 64)) hx hb dX1_fail_16 (by decide) ?_
      refine n_ge (tgt := 34) hx hb (by omega) (by omega) dX1_fail_18 (by decide) (fun c_18 => absurd c_18 (by omega)) (fun c_18 => ?_)
      refine lv_aload_n hx hb dX1_fail_21 rfl (lv_at hl 0 rfl) ?_
      refine va_get (ci := 1) (v := .ref a0) (C := RX1) (T := TX1) (N := 14) hx hb hts inX1_fail hown hK hP 0 rfl rfl 6 (by decide) (hts _ flX1_fail_28) (fun _ h9 => h9) rfl dX1_fail_22 ?_
      refine lv_iload_n hx hb dX1_fail_25 rfl (lv_at hl 1 rfl) ?_
      refine lv_iconst (v := (0)) hx hb dX1_fail_26 (by decide) ?_
      refine n_iast hx hb hK hP hD hS 1 0 rfl rfl i (by omega) (by omega) dX1_fail_27 (fun H locs hP hD hS => ?_)
      have hP : va_P D vwCl (wM h0 a0 a1 a2 a3 a4 a5 cI cZ th (upd (fl (fun _ => 0) i bf) i 0) pw hs lo lg rt nb (nI fi) (nI fo) (nI fo) 1 cu ma) H := hP
      have hD : va_D A (wM h0 a0 a1 a2 a3 a4 a5 cI cZ th (upd (fl (fun _ => 0) i bf) i 0) pw hs lo lg rt nb (nI fi) (nI fo) (nI fo) 1 cu ma) := hD
      refine n_iinc (lv' := [(1, .int (nI (i + 1))), (0, .ref h0)]) hx hb dX1_fail_28 hl (k := 1) rfl (by decide) rfl (fun ls hl => ?_)
      refine lv_goto (tgt := 15) hx hb dX1_fail_31 (by decide) ?_
      have hP : va_P D vwCl (wM h0 a0 a1 a2 a3 a4 a5 cI cZ th (fl (fun _ => 0) (i + 1) bf) pw hs lo lg rt nb (nI fi) (nI fo) (nI fo) 1 cu ma) H := by rw [← fl_s]; exact hP
      have hD : va_D A (wM h0 a0 a1 a2 a3 a4 a5 cI cZ th (fl (fun _ => 0) (i + 1) bf) pw hs lo lg rt nb (nI fi) (nI fo) (nI fo) 1 cu ma) := by rw [← fl_s]; exact hD
      exact ih (i + 1) (by omega) _ _ _ hP hD hS (lv_sub hl [1, 0] rfl)
  have hP : va_P D vwCl (wM h0 a0 a1 a2 a3 a4 a5 cI cZ th (fl (fun _ => 0) 0 bf) pw hs lo lg rt nb (nI fi) (nI fo) (nI fo) 1 cu ma) H := by rw [fl_0]; exact hP
  have hD : va_D A (wM h0 a0 a1 a2 a3 a4 a5 cI cZ th (fl (fun _ => 0) 0 bf) pw hs lo lg rt nb (nI fi) (nI fo) (nI fo) 1 cu ma) := by rw [fl_0]; exact hD
  exact lp_15 64 0 (by omega) _ _ _ hP hD hS (lv_sub hl [1, 0] rfl)
set_option maxHeartbeats 4000000 in
set_option maxRecDepth 100000 in
theorem tX1_canWrite_cut {l : Launch} {D : va_G} {cI cZ : ClassId} {h0 a0 a1 a2 a3 a4 a5 : Nat} (th : Int32) (bf pw hs lo lg rt : Nat → Int32) (nb : Int32) (fi fo en : Nat) (off cu ma : Int32) (h : cu = 0) : RI l yX1_canWrite wsX1_canWrite 2 0 0 D (tyC cI cZ) (wM h0 a0 a1 a2 a3 a4 a5 cI cZ th bf pw hs lo lg rt nb (nI fi) (nI fo) (nI en) off cu ma) [.ref h0] 0 (wM h0 a0 a1 a2 a3 a4 a5 cI cZ th (zf bf) pw hs lo lg rt nb (nI fi) (nI fo) (nI fo) 1 cu ma) := by
  refine st_I (cc := cX1_canWrite) (maxL := 1) (ret := (some .boolean)) (by decide +kernel) rfl (Nat.le_of_ble_eq_true rfl) ?_
  intro p e s m below meth c A hx hb hr hts hown hml hlocks hK hP hD hA hS ls hl
  have hown : s.vm.findClass RX1 = some m.cls := hown
  have hl : lv_has ls 1 [(0, .ref h0)] := hl
  refine lv_aload_n hx hb dX1_canWrite_0 rfl (lv_at hl 0 rfl) ?_
  refine va_get (ci := 1) (v := .int cu) (C := RX1) (T := TX1) (N := 14) hx hb hts inX1_canWrite hown hK hP 0 rfl rfl 13 (by decide) (hts _ flX1_canWrite_31) (fun _ h9 => h9) rfl dX1_canWrite_1 ?_
  refine lv_if_ne (tgt := 13) hx hb dX1_canWrite_4 (by decide) (fun c_4 => absurd (h) c_4) (fun c_4 => ?_)
  refine lv_aload_n hx hb dX1_canWrite_7 rfl (lv_at hl 0 rfl) ?_
  refine k_V (wr := []) hP hD hS hA (va_runV (As := []) (rest := []) ⟨hx, hb, hml, hown, hts⟩ ((tX1_fail th bf pw hs lo lg rt nb fi fo en off cu ma) _) (cwV 0 hts gX1_canWrite_X1_fail rfl rfl rfl (by decide +kernel) ⟨Nat.le_of_ble_eq_true rfl, Nat.le_of_ble_eq_true rfl⟩) (pV_B hP hD hK (ci := 1) (q0 := 0) rfl rfl rfl [0, 1] rfl [0, 1, 2, 3, 4, 5, 6] rfl rfl) rfl rfl hl.1 rfl (lv_room (Nat.le_of_ble_eq_true rfl)) dX1_canWrite_8 ⟨Nat.le_of_ble_eq_true rfl, Nat.le_of_ble_eq_true rfl⟩) [0, 1, 2, 3, 4, 5, 6] [] rfl rfl rfl (by decide) (fun H locs hP hD hS => ?_)
  have hP : va_P D vwCl (wM h0 a0 a1 a2 a3 a4 a5 cI cZ th (zf bf) pw hs lo lg rt nb (nI fi) (nI fo) (nI fo) 1 cu ma) H := hP
  have hD : va_D A (wM h0 a0 a1 a2 a3 a4 a5 cI cZ th (zf bf) pw hs lo lg rt nb (nI fi) (nI fo) (nI fo) 1 cu ma) := hD
  refine lv_iconst (v := (0)) hx hb dX1_canWrite_11 (by decide) ?_
  exact e_Z hx hb hr hlocks hP hD hS rfl rfl dX1_canWrite_12
set_option maxHeartbeats 4000000 in
set_option maxRecDepth 100000 in
theorem tX1_canWrite_ok {l : Launch} {D : va_G} {cI cZ : ClassId} {h0 a0 a1 a2 a3 a4 a5 : Nat} (th : Int32) (bf pw hs lo lg rt : Nat → Int32) (nb : Int32) (fi fo en : Nat) (off cu ma : Int32) (h : ¬ cu = 0) (hn : -1 ≤ cu) : RI l yX1_canWrite wsX1_canWrite 2 0 0 D (tyC cI cZ) (wM h0 a0 a1 a2 a3 a4 a5 cI cZ th bf pw hs lo lg rt nb (nI fi) (nI fo) (nI en) off cu ma) [.ref h0] 1 (wM h0 a0 a1 a2 a3 a4 a5 cI cZ th bf pw hs lo lg rt nb (nI fi) (nI fo) (nI en) off (dcu cu) (ma + 1)) := by
  refine st_I (cc := cX1_canWrite) (maxL := 1) (ret := (some .boolean)) (by decide +kernel) rfl (Nat.le_of_ble_eq_true rfl) ?_
  intro p e s m below meth c A hx hb hr hts hown hml hlocks hK hP hD hA hS ls hl
  have hown : s.vm.findClass RX1 = some m.cls := hown
  have hl : lv_has ls 1 [(0, .ref h0)] := hl
  refine lv_aload_n hx hb dX1_canWrite_0 rfl (lv_at hl 0 rfl) ?_
  refine va_get (ci := 1) (v := .int cu) (C := RX1) (T := TX1) (N := 14) hx hb hts inX1_canWrite hown hK hP 0 rfl rfl 13 (by decide) (hts _ flX1_canWrite_31) (fun _ h9 => h9) rfl dX1_canWrite_1 ?_
  refine lv_if_ne (tgt := 13) hx hb dX1_canWrite_4 (by decide) (fun c_4 => ?_) (fun c_4 => absurd c_4 (h))
  refine lv_aload_n hx hb dX1_canWrite_13 rfl (lv_at hl 0 rfl) ?_
  refine lv_aload_n hx hb dX1_canWrite_14 rfl (lv_at hl 0 rfl) ?_
  refine va_get (ci := 1) (v := .int cu) (C := RX1) (T := TX1) (N := 14) hx hb hts inX1_canWrite hown hK hP 0 rfl rfl 13 (by decide) (hts _ flX1_canWrite_31) (fun _ h9 => h9) rfl dX1_canWrite_15 ?_
  refine lv_if_le (tgt := 30) hx hb dX1_canWrite_18 (by decide) (fun c_18 => ?_) (fun c_18 => ?_)
  · refine lv_aload_n hx hb dX1_canWrite_30 rfl (lv_at hl 0 rfl) ?_
    refine va_get (ci := 1) (v := .int cu) (C := RX1) (T := TX1) (N := 14) hx hb hts inX1_canWrite hown hK hP 0 rfl rfl 13 (by decide) (hts _ flX1_canWrite_31) (fun _ h9 => h9) rfl dX1_canWrite_31 ?_
    refine va_put (ci := 1) (v := .int cu) (ty := .int) (C := RX1) (T := TX1) (N := 14) hx hb hts inX1_canWrite tyX1 tyX1_ok nmX1 hown hK hP hD hS 0 rfl rfl 13 (by decide) (hts _ flX1_canWrite_31) (fun _ h9 => h9) rfl (by decide +kernel) rfl rfl (Nat.le_of_ble_eq_true rfl) dX1_canWrite_34 (fun H locs hP hD hS => ?_)
    have hP : va_P D vwCl (wM h0 a0 a1 a2 a3 a4 a5 cI cZ th bf pw hs lo lg rt nb (nI fi) (nI fo) (nI en) off cu ma) H := hP
    have hD : va_D A (wM h0 a0 a1 a2 a3 a4 a5 cI cZ th bf pw hs lo lg rt nb (nI fi) (nI fo) (nI en) off cu ma) := hD
    have hP : va_P D vwCl (wM h0 a0 a1 a2 a3 a4 a5 cI cZ th bf pw hs lo lg rt nb (nI fi) (nI fo) (nI en) off (dcu cu) ma) H := by rw [dcu_le h hn c_18]; exact hP
    have hD : va_D A (wM h0 a0 a1 a2 a3 a4 a5 cI cZ th bf pw hs lo lg rt nb (nI fi) (nI fo) (nI en) off (dcu cu) ma) := by rw [dcu_le h hn c_18]; exact hD
    refine lv_aload_n hx hb dX1_canWrite_37 rfl (lv_at hl 0 rfl) ?_
    refine lv_dup hx hb dX1_canWrite_38 rfl ?_
    refine va_get (ci := 1) (v := .int ma) (C := RX1) (T := TX1) (N := 14) hx hb hts inX1_canWrite hown hK hP 0 rfl rfl 11 (by decide) (hts _ flX1_canWrite_58) (fun _ h9 => h9) rfl dX1_canWrite_39 ?_
    refine lv_iconst (v := (1)) hx hb dX1_canWrite_42 (by decide) ?_
    refine lv_iadd hx hb dX1_canWrite_43 ?_
    refine va_put (ci := 1) (v := .int (ma + 1)) (ty := .int) (C := RX1) (T := TX1) (N := 14) hx hb hts inX1_canWrite tyX1 tyX1_ok nmX1 hown hK hP hD hS 0 rfl rfl 11 (by decide) (hts _ flX1_canWrite_58) (fun _ h9 => h9) rfl (by decide +kernel) rfl rfl (Nat.le_of_ble_eq_true rfl) dX1_canWrite_44 (fun H locs hP hD hS => ?_)
    have hP : va_P D vwCl (wM h0 a0 a1 a2 a3 a4 a5 cI cZ th bf pw hs lo lg rt nb (nI fi) (nI fo) (nI en) off (dcu cu) (ma + 1)) H := hP
    have hD : va_D A (wM h0 a0 a1 a2 a3 a4 a5 cI cZ th bf pw hs lo lg rt nb (nI fi) (nI fo) (nI en) off (dcu cu) (ma + 1)) := hD
    refine lv_iconst (v := (1)) hx hb dX1_canWrite_47 (by decide) ?_
    exact e_Z hx hb hr hlocks hP hD hS rfl rfl dX1_canWrite_48
  · refine lv_aload_n hx hb dX1_canWrite_21 rfl (lv_at hl 0 rfl) ?_
    refine va_get (ci := 1) (v := .int cu) (C := RX1) (T := TX1) (N := 14) hx hb hts inX1_canWrite hown hK hP 0 rfl rfl 13 (by decide) (hts _ flX1_canWrite_31) (fun _ h9 => h9) rfl dX1_canWrite_22 ?_
    refine lv_iconst (v := (1)) hx hb dX1_canWrite_25 (by decide) ?_
    refine lv_isub hx hb dX1_canWrite_26 ?_
    refine lv_goto (tgt := 34) hx hb dX1_canWrite_27 (by decide) ?_
    refine va_put (ci := 1) (v := .int (cu - 1)) (ty := .int) (C := RX1) (T := TX1) (N := 14) hx hb hts inX1_canWrite tyX1 tyX1_ok nmX1 hown hK hP hD hS 0 rfl rfl 13 (by decide) (hts _ flX1_canWrite_31) (fun _ h9 => h9) rfl (by decide +kernel) rfl rfl (Nat.le_of_ble_eq_true rfl) dX1_canWrite_34 (fun H locs hP hD hS => ?_)
    have hP : va_P D vwCl (wM h0 a0 a1 a2 a3 a4 a5 cI cZ th bf pw hs lo lg rt nb (nI fi) (nI fo) (nI en) off (cu - 1) ma) H := hP
    have hD : va_D A (wM h0 a0 a1 a2 a3 a4 a5 cI cZ th bf pw hs lo lg rt nb (nI fi) (nI fo) (nI en) off (cu - 1) ma) := hD
    have hP : va_P D vwCl (wM h0 a0 a1 a2 a3 a4 a5 cI cZ th bf pw hs lo lg rt nb (nI fi) (nI fo) (nI en) off (dcu cu) ma) H := by rw [dcu_gt c_18]; exact hP
    have hD : va_D A (wM h0 a0 a1 a2 a3 a4 a5 cI cZ th bf pw hs lo lg rt nb (nI fi) (nI fo) (nI en) off (dcu cu) ma) := by rw [dcu_gt c_18]; exact hD
    refine lv_aload_n hx hb dX1_canWrite_37 rfl (lv_at hl 0 rfl) ?_
    refine lv_dup hx hb dX1_canWrite_38 rfl ?_
    refine va_get (ci := 1) (v := .int ma) (C := RX1) (T := TX1) (N := 14) hx hb hts inX1_canWrite hown hK hP 0 rfl rfl 11 (by decide) (hts _ flX1_canWrite_58) (fun _ h9 => h9) rfl dX1_canWrite_39 ?_
    refine lv_iconst (v := (1)) hx hb dX1_canWrite_42 (by decide) ?_
    refine lv_iadd hx hb dX1_canWrite_43 ?_
    refine va_put (ci := 1) (v := .int (ma + 1)) (ty := .int) (C := RX1) (T := TX1) (N := 14) hx hb hts inX1_canWrite tyX1 tyX1_ok nmX1 hown hK hP hD hS 0 rfl rfl 11 (by decide) (hts _ flX1_canWrite_58) (fun _ h9 => h9) rfl (by decide +kernel) rfl rfl (Nat.le_of_ble_eq_true rfl) dX1_canWrite_44 (fun H locs hP hD hS => ?_)
    have hP : va_P D vwCl (wM h0 a0 a1 a2 a3 a4 a5 cI cZ th bf pw hs lo lg rt nb (nI fi) (nI fo) (nI en) off (dcu cu) (ma + 1)) H := hP
    have hD : va_D A (wM h0 a0 a1 a2 a3 a4 a5 cI cZ th bf pw hs lo lg rt nb (nI fi) (nI fo) (nI en) off (dcu cu) (ma + 1)) := hD
    refine lv_iconst (v := (1)) hx hb dX1_canWrite_47 (by decide) ?_
    exact e_Z hx hb hr hlocks hP hD hS rfl rfl dX1_canWrite_48
set_option maxHeartbeats 4000000 in
set_option maxRecDepth 100000 in
theorem tX1_writePage_b0 {l : Launch} {D : va_G} {cI cZ : ClassId} {h0 a0 a1 a2 a3 a4 a5 : Nat} (th : Int32) (bf pw hs lo lg rt : Nat → Int32) (nb : Int32) (fi fo en : Nat) (off cu ma : Int32) (k : Nat) (hk : k < 512) (h : cu = 0) : RI l yX1_writePage wsX1_writePage 3 0 0 D (tyC cI cZ) (wM h0 a0 a1 a2 a3 a4 a5 cI cZ th bf pw hs lo lg rt nb (nI fi) (nI fo) (nI en) off cu ma) [.ref h0, .int (nI k), .int (nI 0), .int 1] (-1) (wM h0 a0 a1 a2 a3 a4 a5 cI cZ th (zf bf) pw hs lo lg rt (nb + 1) (nI fi) (nI fo) (nI fo) 1 cu ma) := by
  refine st_I (cc := cX1_writePage) (maxL := 7) (ret := (some .int)) (by decide +kernel) rfl (Nat.le_of_ble_eq_true rfl) ?_
  intro p e s m below meth c A hx hb hr hts hown hml hlocks hK hP hD hA hS ls hl
  have hown : s.vm.findClass RX1 = some m.cls := hown
  have hl : lv_has ls 7 [(0, .ref h0), (1, .int (nI k)), (2, .int (nI 0)), (3, .int 1)] := hl
  refine lv_aload_n hx hb dX1_writePage_0 rfl (lv_at hl 0 rfl) ?_
  refine lv_dup hx hb dX1_writePage_1 rfl ?_
  refine va_get (ci := 1) (v := .int nb) (C := RX1) (T := TX1) (N := 14) hx hb hts inX1_writePage hown hK hP 0 rfl rfl 10 (by decide) (hts _ flX1_writePage_69) (fun _ h9 => h9) rfl dX1_writePage_2 ?_
  refine lv_iconst (v := (1)) hx hb dX1_writePage_5 (by decide) ?_
  refine lv_iadd hx hb dX1_writePage_6 ?_
  refine va_put (ci := 1) (v := .int (nb + 1)) (ty := .int) (C := RX1) (T := TX1) (N := 14) hx hb hts inX1_writePage tyX1 tyX1_ok nmX1 hown hK hP hD hS 0 rfl rfl 10 (by decide) (hts _ flX1_writePage_69) (fun _ h9 => h9) rfl (by decide +kernel) rfl rfl (Nat.le_of_ble_eq_true rfl) dX1_writePage_7 (fun H locs hP hD hS => ?_)
  have hP : va_P D vwCl (wM h0 a0 a1 a2 a3 a4 a5 cI cZ th bf pw hs lo lg rt (nb + 1) (nI fi) (nI fo) (nI en) off cu ma) H := hP
  have hD : va_D A (wM h0 a0 a1 a2 a3 a4 a5 cI cZ th bf pw hs lo lg rt (nb + 1) (nI fi) (nI fo) (nI en) off cu ma) := hD
  refine lv_aload_n hx hb dX1_writePage_10 rfl (lv_at hl 0 rfl) ?_
  refine va_get (ci := 1) (v := .int (nb + 1)) (C := RX1) (T := TX1) (N := 14) hx hb hts inX1_writePage hown hK hP 0 rfl rfl 10 (by decide) (hts _ flX1_writePage_69) (fun _ h9 => h9) rfl dX1_writePage_11 ?_
  refine lv_istore (lv' := [(4, .int (nb + 1)), (0, .ref h0), (1, .int (nI k)), (2, .int (nI 0)), (3, .int 1)]) hx hb dX1_writePage_14 hl (by decide) rfl (fun ls hl => ?_)
  refine lv_iconst (v := (nI 0)) hx hb dX1_writePage_16 (by decide) ?_
  refine lv_istore (lv' := [(5, .int (nI 0)), (4, .int (nb + 1)), (0, .ref h0), (1, .int (nI k)), (2, .int (nI 0)), (3, .int 1)]) hx hb dX1_writePage_17 hl (by decide) rfl (fun ls hl => ?_)
  refine lv_iload hx hb dX1_writePage_19 (lv_at hl 0 rfl) ?_
  refine lv_iconst (v := (nI 2)) hx hb dX1_writePage_21 (by decide) ?_
  refine n_ge (tgt := 114) hx hb (by omega) (by omega) dX1_writePage_22 (by decide) (fun c_22 => absurd c_22 (by omega)) (fun c_22 => ?_)
  refine lv_aload_n hx hb dX1_writePage_25 rfl (lv_at hl 2 rfl) ?_
  refine k_I (wr := []) hP hD hS hA (va_runV (As := []) (rest := []) ⟨hx, hb, hml, hown, hts⟩ ((tX1_canWrite_cut th bf pw hs lo lg rt (nb + 1) fi fo en off cu ma h) _) (cwV 0 hts gX1_writePage_X1_canWrite rfl rfl rfl (by decide +kernel) ⟨Nat.le_of_ble_eq_true rfl, Nat.le_of_ble_eq_true rfl⟩) (pV_B hP hD hK (ci := 1) (q0 := 0) rfl rfl rfl [0, 1] rfl [0, 1, 2, 3, 4, 5, 6] rfl rfl) rfl rfl hl.1 rfl (lv_room (Nat.le_of_ble_eq_true rfl)) dX1_writePage_26 ⟨Nat.le_of_ble_eq_true rfl, Nat.le_of_ble_eq_true rfl⟩) [0, 1, 2, 3, 4, 5, 6] [] rfl rfl rfl (by decide) (fun H locs hP hD hS => ?_)
  have hP : va_P D vwCl (wM h0 a0 a1 a2 a3 a4 a5 cI cZ th (zf bf) pw hs lo lg rt (nb + 1) (nI fi) (nI fo) (nI fo) 1 cu ma) H := hP
  have hD : va_D A (wM h0 a0 a1 a2 a3 a4 a5 cI cZ th (zf bf) pw hs lo lg rt (nb + 1) (nI fi) (nI fo) (nI fo) 1 cu ma) := hD
  refine lv_if_ne (tgt := 34) hx hb dX1_writePage_29 (by decide) (fun c_29 => absurd (by decide) c_29) (fun c_29 => ?_)
  refine lv_iconst (v := (-1)) hx hb dX1_writePage_32 (by decide) ?_
  exact e_I hx hb hr hlocks hP hD hS rfl dX1_writePage_33
set_option maxHeartbeats 4000000 in
set_option maxRecDepth 100000 in
theorem tX1_writePage_b1 {l : Launch} {D : va_G} {cI cZ : ClassId} {h0 a0 a1 a2 a3 a4 a5 : Nat} (th : Int32) (bf pw hs lo lg rt : Nat → Int32) (nb : Int32) (fi fo en : Nat) (off cu ma : Int32) (k : Nat) (hk : k < 512) (hn : -1 ≤ cu) (h : ¬ cu = 0) (h1 : dcu cu = 0) : RI l yX1_writePage wsX1_writePage 3 0 0 D (tyC cI cZ) (wM h0 a0 a1 a2 a3 a4 a5 cI cZ th bf pw hs lo lg rt nb (nI fi) (nI fo) (nI en) off cu ma) [.ref h0, .int (nI k), .int (nI 0), .int 1] (-1) (wM h0 a0 a1 a2 a3 a4 a5 cI cZ th (zf bf) (va_cpy bf pw 0 (k * 64) 32) (upd hs (k * 2) (nb + 1)) lo lg rt (nb + 1) (nI fi) (nI fo) (nI fo) 1 (dcu cu) (ma + 1)) := by
  refine st_I (cc := cX1_writePage) (maxL := 7) (ret := (some .int)) (by decide +kernel) rfl (Nat.le_of_ble_eq_true rfl) ?_
  intro p e s m below meth c A hx hb hr hts hown hml hlocks hK hP hD hA hS ls hl
  have hown : s.vm.findClass RX1 = some m.cls := hown
  have hl : lv_has ls 7 [(0, .ref h0), (1, .int (nI k)), (2, .int (nI 0)), (3, .int 1)] := hl
  refine lv_aload_n hx hb dX1_writePage_0 rfl (lv_at hl 0 rfl) ?_
  refine lv_dup hx hb dX1_writePage_1 rfl ?_
  refine va_get (ci := 1) (v := .int nb) (C := RX1) (T := TX1) (N := 14) hx hb hts inX1_writePage hown hK hP 0 rfl rfl 10 (by decide) (hts _ flX1_writePage_69) (fun _ h9 => h9) rfl dX1_writePage_2 ?_
  refine lv_iconst (v := (1)) hx hb dX1_writePage_5 (by decide) ?_
  refine lv_iadd hx hb dX1_writePage_6 ?_
  refine va_put (ci := 1) (v := .int (nb + 1)) (ty := .int) (C := RX1) (T := TX1) (N := 14) hx hb hts inX1_writePage tyX1 tyX1_ok nmX1 hown hK hP hD hS 0 rfl rfl 10 (by decide) (hts _ flX1_writePage_69) (fun _ h9 => h9) rfl (by decide +kernel) rfl rfl (Nat.le_of_ble_eq_true rfl) dX1_writePage_7 (fun H locs hP hD hS => ?_)
  have hP : va_P D vwCl (wM h0 a0 a1 a2 a3 a4 a5 cI cZ th bf pw hs lo lg rt (nb + 1) (nI fi) (nI fo) (nI en) off cu ma) H := hP
  have hD : va_D A (wM h0 a0 a1 a2 a3 a4 a5 cI cZ th bf pw hs lo lg rt (nb + 1) (nI fi) (nI fo) (nI en) off cu ma) := hD
  refine lv_aload_n hx hb dX1_writePage_10 rfl (lv_at hl 0 rfl) ?_
  refine va_get (ci := 1) (v := .int (nb + 1)) (C := RX1) (T := TX1) (N := 14) hx hb hts inX1_writePage hown hK hP 0 rfl rfl 10 (by decide) (hts _ flX1_writePage_69) (fun _ h9 => h9) rfl dX1_writePage_11 ?_
  refine lv_istore (lv' := [(4, .int (nb + 1)), (0, .ref h0), (1, .int (nI k)), (2, .int (nI 0)), (3, .int 1)]) hx hb dX1_writePage_14 hl (by decide) rfl (fun ls hl => ?_)
  refine lv_iconst (v := (nI 0)) hx hb dX1_writePage_16 (by decide) ?_
  refine lv_istore (lv' := [(5, .int (nI 0)), (4, .int (nb + 1)), (0, .ref h0), (1, .int (nI k)), (2, .int (nI 0)), (3, .int 1)]) hx hb dX1_writePage_17 hl (by decide) rfl (fun ls hl => ?_)
  refine lv_iload hx hb dX1_writePage_19 (lv_at hl 0 rfl) ?_
  refine lv_iconst (v := (nI 2)) hx hb dX1_writePage_21 (by decide) ?_
  refine n_ge (tgt := 114) hx hb (by omega) (by omega) dX1_writePage_22 (by decide) (fun c_22 => absurd c_22 (by omega)) (fun c_22 => ?_)
  refine lv_aload_n hx hb dX1_writePage_25 rfl (lv_at hl 2 rfl) ?_
  refine k_I (wr := []) hP hD hS hA (va_runV (As := []) (rest := []) ⟨hx, hb, hml, hown, hts⟩ ((tX1_canWrite_ok th bf pw hs lo lg rt (nb + 1) fi fo en off cu ma h hn) _) (cwV 0 hts gX1_writePage_X1_canWrite rfl rfl rfl (by decide +kernel) ⟨Nat.le_of_ble_eq_true rfl, Nat.le_of_ble_eq_true rfl⟩) (pV_B hP hD hK (ci := 1) (q0 := 0) rfl rfl rfl [0, 1] rfl [0, 1, 2, 3, 4, 5, 6] rfl rfl) rfl rfl hl.1 rfl (lv_room (Nat.le_of_ble_eq_true rfl)) dX1_writePage_26 ⟨Nat.le_of_ble_eq_true rfl, Nat.le_of_ble_eq_true rfl⟩) [0, 1, 2, 3, 4, 5, 6] [] rfl rfl rfl (by decide) (fun H locs hP hD hS => ?_)
  have hP : va_P D vwCl (wM h0 a0 a1 a2 a3 a4 a5 cI cZ th bf pw hs lo lg rt (nb + 1) (nI fi) (nI fo) (nI en) off (dcu cu) (ma + 1)) H := hP
  have hD : va_D A (wM h0 a0 a1 a2 a3 a4 a5 cI cZ th bf pw hs lo lg rt (nb + 1) (nI fi) (nI fo) (nI en) off (dcu cu) (ma + 1)) := hD
  refine lv_if_ne (tgt := 34) hx hb dX1_writePage_29 (by decide) (fun c_29 => ?_) (fun c_29 => absurd c_29 (by decide))
  refine lv_bipush (v := (nI 32)) hx hb dX1_writePage_34 (by decide) ?_
  refine lv_iload hx hb dX1_writePage_36 (lv_at hl 0 rfl) ?_
  refine n_imul hx hb dX1_writePage_38 ?_
  refine lv_istore (lv' := [(6, .int (nI 0)), (5, .int (nI 0)), (4, .int (nb + 1)), (0, .ref h0), (1, .int (nI k)), (2, .int (nI 0)), (3, .int 1)]) hx hb dX1_writePage_39 hl (by decide) rfl (fun ls hl => ?_)
  have lp_41 : ∀ (n9 i : Nat), i + n9 = 32 → ∀ (H : Heap) (locs : List Loc) (ls : Array Slot), va_P D vwCl (wM h0 a0 a1 a2 a3 a4 a5 cI cZ th bf (va_cpy bf pw 0 (k * 64) i) hs lo lg rt (nb + 1) (nI fi) (nI fo) (nI en) off (dcu cu) (ma + 1)) H → va_D A (wM h0 a0 a1 a2 a3 a4 a5 cI cZ th bf (va_cpy bf pw 0 (k * 64) i) hs lo lg rt (nb + 1) (nI fi) (nI fo) (nI en) off (dcu cu) (ma + 1)) → va_S A s.heap H locs → lv_has ls 7 [(0, .ref h0), (1, .int (nI k)), (2, .int (nI 0)), (3, .int 1), (4, .int (nb + 1)), (5, .int (nI 0)), (6, .int (nI i))] → W p l e (rmL 3 0 0) s m ([.ref h0, .int (nI k), .int (nI 0), .int 1] : List Value).toArray below meth c H locs 0 0 (MQ below (qcI D A (-1) (wM h0 a0 a1 a2 a3 a4 a5 cI cZ th (zf bf) (va_cpy bf pw 0 (k * 64) 32) (upd hs (k * 2) (nb + 1)) lo lg rt (nb + 1) (nI fi) (nI fo) (nI fo) 1 (dcu cu) (ma + 1))) ([.ref h0, .int (nI k), .int (nI 0), .int 1] : List Value).toArray s 0 0 A) (F0 m 41 ls []) := by
    intro n9
    induction n9 with
    | zero =>
      intro i hi H locs ls hP hD hS hl
      obtain rfl : i = 32 := by omega
      refine lv_iload hx hb dX1_writePage_41 (lv_at hl 6 rfl) ?_
      refine lv_bipush (v := (nI 32)) hx hb dX1_writePage_43 (by decide) ?_
      refine lv_iload hx hb dX1_writePage_45 (lv_at hl 5 rfl) ?_
      refine n_imul hx hb dX1_writePage_47 ?_
      refine lv_bipush (v := (nI 32)) hx hb dX1_writePage_48 (by decide) ?_
      refine n_iadd hx hb dX1_writePage_50 ?_
      refine n_ge (tgt := 95) hx hb (by omega) (by omega) dX1_writePage_51 (by decide) (fun c_51 => ?_) (fun c_51 => absurd c_51 (by omega))
      refine lv_aload_n hx hb dX1_writePage_95 rfl (lv_at hl 0 rfl) ?_
      refine va_get (ci := 1) (v := .ref a2) (C := RX1) (T := TX1) (N := 14) hx hb hts inX1_writePage hown hK hP 0 rfl rfl 2 (by decide) (hts _ flX1_writePage_14) (fun _ h9 => h9) rfl dX1_writePage_96 ?_
      refine lv_iconst (v := (nI 2)) hx hb dX1_writePage_99 (by decide) ?_
      refine lv_iload_n hx hb dX1_writePage_100 rfl (lv_at hl 1 rfl) ?_
      refine n_imulc hx hb dX1_writePage_101 ?_
      refine lv_iload hx hb dX1_writePage_102 (lv_at hl 5 rfl) ?_
      refine n_iadd hx hb dX1_writePage_104 ?_
      refine lv_iload hx hb dX1_writePage_105 (lv_at hl 4 rfl) ?_
      refine n_iast hx hb hK hP hD hS 3 0 rfl rfl (k * 2) (by omega) (by omega) dX1_writePage_107 (fun H locs hP hD hS => ?_)
      have hP : va_P D vwCl (wM h0 a0 a1 a2 a3 a4 a5 cI cZ th bf (va_cpy bf pw 0 (k * 64) 32) (upd hs (k * 2) (nb + 1)) lo lg rt (nb + 1) (nI fi) (nI fo) (nI en) off (dcu cu) (ma + 1)) H := hP
      have hD : va_D A (wM h0 a0 a1 a2 a3 a4 a5 cI cZ th bf (va_cpy bf pw 0 (k * 64) 32) (upd hs (k * 2) (nb + 1)) lo lg rt (nb + 1) (nI fi) (nI fo) (nI en) off (dcu cu) (ma + 1)) := hD
      refine n_iinc (lv' := [(5, .int (nI 1)), (0, .ref h0), (1, .int (nI k)), (2, .int (nI 0)), (3, .int 1), (4, .int (nb + 1)), (6, .int (nI 32))]) hx hb dX1_writePage_108 hl (k := 5) rfl (by decide) rfl (fun ls hl => ?_)
      refine lv_goto (tgt := 19) hx hb dX1_writePage_111 (by decide) ?_
      refine lv_iload hx hb dX1_writePage_19 (lv_at hl 0 rfl) ?_
      refine lv_iconst (v := (nI 2)) hx hb dX1_writePage_21 (by decide) ?_
      refine n_ge (tgt := 114) hx hb (by omega) (by omega) dX1_writePage_22 (by decide) (fun c_22 => absurd c_22 (by omega)) (fun c_22 => ?_)
      refine lv_aload_n hx hb dX1_writePage_25 rfl (lv_at hl 1 rfl) ?_
      refine k_I (wr := []) hP hD hS hA (va_runV (As := []) (rest := []) ⟨hx, hb, hml, hown, hts⟩ ((tX1_canWrite_cut th bf (va_cpy bf pw 0 (k * 64) 32) (upd hs (k * 2) (nb + 1)) lo lg rt (nb + 1) fi fo en off (dcu cu) (ma + 1) h1) _) (cwV 0 hts gX1_writePage_X1_canWrite rfl rfl rfl (by decide +kernel) ⟨Nat.le_of_ble_eq_true rfl, Nat.le_of_ble_eq_true rfl⟩) (pV_B hP hD hK (ci := 1) (q0 := 0) rfl rfl rfl [0, 1] rfl [0, 1, 2, 3, 4, 5, 6] rfl rfl) rfl rfl hl.1 rfl (lv_room (Nat.le_of_ble_eq_true rfl)) dX1_writePage_26 ⟨Nat.le_of_ble_eq_true rfl, Nat.le_of_ble_eq_true rfl⟩) [0, 1, 2, 3, 4, 5, 6] [] rfl rfl rfl (by decide) (fun H locs hP hD hS => ?_)
      have hP : va_P D vwCl (wM h0 a0 a1 a2 a3 a4 a5 cI cZ th (zf bf) (va_cpy bf pw 0 (k * 64) 32) (upd hs (k * 2) (nb + 1)) lo lg rt (nb + 1) (nI fi) (nI fo) (nI fo) 1 (dcu cu) (ma + 1)) H := hP
      have hD : va_D A (wM h0 a0 a1 a2 a3 a4 a5 cI cZ th (zf bf) (va_cpy bf pw 0 (k * 64) 32) (upd hs (k * 2) (nb + 1)) lo lg rt (nb + 1) (nI fi) (nI fo) (nI fo) 1 (dcu cu) (ma + 1)) := hD
      refine lv_if_ne (tgt := 34) hx hb dX1_writePage_29 (by decide) (fun c_29 => absurd (by decide) c_29) (fun c_29 => ?_)
      refine lv_iconst (v := (-1)) hx hb dX1_writePage_32 (by decide) ?_
      exact e_I hx hb hr hlocks hP hD hS rfl dX1_writePage_33
    | succ n9 ih =>
      intro i hi H locs ls hP hD hS hl
      refine lv_iload hx hb dX1_writePage_41 (lv_at hl 6 rfl) ?_
      refine lv_bipush (v := (nI 32)) hx hb dX1_writePage_43 (by decide) ?_
      refine lv_iload hx hb dX1_writePage_45 (lv_at hl 5 rfl) ?_
      refine n_imul hx hb dX1_writePage_47 ?_
      refine lv_bipush (v := (nI 32)) hx hb dX1_writePage_48 (by decide) ?_
      refine n_iadd hx hb dX1_writePage_50 ?_
      refine n_ge (tgt := 95) hx hb (by omega) (by omega) dX1_writePage_51 (by decide) (fun c_51 => absurd c_51 (by omega)) (fun c_51 => ?_)
      refine lv_aload_n hx hb dX1_writePage_54 rfl (lv_at hl 0 rfl) ?_
      refine va_get (ci := 1) (v := .ref a1) (C := RX1) (T := TX1) (N := 14) hx hb hts inX1_writePage hown hK hP 0 rfl rfl 1 (by decide) (hts _ flX1_writePage_8) (fun _ h9 => h9) rfl dX1_writePage_55 ?_
      refine lv_bipush (v := (nI 64)) hx hb dX1_writePage_58 (by decide) ?_
      refine lv_iload_n hx hb dX1_writePage_60 rfl (lv_at hl 1 rfl) ?_
      refine n_imulc hx hb dX1_writePage_61 ?_
      refine lv_iload hx hb dX1_writePage_62 (lv_at hl 6 rfl) ?_
      refine n_iadd hx hb dX1_writePage_64 ?_
      refine lv_iload_n hx hb dX1_writePage_65 rfl (lv_at hl 3 rfl) ?_
      refine lv_if_eq (tgt := 79) hx hb dX1_writePage_66 (by decide) (fun c_66 => absurd c_66 (by decide)) (fun c_66 => ?_)
      refine lv_aload_n hx hb dX1_writePage_69 rfl (lv_at hl 0 rfl) ?_
      refine va_get (ci := 1) (v := .ref a0) (C := RX1) (T := TX1) (N := 14) hx hb hts inX1_writePage hown hK hP 0 rfl rfl 6 (by decide) (hts _ flX1_writePage_28) (fun _ h9 => h9) rfl dX1_writePage_70 ?_
      refine lv_iload hx hb dX1_writePage_73 (lv_at hl 6 rfl) ?_
      refine n_iald hx hb hK hP 1 0 rfl rfl i (by omega) (by omega) dX1_writePage_75 ?_
      refine lv_goto (tgt := 88) hx hb dX1_writePage_76 (by decide) ?_
      refine n_iast hx hb hK hP hD hS 2 0 rfl rfl ((k * 64) + i) (by omega) (by omega) dX1_writePage_88 (fun H locs hP hD hS => ?_)
      have hP : va_P D vwCl (wM h0 a0 a1 a2 a3 a4 a5 cI cZ th bf (upd (va_cpy bf pw 0 (k * 64) i) ((k * 64) + i) (bf i)) hs lo lg rt (nb + 1) (nI fi) (nI fo) (nI en) off (dcu cu) (ma + 1)) H := hP
      have hD : va_D A (wM h0 a0 a1 a2 a3 a4 a5 cI cZ th bf (upd (va_cpy bf pw 0 (k * 64) i) ((k * 64) + i) (bf i)) hs lo lg rt (nb + 1) (nI fi) (nI fo) (nI en) off (dcu cu) (ma + 1)) := hD
      refine n_iinc (lv' := [(6, .int (nI (i + 1))), (0, .ref h0), (1, .int (nI k)), (2, .int (nI 0)), (3, .int 1), (4, .int (nb + 1)), (5, .int (nI 0))]) hx hb dX1_writePage_89 hl (k := 6) rfl (by decide) rfl (fun ls hl => ?_)
      refine lv_goto (tgt := 41) hx hb dX1_writePage_92 (by decide) ?_
      have e9 : upd (va_cpy bf pw 0 (k * 64) i) ((k * 64) + i) (bf i) = va_cpy bf pw 0 (k * 64) (i + 1) := cpy_t (by omega) (by rw [show (0 : Nat) + i = i from by omega])
      have hP : va_P D vwCl (wM h0 a0 a1 a2 a3 a4 a5 cI cZ th bf (va_cpy bf pw 0 (k * 64) (i + 1)) hs lo lg rt (nb + 1) (nI fi) (nI fo) (nI en) off (dcu cu) (ma + 1)) H := by rw [← e9]; exact hP
      have hD : va_D A (wM h0 a0 a1 a2 a3 a4 a5 cI cZ th bf (va_cpy bf pw 0 (k * 64) (i + 1)) hs lo lg rt (nb + 1) (nI fi) (nI fo) (nI en) off (dcu cu) (ma + 1)) := by rw [← e9]; exact hD
      exact ih (i + 1) (by omega) _ _ _ hP hD hS (lv_sub hl [1, 2, 3, 4, 5, 6, 0] rfl)
  have hP : va_P D vwCl (wM h0 a0 a1 a2 a3 a4 a5 cI cZ th bf (va_cpy bf pw 0 (k * 64) 0) hs lo lg rt (nb + 1) (nI fi) (nI fo) (nI en) off (dcu cu) (ma + 1)) H := by rw [cpy_0]; exact hP
  have hD : va_D A (wM h0 a0 a1 a2 a3 a4 a5 cI cZ th bf (va_cpy bf pw 0 (k * 64) 0) hs lo lg rt (nb + 1) (nI fi) (nI fo) (nI en) off (dcu cu) (ma + 1)) := by rw [cpy_0]; exact hD
  exact lp_41 32 0 (by omega) _ _ _ hP hD hS (lv_sub hl [3, 4, 5, 6, 2, 1, 0] rfl)
set_option maxHeartbeats 4000000 in
set_option maxRecDepth 100000 in
theorem tX1_writePage_b2 {l : Launch} {D : va_G} {cI cZ : ClassId} {h0 a0 a1 a2 a3 a4 a5 : Nat} (th : Int32) (bf pw hs lo lg rt : Nat → Int32) (nb : Int32) (fi fo en : Nat) (off cu ma : Int32) (k : Nat) (hk : k < 512) (hn : -1 ≤ cu) (h : ¬ cu = 0) (h1 : ¬ dcu cu = 0) : RI l yX1_writePage wsX1_writePage 3 0 0 D (tyC cI cZ) (wM h0 a0 a1 a2 a3 a4 a5 cI cZ th bf pw hs lo lg rt nb (nI fi) (nI fo) (nI en) off cu ma) [.ref h0, .int (nI k), .int (nI 0), .int 1] (nb + 1) (wM h0 a0 a1 a2 a3 a4 a5 cI cZ th bf (va_cpy bf (va_cpy bf pw 0 (k * 64) 32) 32 (k * 64 + 32) 32) (upd (upd hs (k * 2) (nb + 1)) (k * 2 + 1) (nb + 1)) (upd lo k 0) lg rt (nb + 1) (nI fi) (nI fo) (nI en) off (dcu (dcu cu)) (ma + 1 + 1)) := by
  refine st_I (cc := cX1_writePage) (maxL := 7) (ret := (some .int)) (by decide +kernel) rfl (Nat.le_of_ble_eq_true rfl) ?_
  intro p e s m below meth c A hx hb hr hts hown hml hlocks hK hP hD hA hS ls hl
  have hown : s.vm.findClass RX1 = some m.cls := hown
  have hl : lv_has ls 7 [(0, .ref h0), (1, .int (nI k)), (2, .int (nI 0)), (3, .int 1)] := hl
  refine lv_aload_n hx hb dX1_writePage_0 rfl (lv_at hl 0 rfl) ?_
  refine lv_dup hx hb dX1_writePage_1 rfl ?_
  refine va_get (ci := 1) (v := .int nb) (C := RX1) (T := TX1) (N := 14) hx hb hts inX1_writePage hown hK hP 0 rfl rfl 10 (by decide) (hts _ flX1_writePage_69) (fun _ h9 => h9) rfl dX1_writePage_2 ?_
  refine lv_iconst (v := (1)) hx hb dX1_writePage_5 (by decide) ?_
  refine lv_iadd hx hb dX1_writePage_6 ?_
  refine va_put (ci := 1) (v := .int (nb + 1)) (ty := .int) (C := RX1) (T := TX1) (N := 14) hx hb hts inX1_writePage tyX1 tyX1_ok nmX1 hown hK hP hD hS 0 rfl rfl 10 (by decide) (hts _ flX1_writePage_69) (fun _ h9 => h9) rfl (by decide +kernel) rfl rfl (Nat.le_of_ble_eq_true rfl) dX1_writePage_7 (fun H locs hP hD hS => ?_)
  have hP : va_P D vwCl (wM h0 a0 a1 a2 a3 a4 a5 cI cZ th bf pw hs lo lg rt (nb + 1) (nI fi) (nI fo) (nI en) off cu ma) H := hP
  have hD : va_D A (wM h0 a0 a1 a2 a3 a4 a5 cI cZ th bf pw hs lo lg rt (nb + 1) (nI fi) (nI fo) (nI en) off cu ma) := hD
  refine lv_aload_n hx hb dX1_writePage_10 rfl (lv_at hl 0 rfl) ?_
  refine va_get (ci := 1) (v := .int (nb + 1)) (C := RX1) (T := TX1) (N := 14) hx hb hts inX1_writePage hown hK hP 0 rfl rfl 10 (by decide) (hts _ flX1_writePage_69) (fun _ h9 => h9) rfl dX1_writePage_11 ?_
  refine lv_istore (lv' := [(4, .int (nb + 1)), (0, .ref h0), (1, .int (nI k)), (2, .int (nI 0)), (3, .int 1)]) hx hb dX1_writePage_14 hl (by decide) rfl (fun ls hl => ?_)
  refine lv_iconst (v := (nI 0)) hx hb dX1_writePage_16 (by decide) ?_
  refine lv_istore (lv' := [(5, .int (nI 0)), (4, .int (nb + 1)), (0, .ref h0), (1, .int (nI k)), (2, .int (nI 0)), (3, .int 1)]) hx hb dX1_writePage_17 hl (by decide) rfl (fun ls hl => ?_)
  refine lv_iload hx hb dX1_writePage_19 (lv_at hl 0 rfl) ?_
  refine lv_iconst (v := (nI 2)) hx hb dX1_writePage_21 (by decide) ?_
  refine n_ge (tgt := 114) hx hb (by omega) (by omega) dX1_writePage_22 (by decide) (fun c_22 => absurd c_22 (by omega)) (fun c_22 => ?_)
  refine lv_aload_n hx hb dX1_writePage_25 rfl (lv_at hl 2 rfl) ?_
  refine k_I (wr := []) hP hD hS hA (va_runV (As := []) (rest := []) ⟨hx, hb, hml, hown, hts⟩ ((tX1_canWrite_ok th bf pw hs lo lg rt (nb + 1) fi fo en off cu ma h hn) _) (cwV 0 hts gX1_writePage_X1_canWrite rfl rfl rfl (by decide +kernel) ⟨Nat.le_of_ble_eq_true rfl, Nat.le_of_ble_eq_true rfl⟩) (pV_B hP hD hK (ci := 1) (q0 := 0) rfl rfl rfl [0, 1] rfl [0, 1, 2, 3, 4, 5, 6] rfl rfl) rfl rfl hl.1 rfl (lv_room (Nat.le_of_ble_eq_true rfl)) dX1_writePage_26 ⟨Nat.le_of_ble_eq_true rfl, Nat.le_of_ble_eq_true rfl⟩) [0, 1, 2, 3, 4, 5, 6] [] rfl rfl rfl (by decide) (fun H locs hP hD hS => ?_)
  have hP : va_P D vwCl (wM h0 a0 a1 a2 a3 a4 a5 cI cZ th bf pw hs lo lg rt (nb + 1) (nI fi) (nI fo) (nI en) off (dcu cu) (ma + 1)) H := hP
  have hD : va_D A (wM h0 a0 a1 a2 a3 a4 a5 cI cZ th bf pw hs lo lg rt (nb + 1) (nI fi) (nI fo) (nI en) off (dcu cu) (ma + 1)) := hD
  refine lv_if_ne (tgt := 34) hx hb dX1_writePage_29 (by decide) (fun c_29 => ?_) (fun c_29 => absurd c_29 (by decide))
  refine lv_bipush (v := (nI 32)) hx hb dX1_writePage_34 (by decide) ?_
  refine lv_iload hx hb dX1_writePage_36 (lv_at hl 0 rfl) ?_
  refine n_imul hx hb dX1_writePage_38 ?_
  refine lv_istore (lv' := [(6, .int (nI 0)), (5, .int (nI 0)), (4, .int (nb + 1)), (0, .ref h0), (1, .int (nI k)), (2, .int (nI 0)), (3, .int 1)]) hx hb dX1_writePage_39 hl (by decide) rfl (fun ls hl => ?_)
  have lp_41 : ∀ (n9 i : Nat), i + n9 = 32 → ∀ (H : Heap) (locs : List Loc) (ls : Array Slot), va_P D vwCl (wM h0 a0 a1 a2 a3 a4 a5 cI cZ th bf (va_cpy bf pw 0 (k * 64) i) hs lo lg rt (nb + 1) (nI fi) (nI fo) (nI en) off (dcu cu) (ma + 1)) H → va_D A (wM h0 a0 a1 a2 a3 a4 a5 cI cZ th bf (va_cpy bf pw 0 (k * 64) i) hs lo lg rt (nb + 1) (nI fi) (nI fo) (nI en) off (dcu cu) (ma + 1)) → va_S A s.heap H locs → lv_has ls 7 [(0, .ref h0), (1, .int (nI k)), (2, .int (nI 0)), (3, .int 1), (4, .int (nb + 1)), (5, .int (nI 0)), (6, .int (nI i))] → W p l e (rmL 3 0 0) s m ([.ref h0, .int (nI k), .int (nI 0), .int 1] : List Value).toArray below meth c H locs 0 0 (MQ below (qcI D A (nb + 1) (wM h0 a0 a1 a2 a3 a4 a5 cI cZ th bf (va_cpy bf (va_cpy bf pw 0 (k * 64) 32) 32 (k * 64 + 32) 32) (upd (upd hs (k * 2) (nb + 1)) (k * 2 + 1) (nb + 1)) (upd lo k 0) lg rt (nb + 1) (nI fi) (nI fo) (nI en) off (dcu (dcu cu)) (ma + 1 + 1))) ([.ref h0, .int (nI k), .int (nI 0), .int 1] : List Value).toArray s 0 0 A) (F0 m 41 ls []) := by
    intro n9
    induction n9 with
    | zero =>
      intro i hi H locs ls hP hD hS hl
      obtain rfl : i = 32 := by omega
      refine lv_iload hx hb dX1_writePage_41 (lv_at hl 6 rfl) ?_
      refine lv_bipush (v := (nI 32)) hx hb dX1_writePage_43 (by decide) ?_
      refine lv_iload hx hb dX1_writePage_45 (lv_at hl 5 rfl) ?_
      refine n_imul hx hb dX1_writePage_47 ?_
      refine lv_bipush (v := (nI 32)) hx hb dX1_writePage_48 (by decide) ?_
      refine n_iadd hx hb dX1_writePage_50 ?_
      refine n_ge (tgt := 95) hx hb (by omega) (by omega) dX1_writePage_51 (by decide) (fun c_51 => ?_) (fun c_51 => absurd c_51 (by omega))
      refine lv_aload_n hx hb dX1_writePage_95 rfl (lv_at hl 0 rfl) ?_
      refine va_get (ci := 1) (v := .ref a2) (C := RX1) (T := TX1) (N := 14) hx hb hts inX1_writePage hown hK hP 0 rfl rfl 2 (by decide) (hts _ flX1_writePage_14) (fun _ h9 => h9) rfl dX1_writePage_96 ?_
      refine lv_iconst (v := (nI 2)) hx hb dX1_writePage_99 (by decide) ?_
      refine lv_iload_n hx hb dX1_writePage_100 rfl (lv_at hl 1 rfl) ?_
      refine n_imulc hx hb dX1_writePage_101 ?_
      refine lv_iload hx hb dX1_writePage_102 (lv_at hl 5 rfl) ?_
      refine n_iadd hx hb dX1_writePage_104 ?_
      refine lv_iload hx hb dX1_writePage_105 (lv_at hl 4 rfl) ?_
      refine n_iast hx hb hK hP hD hS 3 0 rfl rfl (k * 2) (by omega) (by omega) dX1_writePage_107 (fun H locs hP hD hS => ?_)
      have hP : va_P D vwCl (wM h0 a0 a1 a2 a3 a4 a5 cI cZ th bf (va_cpy bf pw 0 (k * 64) 32) (upd hs (k * 2) (nb + 1)) lo lg rt (nb + 1) (nI fi) (nI fo) (nI en) off (dcu cu) (ma + 1)) H := hP
      have hD : va_D A (wM h0 a0 a1 a2 a3 a4 a5 cI cZ th bf (va_cpy bf pw 0 (k * 64) 32) (upd hs (k * 2) (nb + 1)) lo lg rt (nb + 1) (nI fi) (nI fo) (nI en) off (dcu cu) (ma + 1)) := hD
      refine n_iinc (lv' := [(5, .int (nI 1)), (0, .ref h0), (1, .int (nI k)), (2, .int (nI 0)), (3, .int 1), (4, .int (nb + 1)), (6, .int (nI 32))]) hx hb dX1_writePage_108 hl (k := 5) rfl (by decide) rfl (fun ls hl => ?_)
      refine lv_goto (tgt := 19) hx hb dX1_writePage_111 (by decide) ?_
      refine lv_iload hx hb dX1_writePage_19 (lv_at hl 0 rfl) ?_
      refine lv_iconst (v := (nI 2)) hx hb dX1_writePage_21 (by decide) ?_
      refine n_ge (tgt := 114) hx hb (by omega) (by omega) dX1_writePage_22 (by decide) (fun c_22 => absurd c_22 (by omega)) (fun c_22 => ?_)
      refine lv_aload_n hx hb dX1_writePage_25 rfl (lv_at hl 1 rfl) ?_
      refine k_I (wr := []) hP hD hS hA (va_runV (As := []) (rest := []) ⟨hx, hb, hml, hown, hts⟩ ((tX1_canWrite_ok th bf (va_cpy bf pw 0 (k * 64) 32) (upd hs (k * 2) (nb + 1)) lo lg rt (nb + 1) fi fo en off (dcu cu) (ma + 1) h1 (dcu_ge h hn)) _) (cwV 0 hts gX1_writePage_X1_canWrite rfl rfl rfl (by decide +kernel) ⟨Nat.le_of_ble_eq_true rfl, Nat.le_of_ble_eq_true rfl⟩) (pV_B hP hD hK (ci := 1) (q0 := 0) rfl rfl rfl [0, 1] rfl [0, 1, 2, 3, 4, 5, 6] rfl rfl) rfl rfl hl.1 rfl (lv_room (Nat.le_of_ble_eq_true rfl)) dX1_writePage_26 ⟨Nat.le_of_ble_eq_true rfl, Nat.le_of_ble_eq_true rfl⟩) [0, 1, 2, 3, 4, 5, 6] [] rfl rfl rfl (by decide) (fun H locs hP hD hS => ?_)
      have hP : va_P D vwCl (wM h0 a0 a1 a2 a3 a4 a5 cI cZ th bf (va_cpy bf pw 0 (k * 64) 32) (upd hs (k * 2) (nb + 1)) lo lg rt (nb + 1) (nI fi) (nI fo) (nI en) off (dcu (dcu cu)) (ma + 1 + 1)) H := hP
      have hD : va_D A (wM h0 a0 a1 a2 a3 a4 a5 cI cZ th bf (va_cpy bf pw 0 (k * 64) 32) (upd hs (k * 2) (nb + 1)) lo lg rt (nb + 1) (nI fi) (nI fo) (nI en) off (dcu (dcu cu)) (ma + 1 + 1)) := hD
      refine lv_if_ne (tgt := 34) hx hb dX1_writePage_29 (by decide) (fun c_29 => ?_) (fun c_29 => absurd c_29 (by decide))
      refine lv_bipush (v := (nI 32)) hx hb dX1_writePage_34 (by decide) ?_
      refine lv_iload hx hb dX1_writePage_36 (lv_at hl 0 rfl) ?_
      refine n_imul hx hb dX1_writePage_38 ?_
      refine lv_istore (lv' := [(6, .int (nI 32)), (5, .int (nI 1)), (0, .ref h0), (1, .int (nI k)), (2, .int (nI 0)), (3, .int 1), (4, .int (nb + 1))]) hx hb dX1_writePage_39 hl (by decide) rfl (fun ls hl => ?_)
      have lp_41 : ∀ (n9 i : Nat), i + n9 = 32 → ∀ (H : Heap) (locs : List Loc) (ls : Array Slot), va_P D vwCl (wM h0 a0 a1 a2 a3 a4 a5 cI cZ th bf (va_cpy bf (va_cpy bf pw 0 (k * 64) 32) 32 (k * 64 + 32) i) (upd hs (k * 2) (nb + 1)) lo lg rt (nb + 1) (nI fi) (nI fo) (nI en) off (dcu (dcu cu)) (ma + 1 + 1)) H → va_D A (wM h0 a0 a1 a2 a3 a4 a5 cI cZ th bf (va_cpy bf (va_cpy bf pw 0 (k * 64) 32) 32 (k * 64 + 32) i) (upd hs (k * 2) (nb + 1)) lo lg rt (nb + 1) (nI fi) (nI fo) (nI en) off (dcu (dcu cu)) (ma + 1 + 1)) → va_S A s.heap H locs → lv_has ls 7 [(0, .ref h0), (1, .int (nI k)), (2, .int (nI 0)), (3, .int 1), (4, .int (nb + 1)), (5, .int (nI 1)), (6, .int (nI (32 + i)))] → W p l e (rmL 3 0 0) s m ([.ref h0, .int (nI k), .int (nI 0), .int 1] : List Value).toArray below meth c H locs 0 0 (MQ below (qcI D A (nb + 1) (wM h0 a0 a1 a2 a3 a4 a5 cI cZ th bf (va_cpy bf (va_cpy bf pw 0 (k * 64) 32) 32 (k * 64 + 32) 32) (upd (upd hs (k * 2) (nb + 1)) (k * 2 + 1) (nb + 1)) (upd lo k 0) lg rt (nb + 1) (nI fi) (nI fo) (nI en) off (dcu (dcu cu)) (ma + 1 + 1))) ([.ref h0, .int (nI k), .int (nI 0), .int 1] : List Value).toArray s 0 0 A) (F0 m 41 ls []) := by
        intro n9
        induction n9 with
        | zero =>
          intro i hi H locs ls hP hD hS hl
          obtain rfl : i = 32 := by omega
          refine lv_iload hx hb dX1_writePage_41 (lv_at hl 6 rfl) ?_
          refine lv_bipush (v := (nI 32)) hx hb dX1_writePage_43 (by decide) ?_
          refine lv_iload hx hb dX1_writePage_45 (lv_at hl 5 rfl) ?_
          refine n_imul hx hb dX1_writePage_47 ?_
          refine lv_bipush (v := (nI 32)) hx hb dX1_writePage_48 (by decide) ?_
          refine n_iadd hx hb dX1_writePage_50 ?_
          refine n_ge (tgt := 95) hx hb (by omega) (by omega) dX1_writePage_51 (by decide) (fun c_51 => ?_) (fun c_51 => absurd c_51 (by omega))
          refine lv_aload_n hx hb dX1_writePage_95 rfl (lv_at hl 0 rfl) ?_
          refine va_get (ci := 1) (v := .ref a2) (C := RX1) (T := TX1) (N := 14) hx hb hts inX1_writePage hown hK hP 0 rfl rfl 2 (by decide) (hts _ flX1_writePage_14) (fun _ h9 => h9) rfl dX1_writePage_96 ?_
          refine lv_iconst (v := (nI 2)) hx hb dX1_writePage_99 (by decide) ?_
          refine lv_iload_n hx hb dX1_writePage_100 rfl (lv_at hl 1 rfl) ?_
          refine n_imulc hx hb dX1_writePage_101 ?_
          refine lv_iload hx hb dX1_writePage_102 (lv_at hl 5 rfl) ?_
          refine n_iadd hx hb dX1_writePage_104 ?_
          refine lv_iload hx hb dX1_writePage_105 (lv_at hl 4 rfl) ?_
          refine n_iast hx hb hK hP hD hS 3 0 rfl rfl ((k * 2) + 1) (by omega) (by omega) dX1_writePage_107 (fun H locs hP hD hS => ?_)
          have hP : va_P D vwCl (wM h0 a0 a1 a2 a3 a4 a5 cI cZ th bf (va_cpy bf (va_cpy bf pw 0 (k * 64) 32) 32 (k * 64 + 32) 32) (upd (upd hs (k * 2) (nb + 1)) ((k * 2) + 1) (nb + 1)) lo lg rt (nb + 1) (nI fi) (nI fo) (nI en) off (dcu (dcu cu)) (ma + 1 + 1)) H := hP
          have hD : va_D A (wM h0 a0 a1 a2 a3 a4 a5 cI cZ th bf (va_cpy bf (va_cpy bf pw 0 (k * 64) 32) 32 (k * 64 + 32) 32) (upd (upd hs (k * 2) (nb + 1)) ((k * 2) + 1) (nb + 1)) lo lg rt (nb + 1) (nI fi) (nI fo) (nI en) off (dcu (dcu cu)) (ma + 1 + 1)) := hD
          refine n_iinc (lv' := [(5, .int (nI 2)), (0, .ref h0), (1, .int (nI k)), (2, .int (nI 0)), (3, .int 1), (4, .int (nb + 1)), (6, .int (nI 64))]) hx hb dX1_writePage_108 hl (k := 5) rfl (by decide) rfl (fun ls hl => ?_)
          refine lv_goto (tgt := 19) hx hb dX1_writePage_111 (by decide) ?_
          refine lv_iload hx hb dX1_writePage_19 (lv_at hl 0 rfl) ?_
          refine lv_iconst (v := (nI 2)) hx hb dX1_writePage_21 (by decide) ?_
          refine n_ge (tgt := 114) hx hb (by omega) (by omega) dX1_writePage_22 (by decide) (fun c_22 => ?_) (fun c_22 => absurd c_22 (by omega))
          refine lv_aload_n hx hb dX1_writePage_114 rfl (lv_at hl 1 rfl) ?_
          refine va_get (ci := 1) (v := .ref a3) (C := RX1) (T := TX1) (N := 14) hx hb hts inX1_writePage hown hK hP 0 rfl rfl 3 (by decide) (hts _ flX1_writePage_17) (fun _ h9 => h9) rfl dX1_writePage_115 ?_
          refine lv_iload_n hx hb dX1_writePage_118 rfl (lv_at hl 2 rfl) ?_
          refine lv_iconst (v := (0)) hx hb dX1_writePage_119 (by decide) ?_
          refine n_zast hx hb hK hP hD hS 4 1 rfl rfl k (by omega) (by omega) (by decide) dX1_writePage_120 (fun H locs hP hD hS => ?_)
          have hP : va_P D vwCl (wM h0 a0 a1 a2 a3 a4 a5 cI cZ th bf (va_cpy bf (va_cpy bf pw 0 (k * 64) 32) 32 (k * 64 + 32) 32) (upd (upd hs (k * 2) (nb + 1)) ((k * 2) + 1) (nb + 1)) (upd lo k 0) lg rt (nb + 1) (nI fi) (nI fo) (nI en) off (dcu (dcu cu)) (ma + 1 + 1)) H := hP
          have hD : va_D A (wM h0 a0 a1 a2 a3 a4 a5 cI cZ th bf (va_cpy bf (va_cpy bf pw 0 (k * 64) 32) 32 (k * 64 + 32) 32) (upd (upd hs (k * 2) (nb + 1)) ((k * 2) + 1) (nb + 1)) (upd lo k 0) lg rt (nb + 1) (nI fi) (nI fo) (nI en) off (dcu (dcu cu)) (ma + 1 + 1)) := hD
          refine lv_iload hx hb dX1_writePage_121 (lv_at hl 5 rfl) ?_
          exact e_I hx hb hr hlocks hP hD hS rfl dX1_writePage_123
        | succ n9 ih =>
          intro i hi H locs ls hP hD hS hl
          refine lv_iload hx hb dX1_writePage_41 (lv_at hl 6 rfl) ?_
          refine lv_bipush (v := (nI 32)) hx hb dX1_writePage_43 (by decide) ?_
          refine lv_iload hx hb dX1_writePage_45 (lv_at hl 5 rfl) ?_
          refine n_imul hx hb dX1_writePage_47 ?_
          refine lv_bipush (v := (nI 32)) hx hb dX1_writePage_48 (by decide) ?_
          refine n_iadd hx hb dX1_writePage_50 ?_
          refine n_ge (tgt := 95) hx hb (by omega) (by omega) dX1_writePage_51 (by decide) (fun c_51 => absurd c_51 (by omega)) (fun c_51 => ?_)
          refine lv_aload_n hx hb dX1_writePage_54 rfl (lv_at hl 0 rfl) ?_
          refine va_get (ci := 1) (v := .ref a1) (C := RX1) (T := TX1) (N := 14) hx hb hts inX1_writePage hown hK hP 0 rfl rfl 1 (by decide) (hts _ flX1_writePage_8) (fun _ h9 => h9) rfl dX1_writePage_55 ?_
          refine lv_bipush (v := (nI 64)) hx hb dX1_writePage_58 (by decide) ?_
          refine lv_iload_n hx hb dX1_writePage_60 rfl (lv_at hl 1 rfl) ?_
          refine n_imulc hx hb dX1_writePage_61 ?_
          refine lv_iload hx hb dX1_writePage_62 (lv_at hl 6 rfl) ?_
          refine n_iadd hx hb dX1_writePage_64 ?_
          refine lv_iload_n hx hb dX1_writePage_65 rfl (lv_at hl 3 rfl) ?_
          refine lv_if_eq (tgt := 79) hx hb dX1_writePage_66 (by decide) (fun c_66 => absurd c_66 (by decide)) (fun c_66 => ?_)
          refine lv_aload_n hx hb dX1_writePage_69 rfl (lv_at hl 0 rfl) ?_
          refine va_get (ci := 1) (v := .ref a0) (C := RX1) (T := TX1) (N := 14) hx hb hts inX1_writePage hown hK hP 0 rfl rfl 6 (by decide) (hts _ flX1_writePage_28) (fun _ h9 => h9) rfl dX1_writePage_70 ?_
          refine lv_iload hx hb dX1_writePage_73 (lv_at hl 6 rfl) ?_
          refine n_iald hx hb hK hP 1 0 rfl rfl (32 + i) (by omega) (by omega) dX1_writePage_75 ?_
          refine lv_goto (tgt := 88) hx hb dX1_writePage_76 (by decide) ?_
          refine n_iast hx hb hK hP hD hS 2 0 rfl rfl ((k * 64) + (32 + i)) (by omega) (by omega) dX1_writePage_88 (fun H locs hP hD hS => ?_)
          have hP : va_P D vwCl (wM h0 a0 a1 a2 a3 a4 a5 cI cZ th bf (upd (va_cpy bf (va_cpy bf pw 0 (k * 64) 32) 32 (k * 64 + 32) i) ((k * 64) + (32 + i)) (bf (32 + i))) (upd hs (k * 2) (nb + 1)) lo lg rt (nb + 1) (nI fi) (nI fo) (nI en) off (dcu (dcu cu)) (ma + 1 + 1)) H := hP
          have hD : va_D A (wM h0 a0 a1 a2 a3 a4 a5 cI cZ th bf (upd (va_cpy bf (va_cpy bf pw 0 (k * 64) 32) 32 (k * 64 + 32) i) ((k * 64) + (32 + i)) (bf (32 + i))) (upd hs (k * 2) (nb + 1)) lo lg rt (nb + 1) (nI fi) (nI fo) (nI en) off (dcu (dcu cu)) (ma + 1 + 1)) := hD
          refine n_iinc (lv' := [(6, .int (nI ((32 + i) + 1))), (0, .ref h0), (1, .int (nI k)), (2, .int (nI 0)), (3, .int 1), (4, .int (nb + 1)), (5, .int (nI 1))]) hx hb dX1_writePage_89 hl (k := 6) rfl (by decide) rfl (fun ls hl => ?_)
          refine lv_goto (tgt := 41) hx hb dX1_writePage_92 (by decide) ?_
          have e9 : upd (va_cpy bf (va_cpy bf pw 0 (k * 64) 32) 32 (k * 64 + 32) i) ((k * 64) + (32 + i)) (bf (32 + i)) = va_cpy bf (va_cpy bf pw 0 (k * 64) 32) 32 (k * 64 + 32) (i + 1) := cpy_t (by omega) (rfl)
          have hP : va_P D vwCl (wM h0 a0 a1 a2 a3 a4 a5 cI cZ th bf (va_cpy bf (va_cpy bf pw 0 (k * 64) 32) 32 (k * 64 + 32) (i + 1)) (upd hs (k * 2) (nb + 1)) lo lg rt (nb + 1) (nI fi) (nI fo) (nI en) off (dcu (dcu cu)) (ma + 1 + 1)) H := by rw [← e9]; exact hP
          have hD : va_D A (wM h0 a0 a1 a2 a3 a4 a5 cI cZ th bf (va_cpy bf (va_cpy bf pw 0 (k * 64) 32) 32 (k * 64 + 32) (i + 1)) (upd hs (k * 2) (nb + 1)) lo lg rt (nb + 1) (nI fi) (nI fo) (nI en) off (dcu (dcu cu)) (ma + 1 + 1)) := by rw [← e9]; exact hD
          exact ih (i + 1) (by omega) _ _ _ hP hD hS (lv_sub hl [1, 2, 3, 4, 5, 6, 0] rfl)
      have hP : va_P D vwCl (wM h0 a0 a1 a2 a3 a4 a5 cI cZ th bf (va_cpy bf (va_cpy bf pw 0 (k * 64) 32) 32 (k * 64 + 32) 0) (upd hs (k * 2) (nb + 1)) lo lg rt (nb + 1) (nI fi) (nI fo) (nI en) off (dcu (dcu cu)) (ma + 1 + 1)) H := by rw [cpy_0]; exact hP
      have hD : va_D A (wM h0 a0 a1 a2 a3 a4 a5 cI cZ th bf (va_cpy bf (va_cpy bf pw 0 (k * 64) 32) 32 (k * 64 + 32) 0) (upd hs (k * 2) (nb + 1)) lo lg rt (nb + 1) (nI fi) (nI fo) (nI en) off (dcu (dcu cu)) (ma + 1 + 1)) := by rw [cpy_0]; exact hD
      exact lp_41 32 0 (by omega) _ _ _ hP hD hS (lv_sub hl [2, 3, 4, 5, 6, 1, 0] rfl)
    | succ n9 ih =>
      intro i hi H locs ls hP hD hS hl
      refine lv_iload hx hb dX1_writePage_41 (lv_at hl 6 rfl) ?_
      refine lv_bipush (v := (nI 32)) hx hb dX1_writePage_43 (by decide) ?_
      refine lv_iload hx hb dX1_writePage_45 (lv_at hl 5 rfl) ?_
      refine n_imul hx hb dX1_writePage_47 ?_
      refine lv_bipush (v := (nI 32)) hx hb dX1_writePage_48 (by decide) ?_
      refine n_iadd hx hb dX1_writePage_50 ?_
      refine n_ge (tgt := 95) hx hb (by omega) (by omega) dX1_writePage_51 (by decide) (fun c_51 => absurd c_51 (by omega)) (fun c_51 => ?_)
      refine lv_aload_n hx hb dX1_writePage_54 rfl (lv_at hl 0 rfl) ?_
      refine va_get (ci := 1) (v := .ref a1) (C := RX1) (T := TX1) (N := 14) hx hb hts inX1_writePage hown hK hP 0 rfl rfl 1 (by decide) (hts _ flX1_writePage_8) (fun _ h9 => h9) rfl dX1_writePage_55 ?_
      refine lv_bipush (v := (nI 64)) hx hb dX1_writePage_58 (by decide) ?_
      refine lv_iload_n hx hb dX1_writePage_60 rfl (lv_at hl 1 rfl) ?_
      refine n_imulc hx hb dX1_writePage_61 ?_
      refine lv_iload hx hb dX1_writePage_62 (lv_at hl 6 rfl) ?_
      refine n_iadd hx hb dX1_writePage_64 ?_
      refine lv_iload_n hx hb dX1_writePage_65 rfl (lv_at hl 3 rfl) ?_
      refine lv_if_eq (tgt := 79) hx hb dX1_writePage_66 (by decide) (fun c_66 => absurd c_66 (by decide)) (fun c_66 => ?_)
      refine lv_aload_n hx hb dX1_writePage_69 rfl (lv_at hl 0 rfl) ?_
      refine va_get (ci := 1) (v := .ref a0) (C := RX1) (T := TX1) (N := 14) hx hb hts inX1_writePage hown hK hP 0 rfl rfl 6 (by decide) (hts _ flX1_writePage_28) (fun _ h9 => h9) rfl dX1_writePage_70 ?_
      refine lv_iload hx hb dX1_writePage_73 (lv_at hl 6 rfl) ?_
      refine n_iald hx hb hK hP 1 0 rfl rfl i (by omega) (by omega) dX1_writePage_75 ?_
      refine lv_goto (tgt := 88) hx hb dX1_writePage_76 (by decide) ?_
      refine n_iast hx hb hK hP hD hS 2 0 rfl rfl ((k * 64) + i) (by omega) (by omega) dX1_writePage_88 (fun H locs hP hD hS => ?_)
      have hP : va_P D vwCl (wM h0 a0 a1 a2 a3 a4 a5 cI cZ th bf (upd (va_cpy bf pw 0 (k * 64) i) ((k * 64) + i) (bf i)) hs lo lg rt (nb + 1) (nI fi) (nI fo) (nI en) off (dcu cu) (ma + 1)) H := hP
      have hD : va_D A (wM h0 a0 a1 a2 a3 a4 a5 cI cZ th bf (upd (va_cpy bf pw 0 (k * 64) i) ((k * 64) + i) (bf i)) hs lo lg rt (nb + 1) (nI fi) (nI fo) (nI en) off (dcu cu) (ma + 1)) := hD
      refine n_iinc (lv' := [(6, .int (nI (i + 1))), (0, .ref h0), (1, .int (nI k)), (2, .int (nI 0)), (3, .int 1), (4, .int (nb + 1)), (5, .int (nI 0))]) hx hb dX1_writePage_89 hl (k := 6) rfl (by decide) rfl (fun ls hl => ?_)
      refine lv_goto (tgt := 41) hx hb dX1_writePage_92 (by decide) ?_
      have e9 : upd (va_cpy bf pw 0 (k * 64) i) ((k * 64) + i) (bf i) = va_cpy bf pw 0 (k * 64) (i + 1) := cpy_t (by omega) (by rw [show (0 : Nat) + i = i from by omega])
      have hP : va_P D vwCl (wM h0 a0 a1 a2 a3 a4 a5 cI cZ th bf (va_cpy bf pw 0 (k * 64) (i + 1)) hs lo lg rt (nb + 1) (nI fi) (nI fo) (nI en) off (dcu cu) (ma + 1)) H := by rw [← e9]; exact hP
      have hD : va_D A (wM h0 a0 a1 a2 a3 a4 a5 cI cZ th bf (va_cpy bf pw 0 (k * 64) (i + 1)) hs lo lg rt (nb + 1) (nI fi) (nI fo) (nI en) off (dcu cu) (ma + 1)) := by rw [← e9]; exact hD
      exact ih (i + 1) (by omega) _ _ _ hP hD hS (lv_sub hl [1, 2, 3, 4, 5, 6, 0] rfl)
  have hP : va_P D vwCl (wM h0 a0 a1 a2 a3 a4 a5 cI cZ th bf (va_cpy bf pw 0 (k * 64) 0) hs lo lg rt (nb + 1) (nI fi) (nI fo) (nI en) off (dcu cu) (ma + 1)) H := by rw [cpy_0]; exact hP
  have hD : va_D A (wM h0 a0 a1 a2 a3 a4 a5 cI cZ th bf (va_cpy bf pw 0 (k * 64) 0) hs lo lg rt (nb + 1) (nI fi) (nI fo) (nI en) off (dcu cu) (ma + 1)) := by rw [cpy_0]; exact hD
  exact lp_41 32 0 (by omega) _ _ _ hP hD hS (lv_sub hl [3, 4, 5, 6, 2, 1, 0] rfl)
set_option maxHeartbeats 4000000 in
set_option maxRecDepth 100000 in
theorem tX1_writePage_p0 {l : Launch} {D : va_G} {cI cZ : ClassId} {h0 a0 a1 a2 a3 a4 a5 : Nat} (th : Int32) (bf pw hs lo lg rt : Nat → Int32) (nb : Int32) (fi fo en : Nat) (off cu ma : Int32) (k : Nat) (hk : k < 512) (fr : Nat) (hfr : fr + 64 ≤ 32768) (hdis : fr + 64 ≤ k * 64 ∨ k * 64 + 64 ≤ fr) (h : cu = 0) : RI l yX1_writePage wsX1_writePage 3 0 0 D (tyC cI cZ) (wM h0 a0 a1 a2 a3 a4 a5 cI cZ th bf pw hs lo lg rt nb (nI fi) (nI fo) (nI en) off cu ma) [.ref h0, .int (nI k), .int (nI fr), .int 0] (-1) (wM h0 a0 a1 a2 a3 a4 a5 cI cZ th (zf bf) pw hs lo lg rt (nb + 1) (nI fi) (nI fo) (nI fo) 1 cu ma) := by
  refine st_I (cc := cX1_writePage) (maxL := 7) (ret := (some .int)) (by decide +kernel) rfl (Nat.le_of_ble_eq_true rfl) ?_
  intro p e s m below meth c A hx hb hr hts hown hml hlocks hK hP hD hA hS ls hl
  have hown : s.vm.findClass RX1 = some m.cls := hown
  have hl : lv_has ls 7 [(0, .ref h0), (1, .int (nI k)), (2, .int (nI fr)), (3, .int 0)] := hl
  refine lv_aload_n hx hb dX1_writePage_0 rfl (lv_at hl 0 rfl) ?_
  refine lv_dup hx hb dX1_writePage_1 rfl ?_
  refine va_get (ci := 1) (v := .int nb) (C := RX1) (T := TX1) (N := 14) hx hb hts inX1_writePage hown hK hP 0 rfl rfl 10 (by decide) (hts _ flX1_writePage_69) (fun _ h9 => h9) rfl dX1_writePage_2 ?_
  refine lv_iconst (v := (1)) hx hb dX1_writePage_5 (by decide) ?_
  refine lv_iadd hx hb dX1_writePage_6 ?_
  refine va_put (ci := 1) (v := .int (nb + 1)) (ty := .int) (C := RX1) (T := TX1) (N := 14) hx hb hts inX1_writePage tyX1 tyX1_ok nmX1 hown hK hP hD hS 0 rfl rfl 10 (by decide) (hts _ flX1_writePage_69) (fun _ h9 => h9) rfl (by decide +kernel) rfl rfl (Nat.le_of_ble_eq_true rfl) dX1_writePage_7 (fun H locs hP hD hS => ?_)
  have hP : va_P D vwCl (wM h0 a0 a1 a2 a3 a4 a5 cI cZ th bf pw hs lo lg rt (nb + 1) (nI fi) (nI fo) (nI en) off cu ma) H := hP
  have hD : va_D A (wM h0 a0 a1 a2 a3 a4 a5 cI cZ th bf pw hs lo lg rt (nb + 1) (nI fi) (nI fo) (nI en) off cu ma) := hD
  refine lv_aload_n hx hb dX1_writePage_10 rfl (lv_at hl 0 rfl) ?_
  refine va_get (ci := 1) (v := .int (nb + 1)) (C := RX1) (T := TX1) (N := 14) hx hb hts inX1_writePage hown hK hP 0 rfl rfl 10 (by decide) (hts _ flX1_writePage_69) (fun _ h9 => h9) rfl dX1_writePage_11 ?_
  refine lv_istore (lv' := [(4, .int (nb + 1)), (0, .ref h0), (1, .int (nI k)), (2, .int (nI fr)), (3, .int 0)]) hx hb dX1_writePage_14 hl (by decide) rfl (fun ls hl => ?_)
  refine lv_iconst (v := (nI 0)) hx hb dX1_writePage_16 (by decide) ?_
  refine lv_istore (lv' := [(5, .int (nI 0)), (4, .int (nb + 1)), (0, .ref h0), (1, .int (nI k)), (2, .int (nI fr)), (3, .int 0)]) hx hb dX1_writePage_17 hl (by decide) rfl (fun ls hl => ?_)
  refine lv_iload hx hb dX1_writePage_19 (lv_at hl 0 rfl) ?_
  refine lv_iconst (v := (nI 2)) hx hb dX1_writePage_21 (by decide) ?_
  refine n_ge (tgt := 114) hx hb (by omega) (by omega) dX1_writePage_22 (by decide) (fun c_22 => absurd c_22 (by omega)) (fun c_22 => ?_)
  refine lv_aload_n hx hb dX1_writePage_25 rfl (lv_at hl 2 rfl) ?_
  refine k_I (wr := []) hP hD hS hA (va_runV (As := []) (rest := []) ⟨hx, hb, hml, hown, hts⟩ ((tX1_canWrite_cut th bf pw hs lo lg rt (nb + 1) fi fo en off cu ma h) _) (cwV 0 hts gX1_writePage_X1_canWrite rfl rfl rfl (by decide +kernel) ⟨Nat.le_of_ble_eq_true rfl, Nat.le_of_ble_eq_true rfl⟩) (pV_B hP hD hK (ci := 1) (q0 := 0) rfl rfl rfl [0, 1] rfl [0, 1, 2, 3, 4, 5, 6] rfl rfl) rfl rfl hl.1 rfl (lv_room (Nat.le_of_ble_eq_true rfl)) dX1_writePage_26 ⟨Nat.le_of_ble_eq_true rfl, Nat.le_of_ble_eq_true rfl⟩) [0, 1, 2, 3, 4, 5, 6] [] rfl rfl rfl (by decide) (fun H locs hP hD hS => ?_)
  have hP : va_P D vwCl (wM h0 a0 a1 a2 a3 a4 a5 cI cZ th (zf bf) pw hs lo lg rt (nb + 1) (nI fi) (nI fo) (nI fo) 1 cu ma) H := hP
  have hD : va_D A (wM h0 a0 a1 a2 a3 a4 a5 cI cZ th (zf bf) pw hs lo lg rt (nb + 1) (nI fi) (nI fo) (nI fo) 1 cu ma) := hD
  refine lv_if_ne (tgt := 34) hx hb dX1_writePage_29 (by decide) (fun c_29 => absurd (by decide) c_29) (fun c_29 => ?_)
  refine lv_iconst (v := (-1)) hx hb dX1_writePage_32 (by decide) ?_
  exact e_I hx hb hr hlocks hP hD hS rfl dX1_writePage_33
set_option maxHeartbeats 4000000 in
set_option maxRecDepth 100000 in
theorem tX1_writePage_p1 {l : Launch} {D : va_G} {cI cZ : ClassId} {h0 a0 a1 a2 a3 a4 a5 : Nat} (th : Int32) (bf pw hs lo lg rt : Nat → Int32) (nb : Int32) (fi fo en : Nat) (off cu ma : Int32) (k : Nat) (hk : k < 512) (fr : Nat) (hfr : fr + 64 ≤ 32768) (hdis : fr + 64 ≤ k * 64 ∨ k * 64 + 64 ≤ fr) (hn : -1 ≤ cu) (h : ¬ cu = 0) (h1 : dcu cu = 0) : RI l yX1_writePage wsX1_writePage 3 0 0 D (tyC cI cZ) (wM h0 a0 a1 a2 a3 a4 a5 cI cZ th bf pw hs lo lg rt nb (nI fi) (nI fo) (nI en) off cu ma) [.ref h0, .int (nI k), .int (nI fr), .int 0] (-1) (wM h0 a0 a1 a2 a3 a4 a5 cI cZ th (zf bf) (va_cpy pw pw fr (k * 64) 32) (upd hs (k * 2) (nb + 1)) lo lg rt (nb + 1) (nI fi) (nI fo) (nI fo) 1 (dcu cu) (ma + 1)) := by
  refine st_I (cc := cX1_writePage) (maxL := 7) (ret := (some .int)) (by decide +kernel) rfl (Nat.le_of_ble_eq_true rfl) ?_
  intro p e s m below meth c A hx hb hr hts hown hml hlocks hK hP hD hA hS ls hl
  have hown : s.vm.findClass RX1 = some m.cls := hown
  have hl : lv_has ls 7 [(0, .ref h0), (1, .int (nI k)), (2, .int (nI fr)), (3, .int 0)] := hl
  refine lv_aload_n hx hb dX1_writePage_0 rfl (lv_at hl 0 rfl) ?_
  refine lv_dup hx hb dX1_writePage_1 rfl ?_
  refine va_get (ci := 1) (v := .int nb) (C := RX1) (T := TX1) (N := 14) hx hb hts inX1_writePage hown hK hP 0 rfl rfl 10 (by decide) (hts _ flX1_writePage_69) (fun _ h9 => h9) rfl dX1_writePage_2 ?_
  refine lv_iconst (v := (1)) hx hb dX1_writePage_5 (by decide) ?_
  refine lv_iadd hx hb dX1_writePage_6 ?_
  refine va_put (ci := 1) (v := .int (nb + 1)) (ty := .int) (C := RX1) (T := TX1) (N := 14) hx hb hts inX1_writePage tyX1 tyX1_ok nmX1 hown hK hP hD hS 0 rfl rfl 10 (by decide) (hts _ flX1_writePage_69) (fun _ h9 => h9) rfl (by decide +kernel) rfl rfl (Nat.le_of_ble_eq_true rfl) dX1_writePage_7 (fun H locs hP hD hS => ?_)
  have hP : va_P D vwCl (wM h0 a0 a1 a2 a3 a4 a5 cI cZ th bf pw hs lo lg rt (nb + 1) (nI fi) (nI fo) (nI en) off cu ma) H := hP
  have hD : va_D A (wM h0 a0 a1 a2 a3 a4 a5 cI cZ th bf pw hs lo lg rt (nb + 1) (nI fi) (nI fo) (nI en) off cu ma) := hD
  refine lv_aload_n hx hb dX1_writePage_10 rfl (lv_at hl 0 rfl) ?_
  refine va_get (ci := 1) (v := .int (nb + 1)) (C := RX1) (T := TX1) (N := 14) hx hb hts inX1_writePage hown hK hP 0 rfl rfl 10 (by decide) (hts _ flX1_writePage_69) (fun _ h9 => h9) rfl dX1_writePage_11 ?_
  refine lv_istore (lv' := [(4, .int (nb + 1)), (0, .ref h0), (1, .int (nI k)), (2, .int (nI fr)), (3, .int 0)]) hx hb dX1_writePage_14 hl (by decide) rfl (fun ls hl => ?_)
  refine lv_iconst (v := (nI 0)) hx hb dX1_writePage_16 (by decide) ?_
  refine lv_istore (lv' := [(5, .int (nI 0)), (4, .int (nb + 1)), (0, .ref h0), (1, .int (nI k)), (2, .int (nI fr)), (3, .int 0)]) hx hb dX1_writePage_17 hl (by decide) rfl (fun ls hl => ?_)
  refine lv_iload hx hb dX1_writePage_19 (lv_at hl 0 rfl) ?_
  refine lv_iconst (v := (nI 2)) hx hb dX1_writePage_21 (by decide) ?_
  refine n_ge (tgt := 114) hx hb (by omega) (by omega) dX1_writePage_22 (by decide) (fun c_22 => absurd c_22 (by omega)) (fun c_22 => ?_)
  refine lv_aload_n hx hb dX1_writePage_25 rfl (lv_at hl 2 rfl) ?_
  refine k_I (wr := []) hP hD hS hA (va_runV (As := []) (rest := []) ⟨hx, hb, hml, hown, hts⟩ ((tX1_canWrite_ok th bf pw hs lo lg rt (nb + 1) fi fo en off cu ma h hn) _) (cwV 0 hts gX1_writePage_X1_canWrite rfl rfl rfl (by decide +kernel) ⟨Nat.le_of_ble_eq_true rfl, Nat.le_of_ble_eq_true rfl⟩) (pV_B hP hD hK (ci := 1) (q0 := 0) rfl rfl rfl [0, 1] rfl [0, 1, 2, 3, 4, 5, 6] rfl rfl) rfl rfl hl.1 rfl (lv_room (Nat.le_of_ble_eq_true rfl)) dX1_writePage_26 ⟨Nat.le_of_ble_eq_true rfl, Nat.le_of_ble_eq_true rfl⟩) [0, 1, 2, 3, 4, 5, 6] [] rfl rfl rfl (by decide) (fun H locs hP hD hS => ?_)
  have hP : va_P D vwCl (wM h0 a0 a1 a2 a3 a4 a5 cI cZ th bf pw hs lo lg rt (nb + 1) (nI fi) (nI fo) (nI en) off (dcu cu) (ma + 1)) H := hP
  have hD : va_D A (wM h0 a0 a1 a2 a3 a4 a5 cI cZ th bf pw hs lo lg rt (nb + 1) (nI fi) (nI fo) (nI en) off (dcu cu) (ma + 1)) := hD
  refine lv_if_ne (tgt := 34) hx hb dX1_writePage_29 (by decide) (fun c_29 => ?_) (fun c_29 => absurd c_29 (by decide))
  refine lv_bipush (v := (nI 32)) hx hb dX1_writePage_34 (by decide) ?_
  refine lv_iload hx hb dX1_writePage_36 (lv_at hl 0 rfl) ?_
  refine n_imul hx hb dX1_writePage_38 ?_
  refine lv_istore (lv' := [(6, .int (nI 0)), (5, .int (nI 0)), (4, .int (nb + 1)), (0, .ref h0), (1, .int (nI k)), (2, .int (nI fr)), (3, .int 0)]) hx hb dX1_writePage_39 hl (by decide) rfl (fun ls hl => ?_)
  have lp_41 : ∀ (n9 i : Nat), i + n9 = 32 → ∀ (H : Heap) (locs : List Loc) (ls : Array Slot), va_P D vwCl (wM h0 a0 a1 a2 a3 a4 a5 cI cZ th bf (va_cpy pw pw fr (k * 64) i) hs lo lg rt (nb + 1) (nI fi) (nI fo) (nI en) off (dcu cu) (ma + 1)) H → va_D A (wM h0 a0 a1 a2 a3 a4 a5 cI cZ th bf (va_cpy pw pw fr (k * 64) i) hs lo lg rt (nb + 1) (nI fi) (nI fo) (nI en) off (dcu cu) (ma + 1)) → va_S A s.heap H locs → lv_has ls 7 [(0, .ref h0), (1, .int (nI k)), (2, .int (nI fr)), (3, .int 0), (4, .int (nb + 1)), (5, .int (nI 0)), (6, .int (nI i))] → W p l e (rmL 3 0 0) s m ([.ref h0, .int (nI k), .int (nI fr), .int 0] : List Value).toArray below meth c H locs 0 0 (MQ below (qcI D A (-1) (wM h0 a0 a1 a2 a3 a4 a5 cI cZ th (zf bf) (va_cpy pw pw fr (k * 64) 32) (upd hs (k * 2) (nb + 1)) lo lg rt (nb + 1) (nI fi) (nI fo) (nI fo) 1 (dcu cu) (ma + 1))) ([.ref h0, .int (nI k), .int (nI fr), .int 0] : List Value).toArray s 0 0 A) (F0 m 41 ls []) := by
    intro n9
    induction n9 with
    | zero =>
      intro i hi H locs ls hP hD hS hl
      obtain rfl : i = 32 := by omega
      refine lv_iload hx hb dX1_writePage_41 (lv_at hl 6 rfl) ?_
      refine lv_bipush (v := (nI 32)) hx hb dX1_writePage_43 (by decide) ?_
      refine lv_iload hx hb dX1_writePage_45 (lv_at hl 5 rfl) ?_
      refine n_imul hx hb dX1_writePage_47 ?_
      refine lv_bipush (v := (nI 32)) hx hb dX1_writePage_48 (by decide) ?_
      refine n_iadd hx hb dX1_writePage_50 ?_
      refine n_ge (tgt := 95) hx hb (by omega) (by omega) dX1_writePage_51 (by decide) (fun c_51 => ?_) (fun c_51 => absurd c_51 (by omega))
      refine lv_aload_n hx hb dX1_writePage_95 rfl (lv_at hl 0 rfl) ?_
      refine va_get (ci := 1) (v := .ref a2) (C := RX1) (T := TX1) (N := 14) hx hb hts inX1_writePage hown hK hP 0 rfl rfl 2 (by decide) (hts _ flX1_writePage_14) (fun _ h9 => h9) rfl dX1_writePage_96 ?_
      refine lv_iconst (v := (nI 2)) hx hb dX1_writePage_99 (by decide) ?_
      refine lv_iload_n hx hb dX1_writePage_100 rfl (lv_at hl 1 rfl) ?_
      refine n_imulc hx hb dX1_writePage_101 ?_
      refine lv_iload hx hb dX1_writePage_102 (lv_at hl 5 rfl) ?_
      refine n_iadd hx hb dX1_writePage_104 ?_
      refine lv_iload hx hb dX1_writePage_105 (lv_at hl 4 rfl) ?_
      refine n_iast hx hb hK hP hD hS 3 0 rfl rfl (k * 2) (by omega) (by omega) dX1_writePage_107 (fun H locs hP hD hS => ?_)
      have hP : va_P D vwCl (wM h0 a0 a1 a2 a3 a4 a5 cI cZ th bf (va_cpy pw pw fr (k * 64) 32) (upd hs (k * 2) (nb + 1)) lo lg rt (nb + 1) (nI fi) (nI fo) (nI en) off (dcu cu) (ma + 1)) H := hP
      have hD : va_D A (wM h0 a0 a1 a2 a3 a4 a5 cI cZ th bf (va_cpy pw pw fr (k * 64) 32) (upd hs (k * 2) (nb + 1)) lo lg rt (nb + 1) (nI fi) (nI fo) (nI en) off (dcu cu) (ma + 1)) := hD
      refine n_iinc (lv' := [(5, .int (nI 1)), (0, .ref h0), (1, .int (nI k)), (2, .int (nI fr)), (3, .int 0), (4, .int (nb + 1)), (6, .int (nI 32))]) hx hb dX1_writePage_108 hl (k := 5) rfl (by decide) rfl (fun ls hl => ?_)
      refine lv_goto (tgt := 19) hx hb dX1_writePage_111 (by decide) ?_
      refine lv_iload hx hb dX1_writePage_19 (lv_at hl 0 rfl) ?_
      refine lv_iconst (v := (nI 2)) hx hb dX1_writePage_21 (by decide) ?_
      refine n_ge (tgt := 114) hx hb (by omega) (by omega) dX1_writePage_22 (by decide) (fun c_22 => absurd c_22 (by omega)) (fun c_22 => ?_)
      refine lv_aload_n hx hb dX1_writePage_25 rfl (lv_at hl 1 rfl) ?_
      refine k_I (wr := []) hP hD hS hA (va_runV (As := []) (rest := []) ⟨hx, hb, hml, hown, hts⟩ ((tX1_canWrite_cut th bf (va_cpy pw pw fr (k * 64) 32) (upd hs (k * 2) (nb + 1)) lo lg rt (nb + 1) fi fo en off (dcu cu) (ma + 1) h1) _) (cwV 0 hts gX1_writePage_X1_canWrite rfl rfl rfl (by decide +kernel) ⟨Nat.le_of_ble_eq_true rfl, Nat.le_of_ble_eq_true rfl⟩) (pV_B hP hD hK (ci := 1) (q0 := 0) rfl rfl rfl [0, 1] rfl [0, 1, 2, 3, 4, 5, 6] rfl rfl) rfl rfl hl.1 rfl (lv_room (Nat.le_of_ble_eq_true rfl)) dX1_writePage_26 ⟨Nat.le_of_ble_eq_true rfl, Nat.le_of_ble_eq_true rfl⟩) [0, 1, 2, 3, 4, 5, 6] [] rfl rfl rfl (by decide) (fun H locs hP hD hS => ?_)
      have hP : va_P D vwCl (wM h0 a0 a1 a2 a3 a4 a5 cI cZ th (zf bf) (va_cpy pw pw fr (k * 64) 32) (upd hs (k * 2) (nb + 1)) lo lg rt (nb + 1) (nI fi) (nI fo) (nI fo) 1 (dcu cu) (ma + 1)) H := hP
      have hD : va_D A (wM h0 a0 a1 a2 a3 a4 a5 cI cZ th (zf bf) (va_cpy pw pw fr (k * 64) 32) (upd hs (k * 2) (nb + 1)) lo lg rt (nb + 1) (nI fi) (nI fo) (nI fo) 1 (dcu cu) (ma + 1)) := hD
      refine lv_if_ne (tgt := 34) hx hb dX1_writePage_29 (by decide) (fun c_29 => absurd (by decide) c_29) (fun c_29 => ?_)
      refine lv_iconst (v := (-1)) hx hb dX1_writePage_32 (by decide) ?_
      exact e_I hx hb hr hlocks hP hD hS rfl dX1_writePage_33
    | succ n9 ih =>
      intro i hi H locs ls hP hD hS hl
      refine lv_iload hx hb dX1_writePage_41 (lv_at hl 6 rfl) ?_
      refine lv_bipush (v := (nI 32)) hx hb dX1_writePage_43 (by decide) ?_
      refine lv_iload hx hb dX1_writePage_45 (lv_at hl 5 rfl) ?_
      refine n_imul hx hb dX1_writePage_47 ?_
      refine lv_bipush (v := (nI 32)) hx hb dX1_writePage_48 (by decide) ?_
      refine n_iadd hx hb dX1_writePage_50 ?_
      refine n_ge (tgt := 95) hx hb (by omega) (by omega) dX1_writePage_51 (by decide) (fun c_51 => absurd c_51 (by omega)) (fun c_51 => ?_)
      refine lv_aload_n hx hb dX1_writePage_54 rfl (lv_at hl 0 rfl) ?_
      refine va_get (ci := 1) (v := .ref a1) (C := RX1) (T := TX1) (N := 14) hx hb hts inX1_writePage hown hK hP 0 rfl rfl 1 (by decide) (hts _ flX1_writePage_8) (fun _ h9 => h9) rfl dX1_writePage_55 ?_
      refine lv_bipush (v := (nI 64)) hx hb dX1_writePage_58 (by decide) ?_
      refine lv_iload_n hx hb dX1_writePage_60 rfl (lv_at hl 1 rfl) ?_
      refine n_imulc hx hb dX1_writePage_61 ?_
      refine lv_iload hx hb dX1_writePage_62 (lv_at hl 6 rfl) ?_
      refine n_iadd hx hb dX1_writePage_64 ?_
      refine lv_iload_n hx hb dX1_writePage_65 rfl (lv_at hl 3 rfl) ?_
      refine lv_if_eq (tgt := 79) hx hb dX1_writePage_66 (by decide) (fun c_66 => ?_) (fun c_66 => absurd (by decide) c_66)
      refine lv_aload_n hx hb dX1_writePage_79 rfl (lv_at hl 0 rfl) ?_
      refine va_get (ci := 1) (v := .ref a1) (C := RX1) (T := TX1) (N := 14) hx hb hts inX1_writePage hown hK hP 0 rfl rfl 1 (by decide) (hts _ flX1_writePage_8) (fun _ h9 => h9) rfl dX1_writePage_80 ?_
      refine lv_iload_n hx hb dX1_writePage_83 rfl (lv_at hl 2 rfl) ?_
      refine lv_iload hx hb dX1_writePage_84 (lv_at hl 6 rfl) ?_
      refine n_iadd hx hb dX1_writePage_86 ?_
      refine n_iald hx hb hK hP 2 0 rfl rfl (fr + i) (by omega) (by omega) dX1_writePage_87 ?_
      refine n_iast hx hb hK hP hD hS 2 0 rfl rfl ((k * 64) + i) (by omega) (by omega) dX1_writePage_88 (fun H locs hP hD hS => ?_)
      have hP : va_P D vwCl (wM h0 a0 a1 a2 a3 a4 a5 cI cZ th bf (upd (va_cpy pw pw fr (k * 64) i) ((k * 64) + i) ((va_cpy pw pw fr (k * 64) i) (fr + i))) hs lo lg rt (nb + 1) (nI fi) (nI fo) (nI en) off (dcu cu) (ma + 1)) H := hP
      have hD : va_D A (wM h0 a0 a1 a2 a3 a4 a5 cI cZ th bf (upd (va_cpy pw pw fr (k * 64) i) ((k * 64) + i) ((va_cpy pw pw fr (k * 64) i) (fr + i))) hs lo lg rt (nb + 1) (nI fi) (nI fo) (nI en) off (dcu cu) (ma + 1)) := hD
      refine n_iinc (lv' := [(6, .int (nI (i + 1))), (0, .ref h0), (1, .int (nI k)), (2, .int (nI fr)), (3, .int 0), (4, .int (nb + 1)), (5, .int (nI 0))]) hx hb dX1_writePage_89 hl (k := 6) rfl (by decide) rfl (fun ls hl => ?_)
      refine lv_goto (tgt := 41) hx hb dX1_writePage_92 (by decide) ?_
      have e9 : upd (va_cpy pw pw fr (k * 64) i) ((k * 64) + i) ((va_cpy pw pw fr (k * 64) i) (fr + i)) = va_cpy pw pw fr (k * 64) (i + 1) := cpy_t (by omega) (pk_cpy_out (by omega))
      have hP : va_P D vwCl (wM h0 a0 a1 a2 a3 a4 a5 cI cZ th bf (va_cpy pw pw fr (k * 64) (i + 1)) hs lo lg rt (nb + 1) (nI fi) (nI fo) (nI en) off (dcu cu) (ma + 1)) H := by rw [← e9]; exact hP
      have hD : va_D A (wM h0 a0 a1 a2 a3 a4 a5 cI cZ th bf (va_cpy pw pw fr (k * 64) (i + 1)) hs lo lg rt (nb + 1) (nI fi) (nI fo) (nI en) off (dcu cu) (ma + 1)) := by rw [← e9]; exact hD
      exact ih (i + 1) (by omega) _ _ _ hP hD hS (lv_sub hl [1, 2, 3, 4, 5, 6, 0] rfl)
  have hP : va_P D vwCl (wM h0 a0 a1 a2 a3 a4 a5 cI cZ th bf (va_cpy pw pw fr (k * 64) 0) hs lo lg rt (nb + 1) (nI fi) (nI fo) (nI en) off (dcu cu) (ma + 1)) H := by rw [cpy_0]; exact hP
  have hD : va_D A (wM h0 a0 a1 a2 a3 a4 a5 cI cZ th bf (va_cpy pw pw fr (k * 64) 0) hs lo lg rt (nb + 1) (nI fi) (nI fo) (nI en) off (dcu cu) (ma + 1)) := by rw [cpy_0]; exact hD
  exact lp_41 32 0 (by omega) _ _ _ hP hD hS (lv_sub hl [3, 4, 5, 6, 2, 1, 0] rfl)
set_option maxHeartbeats 4000000 in
set_option maxRecDepth 100000 in
theorem tX1_writePage_p2 {l : Launch} {D : va_G} {cI cZ : ClassId} {h0 a0 a1 a2 a3 a4 a5 : Nat} (th : Int32) (bf pw hs lo lg rt : Nat → Int32) (nb : Int32) (fi fo en : Nat) (off cu ma : Int32) (k : Nat) (hk : k < 512) (fr : Nat) (hfr : fr + 64 ≤ 32768) (hdis : fr + 64 ≤ k * 64 ∨ k * 64 + 64 ≤ fr) (hn : -1 ≤ cu) (h : ¬ cu = 0) (h1 : ¬ dcu cu = 0) : RI l yX1_writePage wsX1_writePage 3 0 0 D (tyC cI cZ) (wM h0 a0 a1 a2 a3 a4 a5 cI cZ th bf pw hs lo lg rt nb (nI fi) (nI fo) (nI en) off cu ma) [.ref h0, .int (nI k), .int (nI fr), .int 0] (nb + 1) (wM h0 a0 a1 a2 a3 a4 a5 cI cZ th bf (va_cpy (va_cpy pw pw fr (k * 64) 32) (va_cpy pw pw fr (k * 64) 32) (fr + 32) (k * 64 + 32) 32) (upd (upd hs (k * 2) (nb + 1)) (k * 2 + 1) (nb + 1)) (upd lo k 0) lg rt (nb + 1) (nI fi) (nI fo) (nI en) off (dcu (dcu cu)) (ma + 1 + 1)) := by
  refine st_I (cc := cX1_writePage) (maxL := 7) (ret := (some .int)) (by decide +kernel) rfl (Nat.le_of_ble_eq_true rfl) ?_
  intro p e s m below meth c A hx hb hr hts hown hml hlocks hK hP hD hA hS ls hl
  have hown : s.vm.findClass RX1 = some m.cls := hown
  have hl : lv_has ls 7 [(0, .ref h0), (1, .int (nI k)), (2, .int (nI fr)), (3, .int 0)] := hl
  refine lv_aload_n hx hb dX1_writePage_0 rfl (lv_at hl 0 rfl) ?_
  refine lv_dup hx hb dX1_writePage_1 rfl ?_
  refine va_get (ci := 1) (v := .int nb) (C := RX1) (T := TX1) (N := 14) hx hb hts inX1_writePage hown hK hP 0 rfl rfl 10 (by decide) (hts _ flX1_writePage_69) (fun _ h9 => h9) rfl dX1_writePage_2 ?_
  refine lv_iconst (v := (1)) hx hb dX1_writePage_5 (by decide) ?_
  refine lv_iadd hx hb dX1_writePage_6 ?_
  refine va_put (ci := 1) (v := .int (nb + 1)) (ty := .int) (C := RX1) (T := TX1) (N := 14) hx hb hts inX1_writePage tyX1 tyX1_ok nmX1 hown hK hP hD hS 0 rfl rfl 10 (by decide) (hts _ flX1_writePage_69) (fun _ h9 => h9) rfl (by decide +kernel) rfl rfl (Nat.le_of_ble_eq_true rfl) dX1_writePage_7 (fun H locs hP hD hS => ?_)
  have hP : va_P D vwCl (wM h0 a0 a1 a2 a3 a4 a5 cI cZ th bf pw hs lo lg rt (nb + 1) (nI fi) (nI fo) (nI en) off cu ma) H := hP
  have hD : va_D A (wM h0 a0 a1 a2 a3 a4 a5 cI cZ th bf pw hs lo lg rt (nb + 1) (nI fi) (nI fo) (nI en) off cu ma) := hD
  refine lv_aload_n hx hb dX1_writePage_10 rfl (lv_at hl 0 rfl) ?_
  refine va_get (ci := 1) (v := .int (nb + 1)) (C := RX1) (T := TX1) (N := 14) hx hb hts inX1_writePage hown hK hP 0 rfl rfl 10 (by decide) (hts _ flX1_writePage_69) (fun _ h9 => h9) rfl dX1_writePage_11 ?_
  refine lv_istore (lv' := [(4, .int (nb + 1)), (0, .ref h0), (1, .int (nI k)), (2, .int (nI fr)), (3, .int 0)]) hx hb dX1_writePage_14 hl (by decide) rfl (fun ls hl => ?_)
  refine lv_iconst (v := (nI 0)) hx hb dX1_writePage_16 (by decide) ?_
  refine lv_istore (lv' := [(5, .int (nI 0)), (4, .int (nb + 1)), (0, .ref h0), (1, .int (nI k)), (2, .int (nI fr)), (3, .int 0)]) hx hb dX1_writePage_17 hl (by decide) rfl (fun ls hl => ?_)
  refine lv_iload hx hb dX1_writePage_19 (lv_at hl 0 rfl) ?_
  refine lv_iconst (v := (nI 2)) hx hb dX1_writePage_21 (by decide) ?_
  refine n_ge (tgt := 114) hx hb (by omega) (by omega) dX1_writePage_22 (by decide) (fun c_22 => absurd c_22 (by omega)) (fun c_22 => ?_)
  refine lv_aload_n hx hb dX1_writePage_25 rfl (lv_at hl 2 rfl) ?_
  refine k_I (wr := []) hP hD hS hA (va_runV (As := []) (rest := []) ⟨hx, hb, hml, hown, hts⟩ ((tX1_canWrite_ok th bf pw hs lo lg rt (nb + 1) fi fo en off cu ma h hn) _) (cwV 0 hts gX1_writePage_X1_canWrite rfl rfl rfl (by decide +kernel) ⟨Nat.le_of_ble_eq_true rfl, Nat.le_of_ble_eq_true rfl⟩) (pV_B hP hD hK (ci := 1) (q0 := 0) rfl rfl rfl [0, 1] rfl [0, 1, 2, 3, 4, 5, 6] rfl rfl) rfl rfl hl.1 rfl (lv_room (Nat.le_of_ble_eq_true rfl)) dX1_writePage_26 ⟨Nat.le_of_ble_eq_true rfl, Nat.le_of_ble_eq_true rfl⟩) [0, 1, 2, 3, 4, 5, 6] [] rfl rfl rfl (by decide) (fun H locs hP hD hS => ?_)
  have hP : va_P D vwCl (wM h0 a0 a1 a2 a3 a4 a5 cI cZ th bf pw hs lo lg rt (nb + 1) (nI fi) (nI fo) (nI en) off (dcu cu) (ma + 1)) H := hP
  have hD : va_D A (wM h0 a0 a1 a2 a3 a4 a5 cI cZ th bf pw hs lo lg rt (nb + 1) (nI fi) (nI fo) (nI en) off (dcu cu) (ma + 1)) := hD
  refine lv_if_ne (tgt := 34) hx hb dX1_writePage_29 (by decide) (fun c_29 => ?_) (fun c_29 => absurd c_29 (by decide))
  refine lv_bipush (v := (nI 32)) hx hb dX1_writePage_34 (by decide) ?_
  refine lv_iload hx hb dX1_writePage_36 (lv_at hl 0 rfl) ?_
  refine n_imul hx hb dX1_writePage_38 ?_
  refine lv_istore (lv' := [(6, .int (nI 0)), (5, .int (nI 0)), (4, .int (nb + 1)), (0, .ref h0), (1, .int (nI k)), (2, .int (nI fr)), (3, .int 0)]) hx hb dX1_writePage_39 hl (by decide) rfl (fun ls hl => ?_)
  have lp_41 : ∀ (n9 i : Nat), i + n9 = 32 → ∀ (H : Heap) (locs : List Loc) (ls : Array Slot), va_P D vwCl (wM h0 a0 a1 a2 a3 a4 a5 cI cZ th bf (va_cpy pw pw fr (k * 64) i) hs lo lg rt (nb + 1) (nI fi) (nI fo) (nI en) off (dcu cu) (ma + 1)) H → va_D A (wM h0 a0 a1 a2 a3 a4 a5 cI cZ th bf (va_cpy pw pw fr (k * 64) i) hs lo lg rt (nb + 1) (nI fi) (nI fo) (nI en) off (dcu cu) (ma + 1)) → va_S A s.heap H locs → lv_has ls 7 [(0, .ref h0), (1, .int (nI k)), (2, .int (nI fr)), (3, .int 0), (4, .int (nb + 1)), (5, .int (nI 0)), (6, .int (nI i))] → W p l e (rmL 3 0 0) s m ([.ref h0, .int (nI k), .int (nI fr), .int 0] : List Value).toArray below meth c H locs 0 0 (MQ below (qcI D A (nb + 1) (wM h0 a0 a1 a2 a3 a4 a5 cI cZ th bf (va_cpy (va_cpy pw pw fr (k * 64) 32) (va_cpy pw pw fr (k * 64) 32) (fr + 32) (k * 64 + 32) 32) (upd (upd hs (k * 2) (nb + 1)) (k * 2 + 1) (nb + 1)) (upd lo k 0) lg rt (nb + 1) (nI fi) (nI fo) (nI en) off (dcu (dcu cu)) (ma + 1 + 1))) ([.ref h0, .int (nI k), .int (nI fr), .int 0] : List Value).toArray s 0 0 A) (F0 m 41 ls []) := by
    intro n9
    induction n9 with
    | zero =>
      intro i hi H locs ls hP hD hS hl
      obtain rfl : i = 32 := by omega
      refine lv_iload hx hb dX1_writePage_41 (lv_at hl 6 rfl) ?_
      refine lv_bipush (v := (nI 32)) hx hb dX1_writePage_43 (by decide) ?_
      refine lv_iload hx hb dX1_writePage_45 (lv_at hl 5 rfl) ?_
      refine n_imul hx hb dX1_writePage_47 ?_
      refine lv_bipush (v := (nI 32)) hx hb dX1_writePage_48 (by decide) ?_
      refine n_iadd hx hb dX1_writePage_50 ?_
      refine n_ge (tgt := 95) hx hb (by omega) (by omega) dX1_writePage_51 (by decide) (fun c_51 => ?_) (fun c_51 => absurd c_51 (by omega))
      refine lv_aload_n hx hb dX1_writePage_95 rfl (lv_at hl 0 rfl) ?_
      refine va_get (ci := 1) (v := .ref a2) (C := RX1) (T := TX1) (N := 14) hx hb hts inX1_writePage hown hK hP 0 rfl rfl 2 (by decide) (hts _ flX1_writePage_14) (fun _ h9 => h9) rfl dX1_writePage_96 ?_
      refine lv_iconst (v := (nI 2)) hx hb dX1_writePage_99 (by decide) ?_
      refine lv_iload_n hx hb dX1_writePage_100 rfl (lv_at hl 1 rfl) ?_
      refine n_imulc hx hb dX1_writePage_101 ?_
      refine lv_iload hx hb dX1_writePage_102 (lv_at hl 5 rfl) ?_
      refine n_iadd hx hb dX1_writePage_104 ?_
      refine lv_iload hx hb dX1_writePage_105 (lv_at hl 4 rfl) ?_
      refine n_iast hx hb hK hP hD hS 3 0 rfl rfl (k * 2) (by omega) (by omega) dX1_writePage_107 (fun H locs hP hD hS => ?_)
      have hP : va_P D vwCl (wM h0 a0 a1 a2 a3 a4 a5 cI cZ th bf (va_cpy pw pw fr (k * 64) 32) (upd hs (k * 2) (nb + 1)) lo lg rt (nb + 1) (nI fi) (nI fo) (nI en) off (dcu cu) (ma + 1)) H := hP
      have hD : va_D A (wM h0 a0 a1 a2 a3 a4 a5 cI cZ th bf (va_cpy pw pw fr (k * 64) 32) (upd hs (k * 2) (nb + 1)) lo lg rt (nb + 1) (nI fi) (nI fo) (nI en) off (dcu cu) (ma + 1)) := hD
      refine n_iinc (lv' := [(5, .int (nI 1)), (0, .ref h0), (1, .int (nI k)), (2, .int (nI fr)), (3, .int 0), (4, .int (nb + 1)), (6, .int (nI 32))]) hx hb dX1_writePage_108 hl (k := 5) rfl (by decide) rfl (fun ls hl => ?_)
      refine lv_goto (tgt := 19) hx hb dX1_writePage_111 (by decide) ?_
      refine lv_iload hx hb dX1_writePage_19 (lv_at hl 0 rfl) ?_
      refine lv_iconst (v := (nI 2)) hx hb dX1_writePage_21 (by decide) ?_
      refine n_ge (tgt := 114) hx hb (by omega) (by omega) dX1_writePage_22 (by decide) (fun c_22 => absurd c_22 (by omega)) (fun c_22 => ?_)
      refine lv_aload_n hx hb dX1_writePage_25 rfl (lv_at hl 1 rfl) ?_
      refine k_I (wr := []) hP hD hS hA (va_runV (As := []) (rest := []) ⟨hx, hb, hml, hown, hts⟩ ((tX1_canWrite_ok th bf (va_cpy pw pw fr (k * 64) 32) (upd hs (k * 2) (nb + 1)) lo lg rt (nb + 1) fi fo en off (dcu cu) (ma + 1) h1 (dcu_ge h hn)) _) (cwV 0 hts gX1_writePage_X1_canWrite rfl rfl rfl (by decide +kernel) ⟨Nat.le_of_ble_eq_true rfl, Nat.le_of_ble_eq_true rfl⟩) (pV_B hP hD hK (ci := 1) (q0 := 0) rfl rfl rfl [0, 1] rfl [0, 1, 2, 3, 4, 5, 6] rfl rfl) rfl rfl hl.1 rfl (lv_room (Nat.le_of_ble_eq_true rfl)) dX1_writePage_26 ⟨Nat.le_of_ble_eq_true rfl, Nat.le_of_ble_eq_true rfl⟩) [0, 1, 2, 3, 4, 5, 6] [] rfl rfl rfl (by decide) (fun H locs hP hD hS => ?_)
      have hP : va_P D vwCl (wM h0 a0 a1 a2 a3 a4 a5 cI cZ th bf (va_cpy pw pw fr (k * 64) 32) (upd hs (k * 2) (nb + 1)) lo lg rt (nb + 1) (nI fi) (nI fo) (nI en) off (dcu (dcu cu)) (ma + 1 + 1)) H := hP
      have hD : va_D A (wM h0 a0 a1 a2 a3 a4 a5 cI cZ th bf (va_cpy pw pw fr (k * 64) 32) (upd hs (k * 2) (nb + 1)) lo lg rt (nb + 1) (nI fi) (nI fo) (nI en) off (dcu (dcu cu)) (ma + 1 + 1)) := hD
      refine lv_if_ne (tgt := 34) hx hb dX1_writePage_29 (by decide) (fun c_29 => ?_) (fun c_29 => absurd c_29 (by decide))
      refine lv_bipush (v := (nI 32)) hx hb dX1_writePage_34 (by decide) ?_
      refine lv_iload hx hb dX1_writePage_36 (lv_at hl 0 rfl) ?_
      refine n_imul hx hb dX1_writePage_38 ?_
      refine lv_istore (lv' := [(6, .int (nI 32)), (5, .int (nI 1)), (0, .ref h0), (1, .int (nI k)), (2, .int (nI fr)), (3, .int 0), (4, .int (nb + 1))]) hx hb dX1_writePage_39 hl (by decide) rfl (fun ls hl => ?_)
      have lp_41 : ∀ (n9 i : Nat), i + n9 = 32 → ∀ (H : Heap) (locs : List Loc) (ls : Array Slot), va_P D vwCl (wM h0 a0 a1 a2 a3 a4 a5 cI cZ th bf (va_cpy (va_cpy pw pw fr (k * 64) 32) (va_cpy pw pw fr (k * 64) 32) (fr + 32) (k * 64 + 32) i) (upd hs (k * 2) (nb + 1)) lo lg rt (nb + 1) (nI fi) (nI fo) (nI en) off (dcu (dcu cu)) (ma + 1 + 1)) H → va_D A (wM h0 a0 a1 a2 a3 a4 a5 cI cZ th bf (va_cpy (va_cpy pw pw fr (k * 64) 32) (va_cpy pw pw fr (k * 64) 32) (fr + 32) (k * 64 + 32) i) (upd hs (k * 2) (nb + 1)) lo lg rt (nb + 1) (nI fi) (nI fo) (nI en) off (dcu (dcu cu)) (ma + 1 + 1)) → va_S A s.heap H locs → lv_has ls 7 [(0, .ref h0), (1, .int (nI k)), (2, .int (nI fr)), (3, .int 0), (4, .int (nb + 1)), (5, .int (nI 1)), (6, .int (nI (32 + i)))] → W p l e (rmL 3 0 0) s m ([.ref h0, .int (nI k), .int (nI fr), .int 0] : List Value).toArray below meth c H locs 0 0 (MQ below (qcI D A (nb + 1) (wM h0 a0 a1 a2 a3 a4 a5 cI cZ th bf (va_cpy (va_cpy pw pw fr (k * 64) 32) (va_cpy pw pw fr (k * 64) 32) (fr + 32) (k * 64 + 32) 32) (upd (upd hs (k * 2) (nb + 1)) (k * 2 + 1) (nb + 1)) (upd lo k 0) lg rt (nb + 1) (nI fi) (nI fo) (nI en) off (dcu (dcu cu)) (ma + 1 + 1))) ([.ref h0, .int (nI k), .int (nI fr), .int 0] : List Value).toArray s 0 0 A) (F0 m 41 ls []) := by
        intro n9
        induction n9 with
        | zero =>
          intro i hi H locs ls hP hD hS hl
          obtain rfl : i = 32 := by omega
          refine lv_iload hx hb dX1_writePage_41 (lv_at hl 6 rfl) ?_
          refine lv_bipush (v := (nI 32)) hx hb dX1_writePage_43 (by decide) ?_
          refine lv_iload hx hb dX1_writePage_45 (lv_at hl 5 rfl) ?_
          refine n_imul hx hb dX1_writePage_47 ?_
          refine lv_bipush (v := (nI 32)) hx hb dX1_writePage_48 (by decide) ?_
          refine n_iadd hx hb dX1_writePage_50 ?_
          refine n_ge (tgt := 95) hx hb (by omega) (by omega) dX1_writePage_51 (by decide) (fun c_51 => ?_) (fun c_51 => absurd c_51 (by omega))
          refine lv_aload_n hx hb dX1_writePage_95 rfl (lv_at hl 0 rfl) ?_
          refine va_get (ci := 1) (v := .ref a2) (C := RX1) (T := TX1) (N := 14) hx hb hts inX1_writePage hown hK hP 0 rfl rfl 2 (by decide) (hts _ flX1_writePage_14) (fun _ h9 => h9) rfl dX1_writePage_96 ?_
          refine lv_iconst (v := (nI 2)) hx hb dX1_writePage_99 (by decide) ?_
          refine lv_iload_n hx hb dX1_writePage_100 rfl (lv_at hl 1 rfl) ?_
          refine n_imulc hx hb dX1_writePage_101 ?_
          refine lv_iload hx hb dX1_writePage_102 (lv_at hl 5 rfl) ?_
          refine n_iadd hx hb dX1_writePage_104 ?_
          refine lv_iload hx hb dX1_writePage_105 (lv_at hl 4 rfl) ?_
          refine n_iast hx hb hK hP hD hS 3 0 rfl rfl ((k * 2) + 1) (by omega) (by omega) dX1_writePage_107 (fun H locs hP hD hS => ?_)
          have hP : va_P D vwCl (wM h0 a0 a1 a2 a3 a4 a5 cI cZ th bf (va_cpy (va_cpy pw pw fr (k * 64) 32) (va_cpy pw pw fr (k * 64) 32) (fr + 32) (k * 64 + 32) 32) (upd (upd hs (k * 2) (nb + 1)) ((k * 2) + 1) (nb + 1)) lo lg rt (nb + 1) (nI fi) (nI fo) (nI en) off (dcu (dcu cu)) (ma + 1 + 1)) H := hP
          have hD : va_D A (wM h0 a0 a1 a2 a3 a4 a5 cI cZ th bf (va_cpy (va_cpy pw pw fr (k * 64) 32) (va_cpy pw pw fr (k * 64) 32) (fr + 32) (k * 64 + 32) 32) (upd (upd hs (k * 2) (nb + 1)) ((k * 2) + 1) (nb + 1)) lo lg rt (nb + 1) (nI fi) (nI fo) (nI en) off (dcu (dcu cu)) (ma + 1 + 1)) := hD
          refine n_iinc (lv' := [(5, .int (nI 2)), (0, .ref h0), (1, .int (nI k)), (2, .int (nI fr)), (3, .int 0), (4, .int (nb + 1)), (6, .int (nI 64))]) hx hb dX1_writePage_108 hl (k := 5) rfl (by decide) rfl (fun ls hl => ?_)
          refine lv_goto (tgt := 19) hx hb dX1_writePage_111 (by decide) ?_
          refine lv_iload hx hb dX1_writePage_19 (lv_at hl 0 rfl) ?_
          refine lv_iconst (v := (nI 2)) hx hb dX1_writePage_21 (by decide) ?_
          refine n_ge (tgt := 114) hx hb (by omega) (by omega) dX1_writePage_22 (by decide) (fun c_22 => ?_) (fun c_22 => absurd c_22 (by omega))
          refine lv_aload_n hx hb dX1_writePage_114 rfl (lv_at hl 1 rfl) ?_
          refine va_get (ci := 1) (v := .ref a3) (C := RX1) (T := TX1) (N := 14) hx hb hts inX1_writePage hown hK hP 0 rfl rfl 3 (by decide) (hts _ flX1_writePage_17) (fun _ h9 => h9) rfl dX1_writePage_115 ?_
          refine lv_iload_n hx hb dX1_writePage_118 rfl (lv_at hl 2 rfl) ?_
          refine lv_iconst (v := (0)) hx hb dX1_writePage_119 (by decide) ?_
          refine n_zast hx hb hK hP hD hS 4 1 rfl rfl k (by omega) (by omega) (by decide) dX1_writePage_120 (fun H locs hP hD hS => ?_)
          have hP : va_P D vwCl (wM h0 a0 a1 a2 a3 a4 a5 cI cZ th bf (va_cpy (va_cpy pw pw fr (k * 64) 32) (va_cpy pw pw fr (k * 64) 32) (fr + 32) (k * 64 + 32) 32) (upd (upd hs (k * 2) (nb + 1)) ((k * 2) + 1) (nb + 1)) (upd lo k 0) lg rt (nb + 1) (nI fi) (nI fo) (nI en) off (dcu (dcu cu)) (ma + 1 + 1)) H := hP
          have hD : va_D A (wM h0 a0 a1 a2 a3 a4 a5 cI cZ th bf (va_cpy (va_cpy pw pw fr (k * 64) 32) (va_cpy pw pw fr (k * 64) 32) (fr + 32) (k * 64 + 32) 32) (upd (upd hs (k * 2) (nb + 1)) ((k * 2) + 1) (nb + 1)) (upd lo k 0) lg rt (nb + 1) (nI fi) (nI fo) (nI en) off (dcu (dcu cu)) (ma + 1 + 1)) := hD
          refine lv_iload hx hb dX1_writePage_121 (lv_at hl 5 rfl) ?_
          exact e_I hx hb hr hlocks hP hD hS rfl dX1_writePage_123
        | succ n9 ih =>
          intro i hi H locs ls hP hD hS hl
          refine lv_iload hx hb dX1_writePage_41 (lv_at hl 6 rfl) ?_
          refine lv_bipush (v := (nI 32)) hx hb dX1_writePage_43 (by decide) ?_
          refine lv_iload hx hb dX1_writePage_45 (lv_at hl 5 rfl) ?_
          refine n_imul hx hb dX1_writePage_47 ?_
          refine lv_bipush (v := (nI 32)) hx hb dX1_writePage_48 (by decide) ?_
          refine n_iadd hx hb dX1_writePage_50 ?_
          refine n_ge (tgt := 95) hx hb (by omega) (by omega) dX1_writePage_51 (by decide) (fun c_51 => absurd c_51 (by omega)) (fun c_51 => ?_)
          refine lv_aload_n hx hb dX1_writePage_54 rfl (lv_at hl 0 rfl) ?_
          refine va_get (ci := 1) (v := .ref a1) (C := RX1) (T := TX1) (N := 14) hx hb hts inX1_writePage hown hK hP 0 rfl rfl 1 (by decide) (hts _ flX1_writePage_8) (fun _ h9 => h9) rfl dX1_writePage_55 ?_
          refine lv_bipush (v := (nI 64)) hx hb dX1_writePage_58 (by decide) ?_
          refine lv_iload_n hx hb dX1_writePage_60 rfl (lv_at hl 1 rfl) ?_
          refine n_imulc hx hb dX1_writePage_61 ?_
          refine lv_iload hx hb dX1_writePage_62 (lv_at hl 6 rfl) ?_
          refine n_iadd hx hb dX1_writePage_64 ?_
          refine lv_iload_n hx hb dX1_writePage_65 rfl (lv_at hl 3 rfl) ?_
          refine lv_if_eq (tgt := 79) hx hb dX1_writePage_66 (by decide) (fun c_66 => ?_) (fun c_66 => absurd (by decide) c_66)
          refine lv_aload_n hx hb dX1_writePage_79 rfl (lv_at hl 0 rfl) ?_
          refine va_get (ci := 1) (v := .ref a1) (C := RX1) (T := TX1) (N := 14) hx hb hts inX1_writePage hown hK hP 0 rfl rfl 1 (by decide) (hts _ flX1_writePage_8) (fun _ h9 => h9) rfl dX1_writePage_80 ?_
          refine lv_iload_n hx hb dX1_writePage_83 rfl (lv_at hl 2 rfl) ?_
          refine lv_iload hx hb dX1_writePage_84 (lv_at hl 6 rfl) ?_
          refine n_iadd hx hb dX1_writePage_86 ?_
          refine n_iald hx hb hK hP 2 0 rfl rfl (fr + (32 + i)) (by omega) (by omega) dX1_writePage_87 ?_
          refine n_iast hx hb hK hP hD hS 2 0 rfl rfl ((k * 64) + (32 + i)) (by omega) (by omega) dX1_writePage_88 (fun H locs hP hD hS => ?_)
          have hP : va_P D vwCl (wM h0 a0 a1 a2 a3 a4 a5 cI cZ th bf (upd (va_cpy (va_cpy pw pw fr (k * 64) 32) (va_cpy pw pw fr (k * 64) 32) (fr + 32) (k * 64 + 32) i) ((k * 64) + (32 + i)) ((va_cpy (va_cpy pw pw fr (k * 64) 32) (va_cpy pw pw fr (k * 64) 32) (fr + 32) (k * 64 + 32) i) (fr + (32 + i)))) (upd hs (k * 2) (nb + 1)) lo lg rt (nb + 1) (nI fi) (nI fo) (nI en) off (dcu (dcu cu)) (ma + 1 + 1)) H := hP
          have hD : va_D A (wM h0 a0 a1 a2 a3 a4 a5 cI cZ th bf (upd (va_cpy (va_cpy pw pw fr (k * 64) 32) (va_cpy pw pw fr (k * 64) 32) (fr + 32) (k * 64 + 32) i) ((k * 64) + (32 + i)) ((va_cpy (va_cpy pw pw fr (k * 64) 32) (va_cpy pw pw fr (k * 64) 32) (fr + 32) (k * 64 + 32) i) (fr + (32 + i)))) (upd hs (k * 2) (nb + 1)) lo lg rt (nb + 1) (nI fi) (nI fo) (nI en) off (dcu (dcu cu)) (ma + 1 + 1)) := hD
          refine n_iinc (lv' := [(6, .int (nI ((32 + i) + 1))), (0, .ref h0), (1, .int (nI k)), (2, .int (nI fr)), (3, .int 0), (4, .int (nb + 1)), (5, .int (nI 1))]) hx hb dX1_writePage_89 hl (k := 6) rfl (by decide) rfl (fun ls hl => ?_)
          refine lv_goto (tgt := 41) hx hb dX1_writePage_92 (by decide) ?_
          have e9 : upd (va_cpy (va_cpy pw pw fr (k * 64) 32) (va_cpy pw pw fr (k * 64) 32) (fr + 32) (k * 64 + 32) i) ((k * 64) + (32 + i)) ((va_cpy (va_cpy pw pw fr (k * 64) 32) (va_cpy pw pw fr (k * 64) 32) (fr + 32) (k * 64 + 32) i) (fr + (32 + i))) = va_cpy (va_cpy pw pw fr (k * 64) 32) (va_cpy pw pw fr (k * 64) 32) (fr + 32) (k * 64 + 32) (i + 1) := cpy_t (by omega) ((pk_cpy_out (by omega)).trans (by rw [show fr + (32 + i) = (fr + 32) + i from by omega]))
          have hP : va_P D vwCl (wM h0 a0 a1 a2 a3 a4 a5 cI cZ th bf (va_cpy (va_cpy pw pw fr (k * 64) 32) (va_cpy pw pw fr (k * 64) 32) (fr + 32) (k * 64 + 32) (i + 1)) (upd hs (k * 2) (nb + 1)) lo lg rt (nb + 1) (nI fi) (nI fo) (nI en) off (dcu (dcu cu)) (ma + 1 + 1)) H := by rw [← e9]; exact hP
          have hD : va_D A (wM h0 a0 a1 a2 a3 a4 a5 cI cZ th bf (va_cpy (va_cpy pw pw fr (k * 64) 32) (va_cpy pw pw fr (k * 64) 32) (fr + 32) (k * 64 + 32) (i + 1)) (upd hs (k * 2) (nb + 1)) lo lg rt (nb + 1) (nI fi) (nI fo) (nI en) off (dcu (dcu cu)) (ma + 1 + 1)) := by rw [← e9]; exact hD
          exact ih (i + 1) (by omega) _ _ _ hP hD hS (lv_sub hl [1, 2, 3, 4, 5, 6, 0] rfl)
      have hP : va_P D vwCl (wM h0 a0 a1 a2 a3 a4 a5 cI cZ th bf (va_cpy (va_cpy pw pw fr (k * 64) 32) (va_cpy pw pw fr (k * 64) 32) (fr + 32) (k * 64 + 32) 0) (upd hs (k * 2) (nb + 1)) lo lg rt (nb + 1) (nI fi) (nI fo) (nI en) off (dcu (dcu cu)) (ma + 1 + 1)) H := by rw [cpy_0]; exact hP
      have hD : va_D A (wM h0 a0 a1 a2 a3 a4 a5 cI cZ th bf (va_cpy (va_cpy pw pw fr (k * 64) 32) (va_cpy pw pw fr (k * 64) 32) (fr + 32) (k * 64 + 32) 0) (upd hs (k * 2) (nb + 1)) lo lg rt (nb + 1) (nI fi) (nI fo) (nI en) off (dcu (dcu cu)) (ma + 1 + 1)) := by rw [cpy_0]; exact hD
      exact lp_41 32 0 (by omega) _ _ _ hP hD hS (lv_sub hl [2, 3, 4, 5, 6, 1, 0] rfl)
    | succ n9 ih =>
      intro i hi H locs ls hP hD hS hl
      refine lv_iload hx hb dX1_writePage_41 (lv_at hl 6 rfl) ?_
      refine lv_bipush (v := (nI 32)) hx hb dX1_writePage_43 (by decide) ?_
      refine lv_iload hx hb dX1_writePage_45 (lv_at hl 5 rfl) ?_
      refine n_imul hx hb dX1_writePage_47 ?_
      refine lv_bipush (v := (nI 32)) hx hb dX1_writePage_48 (by decide) ?_
      refine n_iadd hx hb dX1_writePage_50 ?_
      refine n_ge (tgt := 95) hx hb (by omega) (by omega) dX1_writePage_51 (by decide) (fun c_51 => absurd c_51 (by omega)) (fun c_51 => ?_)
      refine lv_aload_n hx hb dX1_writePage_54 rfl (lv_at hl 0 rfl) ?_
      refine va_get (ci := 1) (v := .ref a1) (C := RX1) (T := TX1) (N := 14) hx hb hts inX1_writePage hown hK hP 0 rfl rfl 1 (by decide) (hts _ flX1_writePage_8) (fun _ h9 => h9) rfl dX1_writePage_55 ?_
      refine lv_bipush (v := (nI 64)) hx hb dX1_writePage_58 (by decide) ?_
      refine lv_iload_n hx hb dX1_writePage_60 rfl (lv_at hl 1 rfl) ?_
      refine n_imulc hx hb dX1_writePage_61 ?_
      refine lv_iload hx hb dX1_writePage_62 (lv_at hl 6 rfl) ?_
      refine n_iadd hx hb dX1_writePage_64 ?_
      refine lv_iload_n hx hb dX1_writePage_65 rfl (lv_at hl 3 rfl) ?_
      refine lv_if_eq (tgt := 79) hx hb dX1_writePage_66 (by decide) (fun c_66 => ?_) (fun c_66 => absurd (by decide) c_66)
      refine lv_aload_n hx hb dX1_writePage_79 rfl (lv_at hl 0 rfl) ?_
      refine va_get (ci := 1) (v := .ref a1) (C := RX1) (T := TX1) (N := 14) hx hb hts inX1_writePage hown hK hP 0 rfl rfl 1 (by decide) (hts _ flX1_writePage_8) (fun _ h9 => h9) rfl dX1_writePage_80 ?_
      refine lv_iload_n hx hb dX1_writePage_83 rfl (lv_at hl 2 rfl) ?_
      refine lv_iload hx hb dX1_writePage_84 (lv_at hl 6 rfl) ?_
      refine n_iadd hx hb dX1_writePage_86 ?_
      refine n_iald hx hb hK hP 2 0 rfl rfl (fr + i) (by omega) (by omega) dX1_writePage_87 ?_
      refine n_iast hx hb hK hP hD hS 2 0 rfl rfl ((k * 64) + i) (by omega) (by omega) dX1_writePage_88 (fun H locs hP hD hS => ?_)
      have hP : va_P D vwCl (wM h0 a0 a1 a2 a3 a4 a5 cI cZ th bf (upd (va_cpy pw pw fr (k * 64) i) ((k * 64) + i) ((va_cpy pw pw fr (k * 64) i) (fr + i))) hs lo lg rt (nb + 1) (nI fi) (nI fo) (nI en) off (dcu cu) (ma + 1)) H := hP
      have hD : va_D A (wM h0 a0 a1 a2 a3 a4 a5 cI cZ th bf (upd (va_cpy pw pw fr (k * 64) i) ((k * 64) + i) ((va_cpy pw pw fr (k * 64) i) (fr + i))) hs lo lg rt (nb + 1) (nI fi) (nI fo) (nI en) off (dcu cu) (ma + 1)) := hD
      refine n_iinc (lv' := [(6, .int (nI (i + 1))), (0, .ref h0), (1, .int (nI k)), (2, .int (nI fr)), (3, .int 0), (4, .int (nb + 1)), (5, .int (nI 0))]) hx hb dX1_writePage_89 hl (k := 6) rfl (by decide) rfl (fun ls hl => ?_)
      refine lv_goto (tgt := 41) hx hb dX1_writePage_92 (by decide) ?_
      have e9 : upd (va_cpy pw pw fr (k * 64) i) ((k * 64) + i) ((va_cpy pw pw fr (k * 64) i) (fr + i)) = va_cpy pw pw fr (k * 64) (i + 1) := cpy_t (by omega) (pk_cpy_out (by omega))
      have hP : va_P D vwCl (wM h0 a0 a1 a2 a3 a4 a5 cI cZ th bf (va_cpy pw pw fr (k * 64) (i + 1)) hs lo lg rt (nb + 1) (nI fi) (nI fo) (nI en) off (dcu cu) (ma + 1)) H := by rw [← e9]; exact hP
      have hD : va_D A (wM h0 a0 a1 a2 a3 a4 a5 cI cZ th bf (va_cpy pw pw fr (k * 64) (i + 1)) hs lo lg rt (nb + 1) (nI fi) (nI fo) (nI en) off (dcu cu) (ma + 1)) := by rw [← e9]; exact hD
      exact ih (i + 1) (by omega) _ _ _ hP hD hS (lv_sub hl [1, 2, 3, 4, 5, 6, 0] rfl)
  have hP : va_P D vwCl (wM h0 a0 a1 a2 a3 a4 a5 cI cZ th bf (va_cpy pw pw fr (k * 64) 0) hs lo lg rt (nb + 1) (nI fi) (nI fo) (nI en) off (dcu cu) (ma + 1)) H := by rw [cpy_0]; exact hP
  have hD : va_D A (wM h0 a0 a1 a2 a3 a4 a5 cI cZ th bf (va_cpy pw pw fr (k * 64) 0) hs lo lg rt (nb + 1) (nI fi) (nI fo) (nI en) off (dcu cu) (ma + 1)) := by rw [cpy_0]; exact hD
  exact lp_41 32 0 (by omega) _ _ _ hP hD hS (lv_sub hl [3, 4, 5, 6, 2, 1, 0] rfl)
