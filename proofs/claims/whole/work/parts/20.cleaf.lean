/-! OWN ROWS, by program: the class, its small methods -/
theorem ix_nlt {x : Int32} {N : Nat} (h : x < 0 ∨ nI N ≤ x) (h2 : ¬ x < 0) : ¬ x < nI N := by
  rcases h with h | h
  · exact absurd h h2
  · exact Int32.not_lt.mpr h
theorem pl_nle {x f t : Int32} (h : x < f ∨ t < x) (h2 : ¬ x < f) : ¬ x ≤ t := by
  rcases h with h | h
  · exact absurd h h2
  · exact Int32.not_le.mpr h
set_option maxHeartbeats 4000000 in
set_option maxRecDepth 100000 in
theorem tX0_needPower_ok {l : Launch} {D : va_G} {cI cZ : ClassId} {h0 a0 a1 a2 a3 a4 a5 : Nat} (bf pw hs lo lg rt : Nat → Int32) (nb : Int32) (fi fo en : Nat) (cu ma : Int32) : RV l yX0_needPower wsX0_needPower 6 0 0 D (tyC cI cZ) (wC h0 a0 a1 a2 a3 a4 a5 cI cZ bf pw hs lo lg rt nb (nI fi) (nI fo) (nI en) 1 cu ma) [.ref h0] (wC h0 a0 a1 a2 a3 a4 a5 cI cZ bf pw hs lo lg rt nb (nI fi) (nI fo) (nI en) 1 cu ma) := by
  refine st_V (cc := cX0_needPower) (maxL := 1) (ret := none) (by decide +kernel) rfl (Nat.le_of_ble_eq_true rfl) ?_
  intro p e s m below meth c A hx hb hr hts hown hml hlocks hK hP hD hA hS ls hl
  have hown : s.vm.findClass RX0 = some m.cls := hown
  have hl : lv_has ls 1 [(0, .ref h0)] := hl
  refine lv_aload_n hx hb dX0_needPower_0 rfl (lv_at hl 0 rfl) ?_
  refine va_get (ci := 0) (v := .int 1) (C := RX0) (T := TX0) (N := 13) hx hb hts inX0_needPower hown hK hP 0 rfl rfl 10 (by decide) (hts _ flX0_needPower_31) (fun _ h9 => h9) rfl dX0_needPower_1 ?_
  refine lv_if_ne (tgt := 17) hx hb dX0_needPower_4 (by decide) (fun c_4 => ?_) (fun c_4 => absurd c_4 (by decide))
  exact e_V hx hb hr hlocks hP hD hS dX0_needPower_17
set_option maxHeartbeats 4000000 in
set_option maxRecDepth 100000 in
theorem tX0_needPower_x {l : Launch} {D : va_G} {cI cZ : ClassId} {h0 a0 a1 a2 a3 a4 a5 : Nat} (hl0 : l.stackTraces = false) (bf pw hs lo lg rt : Nat → Int32) (nb : Int32) (fi fo en : Nat) (cu ma : Int32) : RX l yX0_needPower wsX0_needPower 6 D (tyC cI cZ) (wC h0 a0 a1 a2 a3 a4 a5 cI cZ bf pw hs lo lg rt nb (nI fi) (nI fo) (nI en) 0 cu ma) [.ref h0] xISE := by
  refine st_X (cc := cX0_needPower) (maxL := 1) (ret := none) (by decide +kernel) rfl (Nat.le_of_ble_eq_true rfl) ?_
  intro p e s m below meth c A hx hb hr hts hown hml hlocks hK hP hD hA hS ls hl hT hex
  have hown : s.vm.findClass RX0 = some m.cls := hown
  have hl : lv_has ls 1 [(0, .ref h0)] := hl
  refine lv_aload_n hx hb dX0_needPower_0 rfl (lv_at hl 0 rfl) ?_
  refine va_get (ci := 0) (v := .int 0) (C := RX0) (T := TX0) (N := 13) hx hb hts inX0_needPower hown hK hP 0 rfl rfl 10 (by decide) (hts _ flX0_needPower_31) (fun _ h9 => h9) rfl dX0_needPower_1 ?_
  refine lv_if_ne (tgt := 17) hx hb dX0_needPower_4 (by decide) (fun c_4 => absurd (by decide) c_4) (fun c_4 => ?_)
  exact e_X (text := "power is off") hx hb hl0 hown rfl hts (by decide +kernel) thX0_needPower_k thX0_needPower_i thX0_needPower_g xNg_xISE xGd_xISE (by decide) hT hlocks hex hP hD hS hl.1 hml dX0_needPower_7 dX0_needPower_10 dX0_needPower_11 dX0_needPower_13 dX0_needPower_16 (Nat.le_of_ble_eq_true rfl) (Nat.le_of_ble_eq_true rfl) (Nat.le_of_ble_eq_true rfl) (Nat.le_of_ble_eq_true rfl) (Nat.le_of_ble_eq_true rfl) (Nat.le_of_ble_eq_true rfl)
set_option maxHeartbeats 4000000 in
set_option maxRecDepth 100000 in
theorem tX0_needIndex_ok {l : Launch} {D : va_G} (k N : Nat) (hk : k < N) (hN : N < 2 ^ 31) : RV l yX0_needIndex wsX0_needIndex 6 0 0 D [] ([]) [.int (nI k), .int (nI N)] ([]) := by
  refine st_V (cc := cX0_needIndex) (maxL := 2) (ret := none) (by decide +kernel) rfl (Nat.le_of_ble_eq_true rfl) ?_
  intro p e s m below meth c A hx hb hr hts hown hml hlocks hK hP hD hA hS ls hl
  have hown : s.vm.findClass RX0 = some m.cls := hown
  have hl : lv_has ls 2 [(0, .int (nI k)), (1, .int (nI N))] := hl
  refine lv_iload_n hx hb dX0_needIndex_0 rfl (lv_at hl 0 rfl) ?_
  refine lv_if_lt (tgt := 9) hx hb dX0_needIndex_1 (by decide) (fun c_1 => absurd c_1 (nI_pos (by omega))) (fun c_1 => ?_)
  refine lv_iload_n hx hb dX0_needIndex_4 rfl (lv_at hl 0 rfl) ?_
  refine lv_iload_n hx hb dX0_needIndex_5 rfl (lv_at hl 1 rfl) ?_
  refine n_lt (tgt := 19) hx hb (by omega) (by omega) dX0_needIndex_6 (by decide) (fun c_6 => ?_) (fun c_6 => absurd c_6 (by omega))
  exact e_V hx hb hr hlocks hP hD hS dX0_needIndex_19
set_option maxHeartbeats 4000000 in
set_option maxRecDepth 100000 in
theorem tX0_needIndex_x {l : Launch} {D : va_G} (hl0 : l.stackTraces = false) (x : Int32) (N : Nat) (h : x < 0 ∨ nI N ≤ x) : RX l yX0_needIndex wsX0_needIndex 6 D [] ([]) [.int x, .int (nI N)] xIOB := by
  refine st_X (cc := cX0_needIndex) (maxL := 2) (ret := none) (by decide +kernel) rfl (Nat.le_of_ble_eq_true rfl) ?_
  intro p e s m below meth c A hx hb hr hts hown hml hlocks hK hP hD hA hS ls hl hT hex
  have hown : s.vm.findClass RX0 = some m.cls := hown
  have hl : lv_has ls 2 [(0, .int x), (1, .int (nI N))] := hl
  refine lv_iload_n hx hb dX0_needIndex_0 rfl (lv_at hl 0 rfl) ?_
  refine lv_if_lt (tgt := 9) hx hb dX0_needIndex_1 (by decide) (fun c_1 => ?_) (fun c_1 => ?_)
  · exact e_X (text := "no such area, page, half, state, word or root") hx hb hl0 hown rfl hts (by decide +kernel) thX0_needIndex_k thX0_needIndex_i thX0_needIndex_g xNg_xIOB xGd_xIOB (by decide) hT hlocks hex hP hD hS hl.1 hml dX0_needIndex_9 dX0_needIndex_12 dX0_needIndex_13 dX0_needIndex_15 dX0_needIndex_18 (Nat.le_of_ble_eq_true rfl) (Nat.le_of_ble_eq_true rfl) (Nat.le_of_ble_eq_true rfl) (Nat.le_of_ble_eq_true rfl) (Nat.le_of_ble_eq_true rfl) (Nat.le_of_ble_eq_true rfl)
  · refine lv_iload_n hx hb dX0_needIndex_4 rfl (lv_at hl 0 rfl) ?_
    refine lv_iload_n hx hb dX0_needIndex_5 rfl (lv_at hl 1 rfl) ?_
    refine lv_icmp_lt (tgt := 19) hx hb dX0_needIndex_6 (by decide) (fun c_6 => absurd c_6 (ix_nlt h c_1)) (fun c_6 => ?_)
    exact e_X (text := "no such area, page, half, state, word or root") hx hb hl0 hown rfl hts (by decide +kernel) thX0_needIndex_k thX0_needIndex_i thX0_needIndex_g xNg_xIOB xGd_xIOB (by decide) hT hlocks hex hP hD hS hl.1 hml dX0_needIndex_9 dX0_needIndex_12 dX0_needIndex_13 dX0_needIndex_15 dX0_needIndex_18 (Nat.le_of_ble_eq_true rfl) (Nat.le_of_ble_eq_true rfl) (Nat.le_of_ble_eq_true rfl) (Nat.le_of_ble_eq_true rfl) (Nat.le_of_ble_eq_true rfl) (Nat.le_of_ble_eq_true rfl)
set_option maxHeartbeats 4000000 in
set_option maxRecDepth 100000 in
theorem tX0_needWordCount_ok {l : Launch} {D : va_G} (k : Nat) (hk : 1 ≤ k) (hN : k ≤ 64) : RV l yX0_needWordCount wsX0_needWordCount 6 0 0 D [] ([]) [.int (nI k)] ([]) := by
  refine st_V (cc := cX0_needWordCount) (maxL := 1) (ret := none) (by decide +kernel) rfl (Nat.le_of_ble_eq_true rfl) ?_
  intro p e s m below meth c A hx hb hr hts hown hml hlocks hK hP hD hA hS ls hl
  have hown : s.vm.findClass RX0 = some m.cls := hown
  have hl : lv_has ls 1 [(0, .int (nI k))] := hl
  refine lv_iload_n hx hb dX0_needWordCount_0 rfl (lv_at hl 0 rfl) ?_
  refine lv_iconst (v := (nI 1)) hx hb dX0_needWordCount_1 (by decide) ?_
  refine n_lt (tgt := 11) hx hb (by omega) (by omega) dX0_needWordCount_2 (by decide) (fun c_2 => absurd c_2 (by omega)) (fun c_2 => ?_)
  refine lv_iload_n hx hb dX0_needWordCount_5 rfl (lv_at hl 0 rfl) ?_
  refine lv_bipush (v := (nI 64)) hx hb dX0_needWordCount_6 (by decide) ?_
  refine n_le (tgt := 21) hx hb (by omega) (by omega) dX0_needWordCount_8 (by decide) (fun c_8 => ?_) (fun c_8 => absurd c_8 (by omega))
  exact e_V hx hb hr hlocks hP hD hS dX0_needWordCount_21
set_option maxHeartbeats 4000000 in
set_option maxRecDepth 100000 in
theorem tX0_needWordCount_x {l : Launch} {D : va_G} (hl0 : l.stackTraces = false) (x : Int32) (h : x < nI 1 ∨ nI 64 < x) : RX l yX0_needWordCount wsX0_needWordCount 6 D [] ([]) [.int x] xIAE := by
  refine st_X (cc := cX0_needWordCount) (maxL := 1) (ret := none) (by decide +kernel) rfl (Nat.le_of_ble_eq_true rfl) ?_
  intro p e s m below meth c A hx hb hr hts hown hml hlocks hK hP hD hA hS ls hl hT hex
  have hown : s.vm.findClass RX0 = some m.cls := hown
  have hl : lv_has ls 1 [(0, .int x)] := hl
  refine lv_iload_n hx hb dX0_needWordCount_0 rfl (lv_at hl 0 rfl) ?_
  refine lv_iconst (v := (nI 1)) hx hb dX0_needWordCount_1 (by decide) ?_
  refine lv_icmp_lt (tgt := 11) hx hb dX0_needWordCount_2 (by decide) (fun c_2 => ?_) (fun c_2 => ?_)
  · exact e_X (text := "not 1 to 64 words") hx hb hl0 hown rfl hts (by decide +kernel) thX0_needWordCount_k thX0_needWordCount_i thX0_needWordCount_g xNg_xIAE xGd_xIAE (by decide) hT hlocks hex hP hD hS hl.1 hml dX0_needWordCount_11 dX0_needWordCount_14 dX0_needWordCount_15 dX0_needWordCount_17 dX0_needWordCount_20 (Nat.le_of_ble_eq_true rfl) (Nat.le_of_ble_eq_true rfl) (Nat.le_of_ble_eq_true rfl) (Nat.le_of_ble_eq_true rfl) (Nat.le_of_ble_eq_true rfl) (Nat.le_of_ble_eq_true rfl)
  · refine lv_iload_n hx hb dX0_needWordCount_5 rfl (lv_at hl 0 rfl) ?_
    refine lv_bipush (v := (nI 64)) hx hb dX0_needWordCount_6 (by decide) ?_
    refine lv_icmp_le (tgt := 21) hx hb dX0_needWordCount_8 (by decide) (fun c_8 => absurd c_8 (pl_nle h c_2)) (fun c_8 => ?_)
    exact e_X (text := "not 1 to 64 words") hx hb hl0 hown rfl hts (by decide +kernel) thX0_needWordCount_k thX0_needWordCount_i thX0_needWordCount_g xNg_xIAE xGd_xIAE (by decide) hT hlocks hex hP hD hS hl.1 hml dX0_needWordCount_11 dX0_needWordCount_14 dX0_needWordCount_15 dX0_needWordCount_17 dX0_needWordCount_20 (Nat.le_of_ble_eq_true rfl) (Nat.le_of_ble_eq_true rfl) (Nat.le_of_ble_eq_true rfl) (Nat.le_of_ble_eq_true rfl) (Nat.le_of_ble_eq_true rfl) (Nat.le_of_ble_eq_true rfl)
set_option maxHeartbeats 4000000 in
set_option maxRecDepth 100000 in
theorem tX0_needPlace_ok {l : Launch} {D : va_G} {cI cZ : ClassId} {h0 a0 a1 a2 a3 a4 a5 : Nat} (bf pw hs lo lg rt : Nat → Int32) (nb : Int32) (fi fo en : Nat) (on cu ma : Int32) (k t : Nat) (h1 : fi ≤ k) (h2 : k ≤ t) (ht : t < 2 ^ 31) : RV l yX0_needPlace wsX0_needPlace 6 0 0 D (tyC cI cZ) (wC h0 a0 a1 a2 a3 a4 a5 cI cZ bf pw hs lo lg rt nb (nI fi) (nI fo) (nI en) on cu ma) [.ref h0, .int (nI k), .int (nI t)] (wC h0 a0 a1 a2 a3 a4 a5 cI cZ bf pw hs lo lg rt nb (nI fi) (nI fo) (nI en) on cu ma) := by
  refine st_V (cc := cX0_needPlace) (maxL := 3) (ret := none) (by decide +kernel) rfl (Nat.le_of_ble_eq_true rfl) ?_
  intro p e s m below meth c A hx hb hr hts hown hml hlocks hK hP hD hA hS ls hl
  have hown : s.vm.findClass RX0 = some m.cls := hown
  have hl : lv_has ls 3 [(0, .ref h0), (1, .int (nI k)), (2, .int (nI t))] := hl
  refine lv_iload_n hx hb dX0_needPlace_0 rfl (lv_at hl 1 rfl) ?_
  refine lv_aload_n hx hb dX0_needPlace_1 rfl (lv_at hl 0 rfl) ?_
  refine va_get (ci := 0) (v := .int (nI fi)) (C := RX0) (T := TX0) (N := 13) hx hb hts inX0_needPlace hown hK hP 0 rfl rfl 6 (by decide) (hts _ flX0_needPlace_87) (fun _ h9 => h9) rfl dX0_needPlace_2 ?_
  refine n_lt (tgt := 13) hx hb (by omega) (by omega) dX0_needPlace_5 (by decide) (fun c_5 => absurd c_5 (by omega)) (fun c_5 => ?_)
  refine lv_iload_n hx hb dX0_needPlace_8 rfl (lv_at hl 1 rfl) ?_
  refine lv_iload_n hx hb dX0_needPlace_9 rfl (lv_at hl 2 rfl) ?_
  refine n_le (tgt := 23) hx hb (by omega) (by omega) dX0_needPlace_10 (by decide) (fun c_10 => ?_) (fun c_10 => absurd c_10 (by omega))
  exact e_V hx hb hr hlocks hP hD hS dX0_needPlace_23
set_option maxHeartbeats 4000000 in
set_option maxRecDepth 100000 in
theorem tX0_needPlace_x {l : Launch} {D : va_G} {cI cZ : ClassId} {h0 a0 a1 a2 a3 a4 a5 : Nat} (hl0 : l.stackTraces = false) (bf pw hs lo lg rt : Nat → Int32) (nb : Int32) (fi fo en : Nat) (on cu ma : Int32) (x t : Int32) (h : x < nI fi ∨ t < x) : RX l yX0_needPlace wsX0_needPlace 6 D (tyC cI cZ) (wC h0 a0 a1 a2 a3 a4 a5 cI cZ bf pw hs lo lg rt nb (nI fi) (nI fo) (nI en) on cu ma) [.ref h0, .int x, .int t] xIAE := by
  refine st_X (cc := cX0_needPlace) (maxL := 3) (ret := none) (by decide +kernel) rfl (Nat.le_of_ble_eq_true rfl) ?_
  intro p e s m below meth c A hx hb hr hts hown hml hlocks hK hP hD hA hS ls hl hT hex
  have hown : s.vm.findClass RX0 = some m.cls := hown
  have hl : lv_has ls 3 [(0, .ref h0), (1, .int x), (2, .int t)] := hl
  refine lv_iload_n hx hb dX0_needPlace_0 rfl (lv_at hl 1 rfl) ?_
  refine lv_aload_n hx hb dX0_needPlace_1 rfl (lv_at hl 0 rfl) ?_
  refine va_get (ci := 0) (v := .int (nI fi)) (C := RX0) (T := TX0) (N := 13) hx hb hts inX0_needPlace hown hK hP 0 rfl rfl 6 (by decide) (hts _ flX0_needPlace_87) (fun _ h9 => h9) rfl dX0_needPlace_2 ?_
  refine lv_icmp_lt (tgt := 13) hx hb dX0_needPlace_5 (by decide) (fun c_5 => ?_) (fun c_5 => ?_)
  · exact e_X (text := "the log has no such place") hx hb hl0 hown rfl hts (by decide +kernel) thX0_needPlace_k thX0_needPlace_i thX0_needPlace_g xNg_xIAE xGd_xIAE (by decide) hT hlocks hex hP hD hS hl.1 hml dX0_needPlace_13 dX0_needPlace_16 dX0_needPlace_17 dX0_needPlace_19 dX0_needPlace_22 (Nat.le_of_ble_eq_true rfl) (Nat.le_of_ble_eq_true rfl) (Nat.le_of_ble_eq_true rfl) (Nat.le_of_ble_eq_true rfl) (Nat.le_of_ble_eq_true rfl) (Nat.le_of_ble_eq_true rfl)
  · refine lv_iload_n hx hb dX0_needPlace_8 rfl (lv_at hl 1 rfl) ?_
    refine lv_iload_n hx hb dX0_needPlace_9 rfl (lv_at hl 2 rfl) ?_
    refine lv_icmp_le (tgt := 23) hx hb dX0_needPlace_10 (by decide) (fun c_10 => absurd c_10 (pl_nle h c_5)) (fun c_10 => ?_)
    exact e_X (text := "the log has no such place") hx hb hl0 hown rfl hts (by decide +kernel) thX0_needPlace_k thX0_needPlace_i thX0_needPlace_g xNg_xIAE xGd_xIAE (by decide) hT hlocks hex hP hD hS hl.1 hml dX0_needPlace_13 dX0_needPlace_16 dX0_needPlace_17 dX0_needPlace_19 dX0_needPlace_22 (Nat.le_of_ble_eq_true rfl) (Nat.le_of_ble_eq_true rfl) (Nat.le_of_ble_eq_true rfl) (Nat.le_of_ble_eq_true rfl) (Nat.le_of_ble_eq_true rfl) (Nat.le_of_ble_eq_true rfl)
set_option maxHeartbeats 4000000 in
set_option maxRecDepth 100000 in
theorem tX0_needPage_ok {l : Launch} {D : va_G} {cI cZ : ClassId} {h0 a0 a1 a2 a3 a4 a5 : Nat} (bf pw hs lo lg rt : Nat → Int32) (nb : Int32) (fi fo en : Nat) (on cu ma : Int32) (ar pg : Nat) (h1 : ar < 2) (h2 : pg < 256) : RV l yX0_needPage wsX0_needPage 7 0 0 D (tyC cI cZ) (wC h0 a0 a1 a2 a3 a4 a5 cI cZ bf pw hs lo lg rt nb (nI fi) (nI fo) (nI en) on cu ma) [.ref h0, .int (nI ar), .int (nI pg)] (wC h0 a0 a1 a2 a3 a4 a5 cI cZ bf pw hs lo lg rt nb (nI fi) (nI fo) (nI en) on cu ma) := by
  refine st_V (cc := cX0_needPage) (maxL := 3) (ret := none) (by decide +kernel) rfl (Nat.le_of_ble_eq_true rfl) ?_
  intro p e s m below meth c A hx hb hr hts hown hml hlocks hK hP hD hA hS ls hl
  have hown : s.vm.findClass RX0 = some m.cls := hown
  have hl : lv_has ls 3 [(0, .ref h0), (1, .int (nI ar)), (2, .int (nI pg))] := hl
  refine lv_iload_n hx hb dX0_needPage_0 rfl (lv_at hl 1 rfl) ?_
  refine lv_iconst (v := (nI 2)) hx hb dX0_needPage_1 (by decide) ?_
  refine k_V (wr := wC h0 a0 a1 a2 a3 a4 a5 cI cZ bf pw hs lo lg rt nb (nI fi) (nI fo) (nI en) on cu ma) hP hD hS hA (va_runS (As := [.int (nI ar), .int (nI 2)]) (rest := []) ⟨hx, hb, hml, hown, hts⟩ ((tX0_needIndex_ok ar 2 (by omega) (by omega)) _) (va_cwS 2 hts gX0_needPage_X0_needIndex rfl rfl rfl (by decide +kernel) ⟨Nat.le_of_ble_eq_true rfl, Nat.le_of_ble_eq_true rfl⟩) (pS_B hP hD hK [] rfl [] rfl rfl) rfl rfl hl.1 rfl (lv_room (Nat.le_of_ble_eq_true rfl)) dX0_needPage_2 ⟨Nat.le_of_ble_eq_true rfl, Nat.le_of_ble_eq_true rfl⟩) [] [0, 1, 2, 3, 4, 5, 6] rfl rfl rfl (by decide) (fun H locs hP hD hS => ?_)
  have hP : va_P D vwCl (wC h0 a0 a1 a2 a3 a4 a5 cI cZ bf pw hs lo lg rt nb (nI fi) (nI fo) (nI en) on cu ma) H := hP
  have hD : va_D A (wC h0 a0 a1 a2 a3 a4 a5 cI cZ bf pw hs lo lg rt nb (nI fi) (nI fo) (nI en) on cu ma) := hD
  refine lv_iload_n hx hb dX0_needPage_5 rfl (lv_at hl 2 rfl) ?_
  refine lv_sipush (v := (nI 256)) hx hb dX0_needPage_6 (by decide) ?_
  refine k_V (wr := wC h0 a0 a1 a2 a3 a4 a5 cI cZ bf pw hs lo lg rt nb (nI fi) (nI fo) (nI en) on cu ma) hP hD hS hA (va_runS (As := [.int (nI pg), .int (nI 256)]) (rest := []) ⟨hx, hb, hml, hown, hts⟩ ((tX0_needIndex_ok pg 256 (by omega) (by omega)) _) (va_cwS 2 hts gX0_needPage_X0_needIndex rfl rfl rfl (by decide +kernel) ⟨Nat.le_of_ble_eq_true rfl, Nat.le_of_ble_eq_true rfl⟩) (pS_B hP hD hK [] rfl [] rfl rfl) rfl rfl hl.1 rfl (lv_room (Nat.le_of_ble_eq_true rfl)) dX0_needPage_9 ⟨Nat.le_of_ble_eq_true rfl, Nat.le_of_ble_eq_true rfl⟩) [] [0, 1, 2, 3, 4, 5, 6] rfl rfl rfl (by decide) (fun H locs hP hD hS => ?_)
  have hP : va_P D vwCl (wC h0 a0 a1 a2 a3 a4 a5 cI cZ bf pw hs lo lg rt nb (nI fi) (nI fo) (nI en) on cu ma) H := hP
  have hD : va_D A (wC h0 a0 a1 a2 a3 a4 a5 cI cZ bf pw hs lo lg rt nb (nI fi) (nI fo) (nI en) on cu ma) := hD
  exact e_V hx hb hr hlocks hP hD hS dX0_needPage_12
set_option maxHeartbeats 4000000 in
set_option maxRecDepth 100000 in
theorem tX0_needPage_x1 {l : Launch} {D : va_G} {cI cZ : ClassId} {h0 a0 a1 a2 a3 a4 a5 : Nat} (hl0 : l.stackTraces = false) (bf pw hs lo lg rt : Nat → Int32) (nb : Int32) (fi fo en : Nat) (on cu ma : Int32) (x y : Int32) (h : x < 0 ∨ nI 2 ≤ x) : RX l yX0_needPage wsX0_needPage 7 D (tyC cI cZ) (wC h0 a0 a1 a2 a3 a4 a5 cI cZ bf pw hs lo lg rt nb (nI fi) (nI fo) (nI en) on cu ma) [.ref h0, .int x, .int y] xIOB := by
  refine st_X (cc := cX0_needPage) (maxL := 3) (ret := none) (by decide +kernel) rfl (Nat.le_of_ble_eq_true rfl) ?_
  intro p e s m below meth c A hx hb hr hts hown hml hlocks hK hP hD hA hS ls hl hT hex
  have hown : s.vm.findClass RX0 = some m.cls := hown
  have hl : lv_has ls 3 [(0, .ref h0), (1, .int x), (2, .int y)] := hl
  refine lv_iload_n hx hb dX0_needPage_0 rfl (lv_at hl 1 rfl) ?_
  refine lv_iconst (v := (nI 2)) hx hb dX0_needPage_1 (by decide) ?_
  exact k_XX hlocks hex (Nat.le_of_ble_eq_true rfl) (Nat.le_of_ble_eq_true rfl) (wr := wC h0 a0 a1 a2 a3 a4 a5 cI cZ bf pw hs lo lg rt nb (nI fi) (nI fo) (nI en) on cu ma) hP hD hS hA (vx_runS (As := [.int x, .int (nI 2)]) (rest := []) ⟨hx, hb, hml, hown, hts⟩ ((tX0_needIndex_x hl0 x 2 h) _) (va_cwS 2 hts gX0_needPage_X0_needIndex rfl rfl rfl (by decide +kernel) ⟨Nat.le_of_ble_eq_true rfl, Nat.le_of_ble_eq_true rfl⟩) (pS_X hP hD hK hS hA hT [] rfl [] rfl rfl) rfl rfl hl.1 rfl (lv_room (Nat.le_of_ble_eq_true rfl)) dX0_needPage_2 ⟨Nat.le_of_ble_eq_true rfl, Nat.le_of_ble_eq_true rfl⟩) [] [0, 1, 2, 3, 4, 5, 6] rfl rfl rfl (by decide)
set_option maxHeartbeats 4000000 in
set_option maxRecDepth 100000 in
theorem tX0_needPage_x2 {l : Launch} {D : va_G} {cI cZ : ClassId} {h0 a0 a1 a2 a3 a4 a5 : Nat} (hl0 : l.stackTraces = false) (bf pw hs lo lg rt : Nat → Int32) (nb : Int32) (fi fo en : Nat) (on cu ma : Int32) (ar : Nat) (y : Int32) (h1 : ar < 2) (h : y < 0 ∨ nI 256 ≤ y) : RX l yX0_needPage wsX0_needPage 7 D (tyC cI cZ) (wC h0 a0 a1 a2 a3 a4 a5 cI cZ bf pw hs lo lg rt nb (nI fi) (nI fo) (nI en) on cu ma) [.ref h0, .int (nI ar), .int y] xIOB := by
  refine st_X (cc := cX0_needPage) (maxL := 3) (ret := none) (by decide +kernel) rfl (Nat.le_of_ble_eq_true rfl) ?_
  intro p e s m below meth c A hx hb hr hts hown hml hlocks hK hP hD hA hS ls hl hT hex
  have hown : s.vm.findClass RX0 = some m.cls := hown
  have hl : lv_has ls 3 [(0, .ref h0), (1, .int (nI ar)), (2, .int y)] := hl
  refine lv_iload_n hx hb dX0_needPage_0 rfl (lv_at hl 1 rfl) ?_
  refine lv_iconst (v := (nI 2)) hx hb dX0_needPage_1 (by decide) ?_
  refine k_V (wr := wC h0 a0 a1 a2 a3 a4 a5 cI cZ bf pw hs lo lg rt nb (nI fi) (nI fo) (nI en) on cu ma) hP hD hS hA (va_runS (As := [.int (nI ar), .int (nI 2)]) (rest := []) ⟨hx, hb, hml, hown, hts⟩ ((tX0_needIndex_ok ar 2 (by omega) (by omega)) _) (va_cwS 2 hts gX0_needPage_X0_needIndex rfl rfl rfl (by decide +kernel) ⟨Nat.le_of_ble_eq_true rfl, Nat.le_of_ble_eq_true rfl⟩) (pS_B hP hD hK [] rfl [] rfl rfl) rfl rfl hl.1 rfl (lv_room (Nat.le_of_ble_eq_true rfl)) dX0_needPage_2 ⟨Nat.le_of_ble_eq_true rfl, Nat.le_of_ble_eq_true rfl⟩) [] [0, 1, 2, 3, 4, 5, 6] rfl rfl rfl (by decide) (fun H locs hP hD hS => ?_)
  have hP : va_P D vwCl (wC h0 a0 a1 a2 a3 a4 a5 cI cZ bf pw hs lo lg rt nb (nI fi) (nI fo) (nI en) on cu ma) H := hP
  have hD : va_D A (wC h0 a0 a1 a2 a3 a4 a5 cI cZ bf pw hs lo lg rt nb (nI fi) (nI fo) (nI en) on cu ma) := hD
  refine lv_iload_n hx hb dX0_needPage_5 rfl (lv_at hl 2 rfl) ?_
  refine lv_sipush (v := (nI 256)) hx hb dX0_needPage_6 (by decide) ?_
  exact k_XX hlocks hex (Nat.le_of_ble_eq_true rfl) (Nat.le_of_ble_eq_true rfl) (wr := wC h0 a0 a1 a2 a3 a4 a5 cI cZ bf pw hs lo lg rt nb (nI fi) (nI fo) (nI en) on cu ma) hP hD hS hA (vx_runS (As := [.int y, .int (nI 256)]) (rest := []) ⟨hx, hb, hml, hown, hts⟩ ((tX0_needIndex_x hl0 y 256 h) _) (va_cwS 2 hts gX0_needPage_X0_needIndex rfl rfl rfl (by decide +kernel) ⟨Nat.le_of_ble_eq_true rfl, Nat.le_of_ble_eq_true rfl⟩) (pS_X hP hD hK hS hA hT [] rfl [] rfl rfl) rfl rfl hl.1 rfl (lv_room (Nat.le_of_ble_eq_true rfl)) dX0_needPage_9 ⟨Nat.le_of_ble_eq_true rfl, Nat.le_of_ble_eq_true rfl⟩) [] [0, 1, 2, 3, 4, 5, 6] rfl rfl rfl (by decide)
set_option maxHeartbeats 4000000 in
set_option maxRecDepth 100000 in
theorem tX0_pageIndex {l : Launch} {D : va_G} (ar pg : Nat) : RI l yX0_pageIndex wsX0_pageIndex 1 0 0 D [] ([]) [.int (nI ar), .int (nI pg)] (nI (ar * 256 + pg)) ([]) := by
  refine st_I (cc := cX0_pageIndex) (maxL := 2) (ret := (some .int)) (by decide +kernel) rfl (Nat.le_of_ble_eq_true rfl) ?_
  intro p e s m below meth c A hx hb hr hts hown hml hlocks hK hP hD hA hS ls hl
  have hown : s.vm.findClass RX0 = some m.cls := hown
  have hl : lv_has ls 2 [(0, .int (nI ar)), (1, .int (nI pg))] := hl
  refine lv_iload_n hx hb dX0_pageIndex_0 rfl (lv_at hl 0 rfl) ?_
  refine lv_sipush (v := (nI 256)) hx hb dX0_pageIndex_1 (by decide) ?_
  refine n_imul hx hb dX0_pageIndex_4 ?_
  refine lv_iload_n hx hb dX0_pageIndex_5 rfl (lv_at hl 1 rfl) ?_
  refine n_iadd hx hb dX0_pageIndex_6 ?_
  exact e_I hx hb hr hlocks hP hD hS rfl dX0_pageIndex_7
