/-! OWN ROWS, by program: the small methods of the law -/
set_option maxHeartbeats 4000000 in
set_option maxRecDepth 100000 in
theorem tL_set_x0 {l : Launch} {D : va_G} {cI cZ cJ : ClassId} {h0 a0 a1 a2 a3 a4 a5 : Nat} (hl0 : l.stackTraces = false) (bf pw hs lo lg rt : Nat → Int32) (nb : Int32) (fi fo en : Nat) (cu ma : Int32) (x y : Int32) (oj : Nat) (og : Nat → Int64) : RH l yL_set wsL_set 9 1 6 D (tyL cI cZ cJ) (wC h0 a0 a1 a2 a3 a4 a5 cI cZ bf pw hs lo lg rt nb (nI fi) (nI fo) (nI en) 0 cu ma) [.ref h0, .int x, .int y] 1 (wC h0 a0 a1 a2 a3 a4 a5 cI cZ bf pw hs lo lg rt nb (nI fi) (nI fo) (nI en) 0 cu ma) := by
  refine st_H (cc := cL_set) (maxL := 4) (ret := (some .int)) (hh := [(0, 6, 9, 13), (0, 6, 12, 15)]) (by decide +kernel) rfl (Nat.le_of_ble_eq_true rfl) ?_
  intro p e s m below meth c A hx hb hr hts hown hml hlocks hK hP hD hA hS ls hl hT htab
  have hown : s.vm.findClass RL = some m.cls := hown
  have hl : lv_has ls 4 [(0, .ref h0), (1, .int x), (2, .int y)] := hl
  refine lv_aload_n hx hb dL_set_0 rfl (lv_at hl 0 rfl) ?_
  refine lv_iload_n hx hb dL_set_1 rfl (lv_at hl 1 rfl) ?_
  refine lv_iload_n hx hb dL_set_2 rfl (lv_at hl 2 rfl) ?_
  refine k_X (wr := []) hP hD hS hA (vx_runV (As := [.int x, .int y]) (rest := []) ⟨hx, hb, hml, hown, hts⟩ ((tX0_set_x0 hl0 bf pw hs lo lg rt nb fi fo en cu ma x y) _) (cwV 2 hts gL_set_X0_set rfl rfl rfl (by decide +kernel) ⟨Nat.le_of_ble_eq_true rfl, Nat.le_of_ble_eq_true rfl⟩) (pV_X hP hD hK hS hA hT (ci := 0) (q0 := 0) rfl rfl rfl [0, 1] rfl [0, 1, 2, 3, 4, 5, 6] rfl rfl) rfl rfl hl.1 rfl (lv_room (Nat.le_of_ble_eq_true rfl)) dL_set_3 ⟨Nat.le_of_ble_eq_true rfl, Nat.le_of_ble_eq_true rfl⟩) [0, 1, 2, 3, 4, 5, 6] [] rfl rfl rfl (by decide) (fun ce q9 H locs hP hD hS hce hcv hcl => ?_)
  refine vx_catch hown [] ⟨0, 6, 9, 13⟩ [⟨0, 6, 12, 15⟩] htab (fun z hz => nomatch hz) rfl (by decide) (hts _ clL_set_13) (va_Nw.use rfl (hT.2.2.1 (xISE, xISE) (List.mem_of_getElem? (i := 0) rfl))) hce hcv hcl ?_
  refine lv_astore_n (lv' := [(3, .ref q9), (0, .ref h0), (1, .int x), (2, .int y)]) hx hb dL_set_9 rfl hl (by decide) rfl (fun ls hl => ?_)
  refine lv_iconst (v := (1)) hx hb dL_set_10 (by decide) ?_
  exact e_I hx hb hr hlocks hP hD hS rfl dL_set_11
set_option maxHeartbeats 4000000 in
set_option maxRecDepth 100000 in
theorem tL_fill_x0 {l : Launch} {D : va_G} {cI cZ cJ : ClassId} {h0 a0 a1 a2 a3 a4 a5 : Nat} (hl0 : l.stackTraces = false) (bf pw hs lo lg rt : Nat → Int32) (nb : Int32) (fi fo en : Nat) (cu ma : Int32) (x y : Int32) (oj : Nat) (og : Nat → Int64) : RH l yL_fill wsL_fill 9 1 6 D (tyL cI cZ cJ) (wC h0 a0 a1 a2 a3 a4 a5 cI cZ bf pw hs lo lg rt nb (nI fi) (nI fo) (nI en) 0 cu ma) [.ref h0, .int x, .int y] 1 (wC h0 a0 a1 a2 a3 a4 a5 cI cZ bf pw hs lo lg rt nb (nI fi) (nI fo) (nI en) 0 cu ma) := by
  refine st_H (cc := cL_fill) (maxL := 4) (ret := (some .int)) (hh := [(0, 6, 9, 13)]) (by decide +kernel) rfl (Nat.le_of_ble_eq_true rfl) ?_
  intro p e s m below meth c A hx hb hr hts hown hml hlocks hK hP hD hA hS ls hl hT htab
  have hown : s.vm.findClass RL = some m.cls := hown
  have hl : lv_has ls 4 [(0, .ref h0), (1, .int x), (2, .int y)] := hl
  refine lv_aload_n hx hb dL_fill_0 rfl (lv_at hl 0 rfl) ?_
  refine lv_iload_n hx hb dL_fill_1 rfl (lv_at hl 1 rfl) ?_
  refine lv_iload_n hx hb dL_fill_2 rfl (lv_at hl 2 rfl) ?_
  refine k_X (wr := []) hP hD hS hA (vx_runV (As := [.int x, .int y]) (rest := []) ⟨hx, hb, hml, hown, hts⟩ ((tX0_fill_x0 hl0 bf pw hs lo lg rt nb fi fo en cu ma x y) _) (cwV 2 hts gL_fill_X0_fill rfl rfl rfl (by decide +kernel) ⟨Nat.le_of_ble_eq_true rfl, Nat.le_of_ble_eq_true rfl⟩) (pV_X hP hD hK hS hA hT (ci := 0) (q0 := 0) rfl rfl rfl [0, 1] rfl [0, 1, 2, 3, 4, 5, 6] rfl rfl) rfl rfl hl.1 rfl (lv_room (Nat.le_of_ble_eq_true rfl)) dL_fill_3 ⟨Nat.le_of_ble_eq_true rfl, Nat.le_of_ble_eq_true rfl⟩) [0, 1, 2, 3, 4, 5, 6] [] rfl rfl rfl (by decide) (fun ce q9 H locs hP hD hS hce hcv hcl => ?_)
  refine vx_catch hown [] ⟨0, 6, 9, 13⟩ [] htab (fun z hz => nomatch hz) rfl (by decide) (hts _ clL_fill_13) (va_Nw.use rfl (hT.2.2.1 (xISE, xISE) (List.mem_of_getElem? (i := 0) rfl))) hce hcv hcl ?_
  refine lv_astore_n (lv' := [(3, .ref q9), (0, .ref h0), (1, .int x), (2, .int y)]) hx hb dL_fill_9 rfl hl (by decide) rfl (fun ls hl => ?_)
  refine lv_iconst (v := (1)) hx hb dL_fill_10 (by decide) ?_
  exact e_I hx hb hr hlocks hP hD hS rfl dL_fill_11
set_option maxHeartbeats 4000000 in
set_option maxRecDepth 100000 in
theorem tL_write_x0 {l : Launch} {D : va_G} {cI cZ cJ : ClassId} {h0 a0 a1 a2 a3 a4 a5 : Nat} (hl0 : l.stackTraces = false) (bf pw hs lo lg rt : Nat → Int32) (nb : Int32) (fi fo en : Nat) (cu ma : Int32) (x y : Int32) (oj : Nat) (og : Nat → Int64) : RH l yL_write wsL_write 9 1 6 D (tyL cI cZ cJ) (wC h0 a0 a1 a2 a3 a4 a5 cI cZ bf pw hs lo lg rt nb (nI fi) (nI fo) (nI en) 0 cu ma ++ wO oj cJ og) [.ref h0, .int x, .int y, .ref oj] 1 (wC h0 a0 a1 a2 a3 a4 a5 cI cZ bf pw hs lo lg rt nb (nI fi) (nI fo) (nI en) 0 cu ma ++ wO oj cJ og) := by
  refine st_H (cc := cL_write) (maxL := 5) (ret := (some .int)) (hh := [(0, 10, 13, 13), (0, 10, 17, 15)]) (by decide +kernel) rfl (Nat.le_of_ble_eq_true rfl) ?_
  intro p e s m below meth c A hx hb hr hts hown hml hlocks hK hP hD hA hS ls hl hT htab
  have hown : s.vm.findClass RL = some m.cls := hown
  have hl : lv_has ls 5 [(0, .ref h0), (1, .int x), (2, .int y), (3, .ref oj)] := hl
  refine lv_aload_n hx hb dL_write_0 rfl (lv_at hl 3 rfl) ?_
  refine lv_iconst (v := (nI 0)) hx hb dL_write_1 (by decide) ?_
  refine lv_aload_n hx hb dL_write_2 rfl (lv_at hl 0 rfl) ?_
  refine lv_iload_n hx hb dL_write_3 rfl (lv_at hl 1 rfl) ?_
  refine lv_iload_n hx hb dL_write_4 rfl (lv_at hl 2 rfl) ?_
  refine k_X (wr := wO oj cJ og) hP hD hS hA (vx_runV (As := [.int x, .int y]) (rest := [.int (nI 0), .ref oj]) ⟨hx, hb, hml, hown, hts⟩ ((tX0_write_x0 hl0 bf pw hs lo lg rt nb fi fo en cu ma x y) _) (cwV 2 hts gL_write_X0_write rfl rfl rfl (by decide +kernel) ⟨Nat.le_of_ble_eq_true rfl, Nat.le_of_ble_eq_true rfl⟩) (pV_X hP hD hK hS hA hT (ci := 0) (q0 := 0) rfl rfl rfl [0, 1] rfl [0, 1, 2, 3, 4, 5, 6] rfl rfl) rfl rfl hl.1 rfl (lv_room (Nat.le_of_ble_eq_true rfl)) dL_write_5 ⟨Nat.le_of_ble_eq_true rfl, Nat.le_of_ble_eq_true rfl⟩) [0, 1, 2, 3, 4, 5, 6] [7] rfl rfl rfl (by decide) (fun ce q9 H locs hP hD hS hce hcv hcl => ?_)
  have hP : va_P D vwCl (wC h0 a0 a1 a2 a3 a4 a5 cI cZ bf pw hs lo lg rt nb (nI fi) (nI fo) (nI en) 0 cu ma ++ wO oj cJ og) H := hP.sub [1, 2, 3, 4, 5, 6, 7, 0] rfl
  have hD : va_D A (wC h0 a0 a1 a2 a3 a4 a5 cI cZ bf pw hs lo lg rt nb (nI fi) (nI fo) (nI en) 0 cu ma ++ wO oj cJ og) := hD.sub [1, 2, 3, 4, 5, 6, 7, 0] (by decide) rfl
  refine vx_catch hown [] ⟨0, 10, 13, 13⟩ [⟨0, 10, 17, 15⟩] htab (fun z hz => nomatch hz) rfl (by decide) (hts _ clL_write_13) (va_Nw.use rfl (hT.2.2.1 (xISE, xISE) (List.mem_of_getElem? (i := 0) rfl))) hce hcv hcl ?_
  refine lv_astore (lv' := [(4, .ref q9), (0, .ref h0), (1, .int x), (2, .int y), (3, .ref oj)]) hx hb dL_write_13 hl (by decide) rfl (fun ls hl => ?_)
  refine lv_iconst (v := (1)) hx hb dL_write_15 (by decide) ?_
  exact e_I hx hb hr hlocks hP hD hS rfl dL_write_16
set_option maxHeartbeats 4000000 in
set_option maxRecDepth 100000 in
theorem tL_read_x0 {l : Launch} {D : va_G} {cI cZ cJ : ClassId} {h0 a0 a1 a2 a3 a4 a5 : Nat} (hl0 : l.stackTraces = false) (bf pw hs lo lg rt : Nat → Int32) (nb : Int32) (fi fo en : Nat) (cu ma : Int32) (x y : Int32) (oj : Nat) (og : Nat → Int64) : RH l yL_read wsL_read 9 1 6 D (tyL cI cZ cJ) (wC h0 a0 a1 a2 a3 a4 a5 cI cZ bf pw hs lo lg rt nb (nI fi) (nI fo) (nI en) 0 cu ma ++ wO oj cJ og) [.ref h0, .int x, .int y, .ref oj] 1 (wC h0 a0 a1 a2 a3 a4 a5 cI cZ bf pw hs lo lg rt nb (nI fi) (nI fo) (nI en) 0 cu ma ++ wO oj cJ og) := by
  refine st_H (cc := cL_read) (maxL := 5) (ret := (some .int)) (hh := [(0, 10, 13, 13), (0, 10, 17, 15)]) (by decide +kernel) rfl (Nat.le_of_ble_eq_true rfl) ?_
  intro p e s m below meth c A hx hb hr hts hown hml hlocks hK hP hD hA hS ls hl hT htab
  have hown : s.vm.findClass RL = some m.cls := hown
  have hl : lv_has ls 5 [(0, .ref h0), (1, .int x), (2, .int y), (3, .ref oj)] := hl
  refine lv_aload_n hx hb dL_read_0 rfl (lv_at hl 3 rfl) ?_
  refine lv_iconst (v := (nI 0)) hx hb dL_read_1 (by decide) ?_
  refine lv_aload_n hx hb dL_read_2 rfl (lv_at hl 0 rfl) ?_
  refine lv_iload_n hx hb dL_read_3 rfl (lv_at hl 1 rfl) ?_
  refine lv_iload_n hx hb dL_read_4 rfl (lv_at hl 2 rfl) ?_
  refine k_X (wr := wO oj cJ og) hP hD hS hA (vx_runV (As := [.int x, .int y]) (rest := [.int (nI 0), .ref oj]) ⟨hx, hb, hml, hown, hts⟩ ((tX0_read_x0 hl0 bf pw hs lo lg rt nb fi fo en cu ma x y) _) (cwV 2 hts gL_read_X0_read rfl rfl rfl (by decide +kernel) ⟨Nat.le_of_ble_eq_true rfl, Nat.le_of_ble_eq_true rfl⟩) (pV_X hP hD hK hS hA hT (ci := 0) (q0 := 0) rfl rfl rfl [0, 1] rfl [0, 1, 2, 3, 4, 5, 6] rfl rfl) rfl rfl hl.1 rfl (lv_room (Nat.le_of_ble_eq_true rfl)) dL_read_5 ⟨Nat.le_of_ble_eq_true rfl, Nat.le_of_ble_eq_true rfl⟩) [0, 1, 2, 3, 4, 5, 6] [7] rfl rfl rfl (by decide) (fun ce q9 H locs hP hD hS hce hcv hcl => ?_)
  have hP : va_P D vwCl (wC h0 a0 a1 a2 a3 a4 a5 cI cZ bf pw hs lo lg rt nb (nI fi) (nI fo) (nI en) 0 cu ma ++ wO oj cJ og) H := hP.sub [1, 2, 3, 4, 5, 6, 7, 0] rfl
  have hD : va_D A (wC h0 a0 a1 a2 a3 a4 a5 cI cZ bf pw hs lo lg rt nb (nI fi) (nI fo) (nI en) 0 cu ma ++ wO oj cJ og) := hD.sub [1, 2, 3, 4, 5, 6, 7, 0] (by decide) rfl
  refine vx_catch hown [] ⟨0, 10, 13, 13⟩ [⟨0, 10, 17, 15⟩] htab (fun z hz => nomatch hz) rfl (by decide) (hts _ clL_read_13) (va_Nw.use rfl (hT.2.2.1 (xISE, xISE) (List.mem_of_getElem? (i := 0) rfl))) hce hcv hcl ?_
  refine lv_astore (lv' := [(4, .ref q9), (0, .ref h0), (1, .int x), (2, .int y), (3, .ref oj)]) hx hb dL_read_13 hl (by decide) rfl (fun ls hl => ?_)
  refine lv_iconst (v := (1)) hx hb dL_read_15 (by decide) ?_
  exact e_I hx hb hr hlocks hP hD hS rfl dL_read_16
set_option maxHeartbeats 4000000 in
set_option maxRecDepth 100000 in
theorem tL_copy_x0 {l : Launch} {D : va_G} {cI cZ cJ : ClassId} {h0 a0 a1 a2 a3 a4 a5 : Nat} (hl0 : l.stackTraces = false) (bf pw hs lo lg rt : Nat → Int32) (nb : Int32) (fi fo en : Nat) (cu ma : Int32) (x y : Int32) (oj : Nat) (og : Nat → Int64) : RH l yL_copy wsL_copy 9 1 6 D (tyL cI cZ cJ) (wC h0 a0 a1 a2 a3 a4 a5 cI cZ bf pw hs lo lg rt nb (nI fi) (nI fo) (nI en) 0 cu ma ++ wO oj cJ og) [.ref h0, .int x, .int y, .ref oj] 1 (wC h0 a0 a1 a2 a3 a4 a5 cI cZ bf pw hs lo lg rt nb (nI fi) (nI fo) (nI en) 0 cu ma ++ wO oj cJ og) := by
  refine st_H (cc := cL_copy) (maxL := 5) (ret := (some .int)) (hh := [(0, 10, 13, 13), (0, 10, 17, 15)]) (by decide +kernel) rfl (Nat.le_of_ble_eq_true rfl) ?_
  intro p e s m below meth c A hx hb hr hts hown hml hlocks hK hP hD hA hS ls hl hT htab
  have hown : s.vm.findClass RL = some m.cls := hown
  have hl : lv_has ls 5 [(0, .ref h0), (1, .int x), (2, .int y), (3, .ref oj)] := hl
  refine lv_aload_n hx hb dL_copy_0 rfl (lv_at hl 3 rfl) ?_
  refine lv_iconst (v := (nI 0)) hx hb dL_copy_1 (by decide) ?_
  refine lv_aload_n hx hb dL_copy_2 rfl (lv_at hl 0 rfl) ?_
  refine lv_iload_n hx hb dL_copy_3 rfl (lv_at hl 1 rfl) ?_
  refine lv_iload_n hx hb dL_copy_4 rfl (lv_at hl 2 rfl) ?_
  refine k_X (wr := wO oj cJ og) hP hD hS hA (vx_runV (As := [.int x, .int y]) (rest := [.int (nI 0), .ref oj]) ⟨hx, hb, hml, hown, hts⟩ ((tX0_copy_x0 hl0 bf pw hs lo lg rt nb fi fo en cu ma x y) _) (cwV 2 hts gL_copy_X0_copy rfl rfl rfl (by decide +kernel) ⟨Nat.le_of_ble_eq_true rfl, Nat.le_of_ble_eq_true rfl⟩) (pV_X hP hD hK hS hA hT (ci := 0) (q0 := 0) rfl rfl rfl [0, 1] rfl [0, 1, 2, 3, 4, 5, 6] rfl rfl) rfl rfl hl.1 rfl (lv_room (Nat.le_of_ble_eq_true rfl)) dL_copy_5 ⟨Nat.le_of_ble_eq_true rfl, Nat.le_of_ble_eq_true rfl⟩) [0, 1, 2, 3, 4, 5, 6] [7] rfl rfl rfl (by decide) (fun ce q9 H locs hP hD hS hce hcv hcl => ?_)
  have hP : va_P D vwCl (wC h0 a0 a1 a2 a3 a4 a5 cI cZ bf pw hs lo lg rt nb (nI fi) (nI fo) (nI en) 0 cu ma ++ wO oj cJ og) H := hP.sub [1, 2, 3, 4, 5, 6, 7, 0] rfl
  have hD : va_D A (wC h0 a0 a1 a2 a3 a4 a5 cI cZ bf pw hs lo lg rt nb (nI fi) (nI fo) (nI en) 0 cu ma ++ wO oj cJ og) := hD.sub [1, 2, 3, 4, 5, 6, 7, 0] (by decide) rfl
  refine vx_catch hown [] ⟨0, 10, 13, 13⟩ [⟨0, 10, 17, 15⟩] htab (fun z hz => nomatch hz) rfl (by decide) (hts _ clL_copy_13) (va_Nw.use rfl (hT.2.2.1 (xISE, xISE) (List.mem_of_getElem? (i := 0) rfl))) hce hcv hcl ?_
  refine lv_astore (lv' := [(4, .ref q9), (0, .ref h0), (1, .int x), (2, .int y), (3, .ref oj)]) hx hb dL_copy_13 hl (by decide) rfl (fun ls hl => ?_)
  refine lv_iconst (v := (1)) hx hb dL_copy_15 (by decide) ?_
  exact e_I hx hb hr hlocks hP hD hS rfl dL_copy_16
set_option maxHeartbeats 4000000 in
set_option maxRecDepth 100000 in
theorem tL_append_x0 {l : Launch} {D : va_G} {cI cZ cJ : ClassId} {h0 a0 a1 a2 a3 a4 a5 : Nat} (hl0 : l.stackTraces = false) (bf pw hs lo lg rt : Nat → Int32) (nb : Int32) (fi fo en : Nat) (cu ma : Int32) (x : Int32) (oj : Nat) (og : Nat → Int64) : RH l yL_append wsL_append 9 1 6 D (tyL cI cZ cJ) (wC h0 a0 a1 a2 a3 a4 a5 cI cZ bf pw hs lo lg rt nb (nI fi) (nI fo) (nI en) 0 cu ma ++ wO oj cJ og) [.ref h0, .int x, .ref oj] 1 (wC h0 a0 a1 a2 a3 a4 a5 cI cZ bf pw hs lo lg rt nb (nI fi) (nI fo) (nI en) 0 cu ma ++ wO oj cJ og) := by
  refine st_H (cc := cL_append) (maxL := 4) (ret := (some .int)) (hh := [(0, 9, 12, 13), (0, 9, 15, 37)]) (by decide +kernel) rfl (Nat.le_of_ble_eq_true rfl) ?_
  intro p e s m below meth c A hx hb hr hts hown hml hlocks hK hP hD hA hS ls hl hT htab
  have hown : s.vm.findClass RL = some m.cls := hown
  have hl : lv_has ls 4 [(0, .ref h0), (1, .int x), (2, .ref oj)] := hl
  refine lv_aload_n hx hb dL_append_0 rfl (lv_at hl 2 rfl) ?_
  refine lv_iconst (v := (nI 0)) hx hb dL_append_1 (by decide) ?_
  refine lv_aload_n hx hb dL_append_2 rfl (lv_at hl 0 rfl) ?_
  refine lv_iload_n hx hb dL_append_3 rfl (lv_at hl 1 rfl) ?_
  refine k_X (wr := wO oj cJ og) hP hD hS hA (vx_runV (As := [.int x]) (rest := [.int (nI 0), .ref oj]) ⟨hx, hb, hml, hown, hts⟩ ((tX0_append_x0 hl0 bf pw hs lo lg rt nb fi fo en cu ma x) _) (cwV 1 hts gL_append_X0_append rfl rfl rfl (by decide +kernel) ⟨Nat.le_of_ble_eq_true rfl, Nat.le_of_ble_eq_true rfl⟩) (pV_X hP hD hK hS hA hT (ci := 0) (q0 := 0) rfl rfl rfl [0, 1] rfl [0, 1, 2, 3, 4, 5, 6] rfl rfl) rfl rfl hl.1 rfl (lv_room (Nat.le_of_ble_eq_true rfl)) dL_append_4 ⟨Nat.le_of_ble_eq_true rfl, Nat.le_of_ble_eq_true rfl⟩) [0, 1, 2, 3, 4, 5, 6] [7] rfl rfl rfl (by decide) (fun ce q9 H locs hP hD hS hce hcv hcl => ?_)
  have hP : va_P D vwCl (wC h0 a0 a1 a2 a3 a4 a5 cI cZ bf pw hs lo lg rt nb (nI fi) (nI fo) (nI en) 0 cu ma ++ wO oj cJ og) H := hP.sub [1, 2, 3, 4, 5, 6, 7, 0] rfl
  have hD : va_D A (wC h0 a0 a1 a2 a3 a4 a5 cI cZ bf pw hs lo lg rt nb (nI fi) (nI fo) (nI en) 0 cu ma ++ wO oj cJ og) := hD.sub [1, 2, 3, 4, 5, 6, 7, 0] (by decide) rfl
  refine vx_catch hown [] ⟨0, 9, 12, 13⟩ [⟨0, 9, 15, 37⟩] htab (fun z hz => nomatch hz) rfl (by decide) (hts _ clL_append_13) (va_Nw.use rfl (hT.2.2.1 (xISE, xISE) (List.mem_of_getElem? (i := 0) rfl))) hce hcv hcl ?_
  refine lv_astore_n (lv' := [(3, .ref q9), (0, .ref h0), (1, .int x), (2, .ref oj)]) hx hb dL_append_12 rfl hl (by decide) rfl (fun ls hl => ?_)
  refine lv_iconst (v := (1)) hx hb dL_append_13 (by decide) ?_
  exact e_I hx hb hr hlocks hP hD hS rfl dL_append_14
set_option maxHeartbeats 4000000 in
set_option maxRecDepth 100000 in
theorem tL_force_x0 {l : Launch} {D : va_G} {cI cZ cJ : ClassId} {h0 a0 a1 a2 a3 a4 a5 : Nat} (hl0 : l.stackTraces = false) (bf pw hs lo lg rt : Nat → Int32) (nb : Int32) (fi fo en : Nat) (cu ma : Int32) (x : Int32) (oj : Nat) (og : Nat → Int64) : RH l yL_force wsL_force 9 1 6 D (tyL cI cZ cJ) (wC h0 a0 a1 a2 a3 a4 a5 cI cZ bf pw hs lo lg rt nb (nI fi) (nI fo) (nI en) 0 cu ma ++ wO oj cJ og) [.ref h0, .int x, .ref oj] 1 (wC h0 a0 a1 a2 a3 a4 a5 cI cZ bf pw hs lo lg rt nb (nI fi) (nI fo) (nI en) 0 cu ma ++ wO oj cJ og) := by
  refine st_H (cc := cL_force) (maxL := 4) (ret := (some .int)) (hh := [(0, 9, 12, 13), (0, 9, 15, 37)]) (by decide +kernel) rfl (Nat.le_of_ble_eq_true rfl) ?_
  intro p e s m below meth c A hx hb hr hts hown hml hlocks hK hP hD hA hS ls hl hT htab
  have hown : s.vm.findClass RL = some m.cls := hown
  have hl : lv_has ls 4 [(0, .ref h0), (1, .int x), (2, .ref oj)] := hl
  refine lv_aload_n hx hb dL_force_0 rfl (lv_at hl 2 rfl) ?_
  refine lv_iconst (v := (nI 0)) hx hb dL_force_1 (by decide) ?_
  refine lv_aload_n hx hb dL_force_2 rfl (lv_at hl 0 rfl) ?_
  refine lv_iload_n hx hb dL_force_3 rfl (lv_at hl 1 rfl) ?_
  refine k_X (wr := wO oj cJ og) hP hD hS hA (vx_runV (As := [.int x]) (rest := [.int (nI 0), .ref oj]) ⟨hx, hb, hml, hown, hts⟩ ((tX0_force_x0 hl0 bf pw hs lo lg rt nb fi fo en cu ma x) _) (cwV 1 hts gL_force_X0_force rfl rfl rfl (by decide +kernel) ⟨Nat.le_of_ble_eq_true rfl, Nat.le_of_ble_eq_true rfl⟩) (pV_X hP hD hK hS hA hT (ci := 0) (q0 := 0) rfl rfl rfl [0, 1] rfl [0, 1, 2, 3, 4, 5, 6] rfl rfl) rfl rfl hl.1 rfl (lv_room (Nat.le_of_ble_eq_true rfl)) dL_force_4 ⟨Nat.le_of_ble_eq_true rfl, Nat.le_of_ble_eq_true rfl⟩) [0, 1, 2, 3, 4, 5, 6] [7] rfl rfl rfl (by decide) (fun ce q9 H locs hP hD hS hce hcv hcl => ?_)
  have hP : va_P D vwCl (wC h0 a0 a1 a2 a3 a4 a5 cI cZ bf pw hs lo lg rt nb (nI fi) (nI fo) (nI en) 0 cu ma ++ wO oj cJ og) H := hP.sub [1, 2, 3, 4, 5, 6, 7, 0] rfl
  have hD : va_D A (wC h0 a0 a1 a2 a3 a4 a5 cI cZ bf pw hs lo lg rt nb (nI fi) (nI fo) (nI en) 0 cu ma ++ wO oj cJ og) := hD.sub [1, 2, 3, 4, 5, 6, 7, 0] (by decide) rfl
  refine vx_catch hown [] ⟨0, 9, 12, 13⟩ [⟨0, 9, 15, 37⟩] htab (fun z hz => nomatch hz) rfl (by decide) (hts _ clL_force_13) (va_Nw.use rfl (hT.2.2.1 (xISE, xISE) (List.mem_of_getElem? (i := 0) rfl))) hce hcv hcl ?_
  refine lv_astore_n (lv' := [(3, .ref q9), (0, .ref h0), (1, .int x), (2, .ref oj)]) hx hb dL_force_12 rfl hl (by decide) rfl (fun ls hl => ?_)
  refine lv_iconst (v := (1)) hx hb dL_force_13 (by decide) ?_
  exact e_I hx hb hr hlocks hP hD hS rfl dL_force_14
set_option maxHeartbeats 4000000 in
set_option maxRecDepth 100000 in
theorem tL_readLog_x0 {l : Launch} {D : va_G} {cI cZ cJ : ClassId} {h0 a0 a1 a2 a3 a4 a5 : Nat} (hl0 : l.stackTraces = false) (bf pw hs lo lg rt : Nat → Int32) (nb : Int32) (fi fo en : Nat) (cu ma : Int32) (x y : Int32) (oj : Nat) (og : Nat → Int64) : RH l yL_readLog wsL_readLog 9 1 6 D (tyL cI cZ cJ) (wC h0 a0 a1 a2 a3 a4 a5 cI cZ bf pw hs lo lg rt nb (nI fi) (nI fo) (nI en) 0 cu ma) [.ref h0, .int x, .int y] 1 (wC h0 a0 a1 a2 a3 a4 a5 cI cZ bf pw hs lo lg rt nb (nI fi) (nI fo) (nI en) 0 cu ma) := by
  refine st_H (cc := cL_readLog) (maxL := 4) (ret := (some .int)) (hh := [(0, 6, 9, 13), (0, 6, 12, 37)]) (by decide +kernel) rfl (Nat.le_of_ble_eq_true rfl) ?_
  intro p e s m below meth c A hx hb hr hts hown hml hlocks hK hP hD hA hS ls hl hT htab
  have hown : s.vm.findClass RL = some m.cls := hown
  have hl : lv_has ls 4 [(0, .ref h0), (1, .int x), (2, .int y)] := hl
  refine lv_aload_n hx hb dL_readLog_0 rfl (lv_at hl 0 rfl) ?_
  refine lv_iload_n hx hb dL_readLog_1 rfl (lv_at hl 1 rfl) ?_
  refine lv_iload_n hx hb dL_readLog_2 rfl (lv_at hl 2 rfl) ?_
  refine k_X (wr := []) hP hD hS hA (vx_runV (As := [.int x, .int y]) (rest := []) ⟨hx, hb, hml, hown, hts⟩ ((tX0_readLog_x0 hl0 bf pw hs lo lg rt nb fi fo en cu ma x y) _) (cwV 2 hts gL_readLog_X0_readLog rfl rfl rfl (by decide +kernel) ⟨Nat.le_of_ble_eq_true rfl, Nat.le_of_ble_eq_true rfl⟩) (pV_X hP hD hK hS hA hT (ci := 0) (q0 := 0) rfl rfl rfl [0, 1] rfl [0, 1, 2, 3, 4, 5, 6] rfl rfl) rfl rfl hl.1 rfl (lv_room (Nat.le_of_ble_eq_true rfl)) dL_readLog_3 ⟨Nat.le_of_ble_eq_true rfl, Nat.le_of_ble_eq_true rfl⟩) [0, 1, 2, 3, 4, 5, 6] [] rfl rfl rfl (by decide) (fun ce q9 H locs hP hD hS hce hcv hcl => ?_)
  refine vx_catch hown [] ⟨0, 6, 9, 13⟩ [⟨0, 6, 12, 37⟩] htab (fun z hz => nomatch hz) rfl (by decide) (hts _ clL_readLog_13) (va_Nw.use rfl (hT.2.2.1 (xISE, xISE) (List.mem_of_getElem? (i := 0) rfl))) hce hcv hcl ?_
  refine lv_astore_n (lv' := [(3, .ref q9), (0, .ref h0), (1, .int x), (2, .int y)]) hx hb dL_readLog_9 rfl hl (by decide) rfl (fun ls hl => ?_)
  refine lv_iconst (v := (1)) hx hb dL_readLog_10 (by decide) ?_
  exact e_I hx hb hr hlocks hP hD hS rfl dL_readLog_11
set_option maxHeartbeats 4000000 in
set_option maxRecDepth 100000 in
theorem tL_giveBack_x0 {l : Launch} {D : va_G} {cI cZ cJ : ClassId} {h0 a0 a1 a2 a3 a4 a5 : Nat} (hl0 : l.stackTraces = false) (bf pw hs lo lg rt : Nat → Int32) (nb : Int32) (fi fo en : Nat) (cu ma : Int32) (x : Int32) (oj : Nat) (og : Nat → Int64) : RH l yL_giveBack wsL_giveBack 9 1 6 D (tyL cI cZ cJ) (wC h0 a0 a1 a2 a3 a4 a5 cI cZ bf pw hs lo lg rt nb (nI fi) (nI fo) (nI en) 0 cu ma) [.ref h0, .int x] 1 (wC h0 a0 a1 a2 a3 a4 a5 cI cZ bf pw hs lo lg rt nb (nI fi) (nI fo) (nI en) 0 cu ma) := by
  refine st_H (cc := cL_giveBack) (maxL := 3) (ret := (some .int)) (hh := [(0, 5, 8, 13), (0, 5, 11, 37)]) (by decide +kernel) rfl (Nat.le_of_ble_eq_true rfl) ?_
  intro p e s m below meth c A hx hb hr hts hown hml hlocks hK hP hD hA hS ls hl hT htab
  have hown : s.vm.findClass RL = some m.cls := hown
  have hl : lv_has ls 3 [(0, .ref h0), (1, .int x)] := hl
  refine lv_aload_n hx hb dL_giveBack_0 rfl (lv_at hl 0 rfl) ?_
  refine lv_iload_n hx hb dL_giveBack_1 rfl (lv_at hl 1 rfl) ?_
  refine k_X (wr := []) hP hD hS hA (vx_runV (As := [.int x]) (rest := []) ⟨hx, hb, hml, hown, hts⟩ ((tX0_giveBack_x0 hl0 bf pw hs lo lg rt nb fi fo en cu ma x) _) (cwV 1 hts gL_giveBack_X0_giveBack rfl rfl rfl (by decide +kernel) ⟨Nat.le_of_ble_eq_true rfl, Nat.le_of_ble_eq_true rfl⟩) (pV_X hP hD hK hS hA hT (ci := 0) (q0 := 0) rfl rfl rfl [0, 1] rfl [0, 1, 2, 3, 4, 5, 6] rfl rfl) rfl rfl hl.1 rfl (lv_room (Nat.le_of_ble_eq_true rfl)) dL_giveBack_2 ⟨Nat.le_of_ble_eq_true rfl, Nat.le_of_ble_eq_true rfl⟩) [0, 1, 2, 3, 4, 5, 6] [] rfl rfl rfl (by decide) (fun ce q9 H locs hP hD hS hce hcv hcl => ?_)
  refine vx_catch hown [] ⟨0, 5, 8, 13⟩ [⟨0, 5, 11, 37⟩] htab (fun z hz => nomatch hz) rfl (by decide) (hts _ clL_giveBack_13) (va_Nw.use rfl (hT.2.2.1 (xISE, xISE) (List.mem_of_getElem? (i := 0) rfl))) hce hcv hcl ?_
  refine lv_astore_n (lv' := [(2, .ref q9), (0, .ref h0), (1, .int x)]) hx hb dL_giveBack_8 rfl hl (by decide) rfl (fun ls hl => ?_)
  refine lv_iconst (v := (1)) hx hb dL_giveBack_9 (by decide) ?_
  exact e_I hx hb hr hlocks hP hD hS rfl dL_giveBack_10
set_option maxHeartbeats 4000000 in
set_option maxRecDepth 100000 in
theorem tL_setRoot_x0 {l : Launch} {D : va_G} {cI cZ cJ : ClassId} {h0 a0 a1 a2 a3 a4 a5 : Nat} (hl0 : l.stackTraces = false) (bf pw hs lo lg rt : Nat → Int32) (nb : Int32) (fi fo en : Nat) (cu ma : Int32) (x y : Int32) (oj : Nat) (og : Nat → Int64) : RH l yL_setRoot wsL_setRoot 9 1 6 D (tyL cI cZ cJ) (wC h0 a0 a1 a2 a3 a4 a5 cI cZ bf pw hs lo lg rt nb (nI fi) (nI fo) (nI en) 0 cu ma ++ wO oj cJ og) [.ref h0, .int x, .int y, .ref oj] 1 (wC h0 a0 a1 a2 a3 a4 a5 cI cZ bf pw hs lo lg rt nb (nI fi) (nI fo) (nI en) 0 cu ma ++ wO oj cJ og) := by
  refine st_H (cc := cL_setRoot) (maxL := 5) (ret := (some .int)) (hh := [(0, 17, 20, 13), (0, 17, 24, 15)]) (by decide +kernel) rfl (Nat.le_of_ble_eq_true rfl) ?_
  intro p e s m below meth c A hx hb hr hts hown hml hlocks hK hP hD hA hS ls hl hT htab
  have hown : s.vm.findClass RL = some m.cls := hown
  have hl : lv_has ls 5 [(0, .ref h0), (1, .int x), (2, .int y), (3, .ref oj)] := hl
  refine lv_aload_n hx hb dL_setRoot_0 rfl (lv_at hl 3 rfl) ?_
  refine lv_iconst (v := (nI 0)) hx hb dL_setRoot_1 (by decide) ?_
  refine lv_aload_n hx hb dL_setRoot_2 rfl (lv_at hl 0 rfl) ?_
  refine lv_iload_n hx hb dL_setRoot_3 rfl (lv_at hl 1 rfl) ?_
  refine lv_iload_n hx hb dL_setRoot_4 rfl (lv_at hl 2 rfl) ?_
  refine k_X (wr := wO oj cJ og) hP hD hS hA (vx_runV (As := [.int x, .int y]) (rest := [.int (nI 0), .ref oj]) ⟨hx, hb, hml, hown, hts⟩ ((tX0_setRoot_x0 hl0 bf pw hs lo lg rt nb fi fo en cu ma x y) _) (cwV 2 hts gL_setRoot_X0_setRoot rfl rfl rfl (by decide +kernel) ⟨Nat.le_of_ble_eq_true rfl, Nat.le_of_ble_eq_true rfl⟩) (pV_X hP hD hK hS hA hT (ci := 0) (q0 := 0) rfl rfl rfl [0, 1] rfl [0, 1, 2, 3, 4, 5, 6] rfl rfl) rfl rfl hl.1 rfl (lv_room (Nat.le_of_ble_eq_true rfl)) dL_setRoot_5 ⟨Nat.le_of_ble_eq_true rfl, Nat.le_of_ble_eq_true rfl⟩) [0, 1, 2, 3, 4, 5, 6] [7] rfl rfl rfl (by decide) (fun ce q9 H locs hP hD hS hce hcv hcl => ?_)
  have hP : va_P D vwCl (wC h0 a0 a1 a2 a3 a4 a5 cI cZ bf pw hs lo lg rt nb (nI fi) (nI fo) (nI en) 0 cu ma ++ wO oj cJ og) H := hP.sub [1, 2, 3, 4, 5, 6, 7, 0] rfl
  have hD : va_D A (wC h0 a0 a1 a2 a3 a4 a5 cI cZ bf pw hs lo lg rt nb (nI fi) (nI fo) (nI en) 0 cu ma ++ wO oj cJ og) := hD.sub [1, 2, 3, 4, 5, 6, 7, 0] (by decide) rfl
  refine vx_catch hown [] ⟨0, 17, 20, 13⟩ [⟨0, 17, 24, 15⟩] htab (fun z hz => nomatch hz) rfl (by decide) (hts _ clL_setRoot_13) (va_Nw.use rfl (hT.2.2.1 (xISE, xISE) (List.mem_of_getElem? (i := 0) rfl))) hce hcv hcl ?_
  refine lv_astore (lv' := [(4, .ref q9), (0, .ref h0), (1, .int x), (2, .int y), (3, .ref oj)]) hx hb dL_setRoot_20 hl (by decide) rfl (fun ls hl => ?_)
  refine lv_iconst (v := (1)) hx hb dL_setRoot_22 (by decide) ?_
  exact e_I hx hb hr hlocks hP hD hS rfl dL_setRoot_23
set_option maxHeartbeats 4000000 in
set_option maxRecDepth 100000 in
theorem tL_set_xb {l : Launch} {D : va_G} {cI cZ cJ : ClassId} {h0 a0 a1 a2 a3 a4 a5 : Nat} (hl0 : l.stackTraces = false) (bf pw hs lo lg rt : Nat → Int32) (nb : Int32) (fi fo en : Nat) (cu ma : Int32) (x y : Int32) (h : x < 0 ∨ nI 64 ≤ x) (oj : Nat) (og : Nat → Int64) : RH l yL_set wsL_set 9 1 6 D (tyL cI cZ cJ) (wC h0 a0 a1 a2 a3 a4 a5 cI cZ bf pw hs lo lg rt nb (nI fi) (nI fo) (nI en) 1 cu ma) [.ref h0, .int x, .int y] 2 (wC h0 a0 a1 a2 a3 a4 a5 cI cZ bf pw hs lo lg rt nb (nI fi) (nI fo) (nI en) 1 cu ma) := by
  refine st_H (cc := cL_set) (maxL := 4) (ret := (some .int)) (hh := [(0, 6, 9, 13), (0, 6, 12, 15)]) (by decide +kernel) rfl (Nat.le_of_ble_eq_true rfl) ?_
  intro p e s m below meth c A hx hb hr hts hown hml hlocks hK hP hD hA hS ls hl hT htab
  have hown : s.vm.findClass RL = some m.cls := hown
  have hl : lv_has ls 4 [(0, .ref h0), (1, .int x), (2, .int y)] := hl
  refine lv_aload_n hx hb dL_set_0 rfl (lv_at hl 0 rfl) ?_
  refine lv_iload_n hx hb dL_set_1 rfl (lv_at hl 1 rfl) ?_
  refine lv_iload_n hx hb dL_set_2 rfl (lv_at hl 2 rfl) ?_
  refine k_X (wr := []) hP hD hS hA (vx_runV (As := [.int x, .int y]) (rest := []) ⟨hx, hb, hml, hown, hts⟩ ((tX0_set_xb hl0 bf pw hs lo lg rt nb fi fo en cu ma x y h) _) (cwV 2 hts gL_set_X0_set rfl rfl rfl (by decide +kernel) ⟨Nat.le_of_ble_eq_true rfl, Nat.le_of_ble_eq_true rfl⟩) (pV_X hP hD hK hS hA hT (ci := 0) (q0 := 0) rfl rfl rfl [0, 1] rfl [0, 1, 2, 3, 4, 5, 6] rfl rfl) rfl rfl hl.1 rfl (lv_room (Nat.le_of_ble_eq_true rfl)) dL_set_3 ⟨Nat.le_of_ble_eq_true rfl, Nat.le_of_ble_eq_true rfl⟩) [0, 1, 2, 3, 4, 5, 6] [] rfl rfl rfl (by decide) (fun ce q9 H locs hP hD hS hce hcv hcl => ?_)
  refine vx_catch hown [⟨0, 6, 9, 13⟩] ⟨0, 6, 12, 15⟩ [] htab (fun z hz => by obtain rfl := List.mem_singleton.mp hz; exact Or.inr ⟨by decide, xISE, hts _ clL_set_13, hT.2.2.2.2.1 (xIOB, xISE) (List.mem_of_getElem? (i := 0) rfl)⟩) rfl (by decide) (hts _ clL_set_15) (va_Nw.use rfl (hT.2.2.1 (xIOB, xIOB) (List.mem_of_getElem? (i := 1) rfl))) hce hcv hcl ?_
  refine lv_astore_n (lv' := [(3, .ref q9), (0, .ref h0), (1, .int x), (2, .int y)]) hx hb dL_set_12 rfl hl (by decide) rfl (fun ls hl => ?_)
  refine lv_iconst (v := (2)) hx hb dL_set_13 (by decide) ?_
  exact e_I hx hb hr hlocks hP hD hS rfl dL_set_14
set_option maxHeartbeats 4000000 in
set_option maxRecDepth 100000 in
theorem tL_set_ok {l : Launch} {D : va_G} {cI cZ cJ : ClassId} {h0 a0 a1 a2 a3 a4 a5 : Nat} (hl0 : l.stackTraces = false) (bf pw hs lo lg rt : Nat → Int32) (nb : Int32) (fi fo en : Nat) (cu ma : Int32) (k : Nat) (hk : k < 64) (y : Int32) (oj : Nat) (og : Nat → Int64) : RH l yL_set wsL_set 9 1 6 D (tyL cI cZ cJ) (wC h0 a0 a1 a2 a3 a4 a5 cI cZ bf pw hs lo lg rt nb (nI fi) (nI fo) (nI en) 1 cu ma) [.ref h0, .int (nI k), .int y] 0 (wC h0 a0 a1 a2 a3 a4 a5 cI cZ (upd bf k y) pw hs lo lg rt nb (nI fi) (nI fo) (nI en) 1 cu ma) := by
  refine st_H (cc := cL_set) (maxL := 4) (ret := (some .int)) (hh := [(0, 6, 9, 13), (0, 6, 12, 15)]) (by decide +kernel) rfl (Nat.le_of_ble_eq_true rfl) ?_
  intro p e s m below meth c A hx hb hr hts hown hml hlocks hK hP hD hA hS ls hl hT htab
  have hown : s.vm.findClass RL = some m.cls := hown
  have hl : lv_has ls 4 [(0, .ref h0), (1, .int (nI k)), (2, .int y)] := hl
  refine lv_aload_n hx hb dL_set_0 rfl (lv_at hl 0 rfl) ?_
  refine lv_iload_n hx hb dL_set_1 rfl (lv_at hl 1 rfl) ?_
  refine lv_iload_n hx hb dL_set_2 rfl (lv_at hl 2 rfl) ?_
  refine k_V (wr := []) hP hD hS hA (va_runV (As := [.int (nI k), .int y]) (rest := []) ⟨hx, hb, hml, hown, hts⟩ ((tX0_set_ok bf pw hs lo lg rt nb fi fo en cu ma k hk y) _) (cwV 2 hts gL_set_X0_set rfl rfl rfl (by decide +kernel) ⟨Nat.le_of_ble_eq_true rfl, Nat.le_of_ble_eq_true rfl⟩) (pV_B hP hD hK (ci := 0) (q0 := 0) rfl rfl rfl [0, 1] rfl [0, 1, 2, 3, 4, 5, 6] rfl rfl) rfl rfl hl.1 rfl (lv_room (Nat.le_of_ble_eq_true rfl)) dL_set_3 ⟨Nat.le_of_ble_eq_true rfl, Nat.le_of_ble_eq_true rfl⟩) [0, 1, 2, 3, 4, 5, 6] [] rfl rfl rfl (by decide) (fun H locs hP hD hS => ?_)
  have hP : va_P D vwCl (wC h0 a0 a1 a2 a3 a4 a5 cI cZ (upd bf k y) pw hs lo lg rt nb (nI fi) (nI fo) (nI en) 1 cu ma) H := hP
  have hD : va_D A (wC h0 a0 a1 a2 a3 a4 a5 cI cZ (upd bf k y) pw hs lo lg rt nb (nI fi) (nI fo) (nI en) 1 cu ma) := hD
  refine lv_goto (tgt := 15) hx hb dL_set_6 (by decide) ?_
  refine lv_iconst (v := (0)) hx hb dL_set_15 (by decide) ?_
  refine W.widen (k := 1) (n := 6) (Nat.le_of_ble_eq_true rfl) (Nat.le_of_ble_eq_true rfl) ?_
  exact e_I hx hb hr hlocks hP hD hS rfl dL_set_16
set_option maxHeartbeats 4000000 in
set_option maxRecDepth 100000 in
theorem tL_fill_ok {l : Launch} {D : va_G} {cI cZ cJ : ClassId} {h0 a0 a1 a2 a3 a4 a5 : Nat} (hl0 : l.stackTraces = false) (bf pw hs lo lg rt : Nat → Int32) (nb : Int32) (fi fo en : Nat) (cu ma : Int32) (x y : Int32) (oj : Nat) (og : Nat → Int64) : RH l yL_fill wsL_fill 9 1 6 D (tyL cI cZ cJ) (wC h0 a0 a1 a2 a3 a4 a5 cI cZ bf pw hs lo lg rt nb (nI fi) (nI fo) (nI en) 1 cu ma) [.ref h0, .int x, .int y] 0 (wC h0 a0 a1 a2 a3 a4 a5 cI cZ (fl (fun j => x + nI j * y) 64 bf) pw hs lo lg rt nb (nI fi) (nI fo) (nI en) 1 cu ma) := by
  refine st_H (cc := cL_fill) (maxL := 4) (ret := (some .int)) (hh := [(0, 6, 9, 13)]) (by decide +kernel) rfl (Nat.le_of_ble_eq_true rfl) ?_
  intro p e s m below meth c A hx hb hr hts hown hml hlocks hK hP hD hA hS ls hl hT htab
  have hown : s.vm.findClass RL = some m.cls := hown
  have hl : lv_has ls 4 [(0, .ref h0), (1, .int x), (2, .int y)] := hl
  refine lv_aload_n hx hb dL_fill_0 rfl (lv_at hl 0 rfl) ?_
  refine lv_iload_n hx hb dL_fill_1 rfl (lv_at hl 1 rfl) ?_
  refine lv_iload_n hx hb dL_fill_2 rfl (lv_at hl 2 rfl) ?_
  refine k_V (wr := []) hP hD hS hA (va_runV (As := [.int x, .int y]) (rest := []) ⟨hx, hb, hml, hown, hts⟩ ((tX0_fill_ok bf pw hs lo lg rt nb fi fo en cu ma x y) _) (cwV 2 hts gL_fill_X0_fill rfl rfl rfl (by decide +kernel) ⟨Nat.le_of_ble_eq_true rfl, Nat.le_of_ble_eq_true rfl⟩) (pV_B hP hD hK (ci := 0) (q0 := 0) rfl rfl rfl [0, 1] rfl [0, 1, 2, 3, 4, 5, 6] rfl rfl) rfl rfl hl.1 rfl (lv_room (Nat.le_of_ble_eq_true rfl)) dL_fill_3 ⟨Nat.le_of_ble_eq_true rfl, Nat.le_of_ble_eq_true rfl⟩) [0, 1, 2, 3, 4, 5, 6] [] rfl rfl rfl (by decide) (fun H locs hP hD hS => ?_)
  have hP : va_P D vwCl (wC h0 a0 a1 a2 a3 a4 a5 cI cZ (fl (fun j => x + nI j * y) 64 bf) pw hs lo lg rt nb (nI fi) (nI fo) (nI en) 1 cu ma) H := hP
  have hD : va_D A (wC h0 a0 a1 a2 a3 a4 a5 cI cZ (fl (fun j => x + nI j * y) 64 bf) pw hs lo lg rt nb (nI fi) (nI fo) (nI en) 1 cu ma) := hD
  refine lv_goto (tgt := 12) hx hb dL_fill_6 (by decide) ?_
  refine lv_iconst (v := (0)) hx hb dL_fill_12 (by decide) ?_
  refine W.widen (k := 1) (n := 6) (Nat.le_of_ble_eq_true rfl) (Nat.le_of_ble_eq_true rfl) ?_
  exact e_I hx hb hr hlocks hP hD hS rfl dL_fill_13
set_option maxHeartbeats 4000000 in
set_option maxRecDepth 100000 in
theorem tL_get_xb {l : Launch} {D : va_G} {cI cZ cJ : ClassId} {h0 a0 a1 a2 a3 a4 a5 : Nat} (hl0 : l.stackTraces = false) (bf pw hs lo lg rt : Nat → Int32) (nb : Int32) (fi fo en : Nat) (on cu ma : Int32) (x : Int32) (h : x < 0 ∨ nI 64 ≤ x) (oj : Nat) (og : Nat → Int64) : RH l yL_get wsL_get 9 1 6 D (tyL cI cZ cJ) (wC h0 a0 a1 a2 a3 a4 a5 cI cZ bf pw hs lo lg rt nb (nI fi) (nI fo) (nI en) on cu ma ++ wO oj cJ og) [.ref h0, .int x, .ref oj] 1 (wC h0 a0 a1 a2 a3 a4 a5 cI cZ bf pw hs lo lg rt nb (nI fi) (nI fo) (nI en) on cu ma ++ wO oj cJ og) := by
  refine st_H (cc := cL_get) (maxL := 4) (ret := (some .int)) (hh := [(0, 9, 12, 15)]) (by decide +kernel) rfl (Nat.le_of_ble_eq_true rfl) ?_
  intro p e s m below meth c A hx hb hr hts hown hml hlocks hK hP hD hA hS ls hl hT htab
  have hown : s.vm.findClass RL = some m.cls := hown
  have hl : lv_has ls 4 [(0, .ref h0), (1, .int x), (2, .ref oj)] := hl
  refine lv_aload_n hx hb dL_get_0 rfl (lv_at hl 2 rfl) ?_
  refine lv_iconst (v := (nI 0)) hx hb dL_get_1 (by decide) ?_
  refine lv_aload_n hx hb dL_get_2 rfl (lv_at hl 0 rfl) ?_
  refine lv_iload_n hx hb dL_get_3 rfl (lv_at hl 1 rfl) ?_
  refine k_X (wr := wO oj cJ og) hP hD hS hA (vx_runV (As := [.int x]) (rest := [.int (nI 0), .ref oj]) ⟨hx, hb, hml, hown, hts⟩ ((tX0_get_xb hl0 bf pw hs lo lg rt nb fi fo en on cu ma x h) _) (cwV 1 hts gL_get_X0_get rfl rfl rfl (by decide +kernel) ⟨Nat.le_of_ble_eq_true rfl, Nat.le_of_ble_eq_true rfl⟩) (pV_X hP hD hK hS hA hT (ci := 0) (q0 := 0) rfl rfl rfl [0, 1] rfl [0, 1, 2, 3, 4, 5, 6] rfl rfl) rfl rfl hl.1 rfl (lv_room (Nat.le_of_ble_eq_true rfl)) dL_get_4 ⟨Nat.le_of_ble_eq_true rfl, Nat.le_of_ble_eq_true rfl⟩) [0, 1, 2, 3, 4, 5, 6] [7] rfl rfl rfl (by decide) (fun ce q9 H locs hP hD hS hce hcv hcl => ?_)
  have hP : va_P D vwCl (wC h0 a0 a1 a2 a3 a4 a5 cI cZ bf pw hs lo lg rt nb (nI fi) (nI fo) (nI en) on cu ma ++ wO oj cJ og) H := hP.sub [1, 2, 3, 4, 5, 6, 7, 0] rfl
  have hD : va_D A (wC h0 a0 a1 a2 a3 a4 a5 cI cZ bf pw hs lo lg rt nb (nI fi) (nI fo) (nI en) on cu ma ++ wO oj cJ og) := hD.sub [1, 2, 3, 4, 5, 6, 7, 0] (by decide) rfl
  refine vx_catch hown [] ⟨0, 9, 12, 15⟩ [] htab (fun z hz => nomatch hz) rfl (by decide) (hts _ clL_get_15) (va_Nw.use rfl (hT.2.2.1 (xIOB, xIOB) (List.mem_of_getElem? (i := 1) rfl))) hce hcv hcl ?_
  refine lv_astore_n (lv' := [(3, .ref q9), (0, .ref h0), (1, .int x), (2, .ref oj)]) hx hb dL_get_12 rfl hl (by decide) rfl (fun ls hl => ?_)
  refine lv_iconst (v := (1)) hx hb dL_get_13 (by decide) ?_
  exact e_I hx hb hr hlocks hP hD hS rfl dL_get_14
set_option maxHeartbeats 4000000 in
set_option maxRecDepth 100000 in
theorem tL_get_ok {l : Launch} {D : va_G} {cI cZ cJ : ClassId} {h0 a0 a1 a2 a3 a4 a5 : Nat} (hl0 : l.stackTraces = false) (bf pw hs lo lg rt : Nat → Int32) (nb : Int32) (fi fo en : Nat) (on cu ma : Int32) (k : Nat) (hk : k < 64) (oj : Nat) (og : Nat → Int64) : RH l yL_get wsL_get 9 1 6 D (tyL cI cZ cJ) (wC h0 a0 a1 a2 a3 a4 a5 cI cZ bf pw hs lo lg rt nb (nI fi) (nI fo) (nI en) on cu ma ++ wO oj cJ og) [.ref h0, .int (nI k), .ref oj] 0 (wC h0 a0 a1 a2 a3 a4 a5 cI cZ bf pw hs lo lg rt nb (nI fi) (nI fo) (nI en) on cu ma ++ wO oj cJ (vp_updL og 0 (Int32.toInt64 (bf k)))) := by
  refine st_H (cc := cL_get) (maxL := 4) (ret := (some .int)) (hh := [(0, 9, 12, 15)]) (by decide +kernel) rfl (Nat.le_of_ble_eq_true rfl) ?_
  intro p e s m below meth c A hx hb hr hts hown hml hlocks hK hP hD hA hS ls hl hT htab
  have hown : s.vm.findClass RL = some m.cls := hown
  have hl : lv_has ls 4 [(0, .ref h0), (1, .int (nI k)), (2, .ref oj)] := hl
  refine lv_aload_n hx hb dL_get_0 rfl (lv_at hl 2 rfl) ?_
  refine lv_iconst (v := (nI 0)) hx hb dL_get_1 (by decide) ?_
  refine lv_aload_n hx hb dL_get_2 rfl (lv_at hl 0 rfl) ?_
  refine lv_iload_n hx hb dL_get_3 rfl (lv_at hl 1 rfl) ?_
  refine k_I (wr := wO oj cJ og) hP hD hS hA (va_runV (As := [.int (nI k)]) (rest := [.int (nI 0), .ref oj]) ⟨hx, hb, hml, hown, hts⟩ ((tX0_get_ok bf pw hs lo lg rt nb fi fo en on cu ma k hk) _) (cwV 1 hts gL_get_X0_get rfl rfl rfl (by decide +kernel) ⟨Nat.le_of_ble_eq_true rfl, Nat.le_of_ble_eq_true rfl⟩) (pV_B hP hD hK (ci := 0) (q0 := 0) rfl rfl rfl [0, 1] rfl [0, 1, 2, 3, 4, 5, 6] rfl rfl) rfl rfl hl.1 rfl (lv_room (Nat.le_of_ble_eq_true rfl)) dL_get_4 ⟨Nat.le_of_ble_eq_true rfl, Nat.le_of_ble_eq_true rfl⟩) [0, 1, 2, 3, 4, 5, 6] [7] rfl rfl rfl (by decide) (fun H locs hP hD hS => ?_)
  have hP : va_P D vwCl (wC h0 a0 a1 a2 a3 a4 a5 cI cZ bf pw hs lo lg rt nb (nI fi) (nI fo) (nI en) on cu ma ++ wO oj cJ og) H := hP.sub [1, 2, 3, 4, 5, 6, 7, 0] rfl
  have hD : va_D A (wC h0 a0 a1 a2 a3 a4 a5 cI cZ bf pw hs lo lg rt nb (nI fi) (nI fo) (nI en) on cu ma ++ wO oj cJ og) := hD.sub [1, 2, 3, 4, 5, 6, 7, 0] (by decide) rfl
  refine lv_i2l (v := Int32.toInt64 (bf k)) hx hb dL_get_7 rfl ?_
  refine n_last hx hb hK hP hD hS 7 2 rfl rfl 0 (by omega) (by omega) dL_get_8 (fun H locs hP hD hS => ?_)
  have hP : va_P D vwCl (wC h0 a0 a1 a2 a3 a4 a5 cI cZ bf pw hs lo lg rt nb (nI fi) (nI fo) (nI en) on cu ma ++ wO oj cJ (vp_updL og 0 (Int32.toInt64 (bf k)))) H := hP
  have hD : va_D A (wC h0 a0 a1 a2 a3 a4 a5 cI cZ bf pw hs lo lg rt nb (nI fi) (nI fo) (nI en) on cu ma ++ wO oj cJ (vp_updL og 0 (Int32.toInt64 (bf k)))) := hD
  refine lv_goto (tgt := 15) hx hb dL_get_9 (by decide) ?_
  refine lv_iconst (v := (0)) hx hb dL_get_15 (by decide) ?_
  refine W.widen (k := 1) (n := 6) (Nat.le_of_ble_eq_true rfl) (Nat.le_of_ble_eq_true rfl) ?_
  exact e_I hx hb hr hlocks hP hD hS rfl dL_get_16
set_option maxHeartbeats 4000000 in
set_option maxRecDepth 100000 in
theorem tL_write_xb {l : Launch} {D : va_G} {cI cZ cJ : ClassId} {h0 a0 a1 a2 a3 a4 a5 : Nat} (hl0 : l.stackTraces = false) (bf pw hs lo lg rt : Nat → Int32) (nb : Int32) (fi fo en : Nat) (cu ma : Int32) (x y : Int32) (h : badP x y) (oj : Nat) (og : Nat → Int64) : RH l yL_write wsL_write 9 1 6 D (tyL cI cZ cJ) (wC h0 a0 a1 a2 a3 a4 a5 cI cZ bf pw hs lo lg rt nb (nI fi) (nI fo) (nI en) 1 cu ma ++ wO oj cJ og) [.ref h0, .int x, .int y, .ref oj] 2 (wC h0 a0 a1 a2 a3 a4 a5 cI cZ bf pw hs lo lg rt nb (nI fi) (nI fo) (nI en) 1 cu ma ++ wO oj cJ og) := by
  refine st_H (cc := cL_write) (maxL := 5) (ret := (some .int)) (hh := [(0, 10, 13, 13), (0, 10, 17, 15)]) (by decide +kernel) rfl (Nat.le_of_ble_eq_true rfl) ?_
  intro p e s m below meth c A hx hb hr hts hown hml hlocks hK hP hD hA hS ls hl hT htab
  have hown : s.vm.findClass RL = some m.cls := hown
  have hl : lv_has ls 5 [(0, .ref h0), (1, .int x), (2, .int y), (3, .ref oj)] := hl
  refine lv_aload_n hx hb dL_write_0 rfl (lv_at hl 3 rfl) ?_
  refine lv_iconst (v := (nI 0)) hx hb dL_write_1 (by decide) ?_
  refine lv_aload_n hx hb dL_write_2 rfl (lv_at hl 0 rfl) ?_
  refine lv_iload_n hx hb dL_write_3 rfl (lv_at hl 1 rfl) ?_
  refine lv_iload_n hx hb dL_write_4 rfl (lv_at hl 2 rfl) ?_
  refine k_X (wr := wO oj cJ og) hP hD hS hA (vx_runV (As := [.int x, .int y]) (rest := [.int (nI 0), .ref oj]) ⟨hx, hb, hml, hown, hts⟩ ((tX0_write_xb hl0 bf pw hs lo lg rt nb fi fo en cu ma x y h) _) (cwV 2 hts gL_write_X0_write rfl rfl rfl (by decide +kernel) ⟨Nat.le_of_ble_eq_true rfl, Nat.le_of_ble_eq_true rfl⟩) (pV_X hP hD hK hS hA hT (ci := 0) (q0 := 0) rfl rfl rfl [0, 1] rfl [0, 1, 2, 3, 4, 5, 6] rfl rfl) rfl rfl hl.1 rfl (lv_room (Nat.le_of_ble_eq_true rfl)) dL_write_5 ⟨Nat.le_of_ble_eq_true rfl, Nat.le_of_ble_eq_true rfl⟩) [0, 1, 2, 3, 4, 5, 6] [7] rfl rfl rfl (by decide) (fun ce q9 H locs hP hD hS hce hcv hcl => ?_)
  have hP : va_P D vwCl (wC h0 a0 a1 a2 a3 a4 a5 cI cZ bf pw hs lo lg rt nb (nI fi) (nI fo) (nI en) 1 cu ma ++ wO oj cJ og) H := hP.sub [1, 2, 3, 4, 5, 6, 7, 0] rfl
  have hD : va_D A (wC h0 a0 a1 a2 a3 a4 a5 cI cZ bf pw hs lo lg rt nb (nI fi) (nI fo) (nI en) 1 cu ma ++ wO oj cJ og) := hD.sub [1, 2, 3, 4, 5, 6, 7, 0] (by decide) rfl
  refine vx_catch hown [⟨0, 10, 13, 13⟩] ⟨0, 10, 17, 15⟩ [] htab (fun z hz => by obtain rfl := List.mem_singleton.mp hz; exact Or.inr ⟨by decide, xISE, hts _ clL_write_13, hT.2.2.2.2.1 (xIOB, xISE) (List.mem_of_getElem? (i := 0) rfl)⟩) rfl (by decide) (hts _ clL_write_15) (va_Nw.use rfl (hT.2.2.1 (xIOB, xIOB) (List.mem_of_getElem? (i := 1) rfl))) hce hcv hcl ?_
  refine lv_astore (lv' := [(4, .ref q9), (0, .ref h0), (1, .int x), (2, .int y), (3, .ref oj)]) hx hb dL_write_17 hl (by decide) rfl (fun ls hl => ?_)
  refine lv_iconst (v := (2)) hx hb dL_write_19 (by decide) ?_
  exact e_I hx hb hr hlocks hP hD hS rfl dL_write_20
set_option maxHeartbeats 4000000 in
set_option maxRecDepth 100000 in
theorem tL_read_xb {l : Launch} {D : va_G} {cI cZ cJ : ClassId} {h0 a0 a1 a2 a3 a4 a5 : Nat} (hl0 : l.stackTraces = false) (bf pw hs lo lg rt : Nat → Int32) (nb : Int32) (fi fo en : Nat) (cu ma : Int32) (x y : Int32) (h : badP x y) (oj : Nat) (og : Nat → Int64) : RH l yL_read wsL_read 9 1 6 D (tyL cI cZ cJ) (wC h0 a0 a1 a2 a3 a4 a5 cI cZ bf pw hs lo lg rt nb (nI fi) (nI fo) (nI en) 1 cu ma ++ wO oj cJ og) [.ref h0, .int x, .int y, .ref oj] 2 (wC h0 a0 a1 a2 a3 a4 a5 cI cZ bf pw hs lo lg rt nb (nI fi) (nI fo) (nI en) 1 cu ma ++ wO oj cJ og) := by
  refine st_H (cc := cL_read) (maxL := 5) (ret := (some .int)) (hh := [(0, 10, 13, 13), (0, 10, 17, 15)]) (by decide +kernel) rfl (Nat.le_of_ble_eq_true rfl) ?_
  intro p e s m below meth c A hx hb hr hts hown hml hlocks hK hP hD hA hS ls hl hT htab
  have hown : s.vm.findClass RL = some m.cls := hown
  have hl : lv_has ls 5 [(0, .ref h0), (1, .int x), (2, .int y), (3, .ref oj)] := hl
  refine lv_aload_n hx hb dL_read_0 rfl (lv_at hl 3 rfl) ?_
  refine lv_iconst (v := (nI 0)) hx hb dL_read_1 (by decide) ?_
  refine lv_aload_n hx hb dL_read_2 rfl (lv_at hl 0 rfl) ?_
  refine lv_iload_n hx hb dL_read_3 rfl (lv_at hl 1 rfl) ?_
  refine lv_iload_n hx hb dL_read_4 rfl (lv_at hl 2 rfl) ?_
  refine k_X (wr := wO oj cJ og) hP hD hS hA (vx_runV (As := [.int x, .int y]) (rest := [.int (nI 0), .ref oj]) ⟨hx, hb, hml, hown, hts⟩ ((tX0_read_xb hl0 bf pw hs lo lg rt nb fi fo en cu ma x y h) _) (cwV 2 hts gL_read_X0_read rfl rfl rfl (by decide +kernel) ⟨Nat.le_of_ble_eq_true rfl, Nat.le_of_ble_eq_true rfl⟩) (pV_X hP hD hK hS hA hT (ci := 0) (q0 := 0) rfl rfl rfl [0, 1] rfl [0, 1, 2, 3, 4, 5, 6] rfl rfl) rfl rfl hl.1 rfl (lv_room (Nat.le_of_ble_eq_true rfl)) dL_read_5 ⟨Nat.le_of_ble_eq_true rfl, Nat.le_of_ble_eq_true rfl⟩) [0, 1, 2, 3, 4, 5, 6] [7] rfl rfl rfl (by decide) (fun ce q9 H locs hP hD hS hce hcv hcl => ?_)
  have hP : va_P D vwCl (wC h0 a0 a1 a2 a3 a4 a5 cI cZ bf pw hs lo lg rt nb (nI fi) (nI fo) (nI en) 1 cu ma ++ wO oj cJ og) H := hP.sub [1, 2, 3, 4, 5, 6, 7, 0] rfl
  have hD : va_D A (wC h0 a0 a1 a2 a3 a4 a5 cI cZ bf pw hs lo lg rt nb (nI fi) (nI fo) (nI en) 1 cu ma ++ wO oj cJ og) := hD.sub [1, 2, 3, 4, 5, 6, 7, 0] (by decide) rfl
  refine vx_catch hown [⟨0, 10, 13, 13⟩] ⟨0, 10, 17, 15⟩ [] htab (fun z hz => by obtain rfl := List.mem_singleton.mp hz; exact Or.inr ⟨by decide, xISE, hts _ clL_read_13, hT.2.2.2.2.1 (xIOB, xISE) (List.mem_of_getElem? (i := 0) rfl)⟩) rfl (by decide) (hts _ clL_read_15) (va_Nw.use rfl (hT.2.2.1 (xIOB, xIOB) (List.mem_of_getElem? (i := 1) rfl))) hce hcv hcl ?_
  refine lv_astore (lv' := [(4, .ref q9), (0, .ref h0), (1, .int x), (2, .int y), (3, .ref oj)]) hx hb dL_read_17 hl (by decide) rfl (fun ls hl => ?_)
  refine lv_iconst (v := (2)) hx hb dL_read_19 (by decide) ?_
  exact e_I hx hb hr hlocks hP hD hS rfl dL_read_20
set_option maxHeartbeats 4000000 in
set_option maxRecDepth 100000 in
theorem tL_copy_xb {l : Launch} {D : va_G} {cI cZ cJ : ClassId} {h0 a0 a1 a2 a3 a4 a5 : Nat} (hl0 : l.stackTraces = false) (bf pw hs lo lg rt : Nat → Int32) (nb : Int32) (fi fo en : Nat) (cu ma : Int32) (x y : Int32) (h : badP x y) (oj : Nat) (og : Nat → Int64) : RH l yL_copy wsL_copy 9 1 6 D (tyL cI cZ cJ) (wC h0 a0 a1 a2 a3 a4 a5 cI cZ bf pw hs lo lg rt nb (nI fi) (nI fo) (nI en) 1 cu ma ++ wO oj cJ og) [.ref h0, .int x, .int y, .ref oj] 2 (wC h0 a0 a1 a2 a3 a4 a5 cI cZ bf pw hs lo lg rt nb (nI fi) (nI fo) (nI en) 1 cu ma ++ wO oj cJ og) := by
  refine st_H (cc := cL_copy) (maxL := 5) (ret := (some .int)) (hh := [(0, 10, 13, 13), (0, 10, 17, 15)]) (by decide +kernel) rfl (Nat.le_of_ble_eq_true rfl) ?_
  intro p e s m below meth c A hx hb hr hts hown hml hlocks hK hP hD hA hS ls hl hT htab
  have hown : s.vm.findClass RL = some m.cls := hown
  have hl : lv_has ls 5 [(0, .ref h0), (1, .int x), (2, .int y), (3, .ref oj)] := hl
  refine lv_aload_n hx hb dL_copy_0 rfl (lv_at hl 3 rfl) ?_
  refine lv_iconst (v := (nI 0)) hx hb dL_copy_1 (by decide) ?_
  refine lv_aload_n hx hb dL_copy_2 rfl (lv_at hl 0 rfl) ?_
  refine lv_iload_n hx hb dL_copy_3 rfl (lv_at hl 1 rfl) ?_
  refine lv_iload_n hx hb dL_copy_4 rfl (lv_at hl 2 rfl) ?_
  refine k_X (wr := wO oj cJ og) hP hD hS hA (vx_runV (As := [.int x, .int y]) (rest := [.int (nI 0), .ref oj]) ⟨hx, hb, hml, hown, hts⟩ ((tX0_copy_xb hl0 bf pw hs lo lg rt nb fi fo en cu ma x y h) _) (cwV 2 hts gL_copy_X0_copy rfl rfl rfl (by decide +kernel) ⟨Nat.le_of_ble_eq_true rfl, Nat.le_of_ble_eq_true rfl⟩) (pV_X hP hD hK hS hA hT (ci := 0) (q0 := 0) rfl rfl rfl [0, 1] rfl [0, 1, 2, 3, 4, 5, 6] rfl rfl) rfl rfl hl.1 rfl (lv_room (Nat.le_of_ble_eq_true rfl)) dL_copy_5 ⟨Nat.le_of_ble_eq_true rfl, Nat.le_of_ble_eq_true rfl⟩) [0, 1, 2, 3, 4, 5, 6] [7] rfl rfl rfl (by decide) (fun ce q9 H locs hP hD hS hce hcv hcl => ?_)
  have hP : va_P D vwCl (wC h0 a0 a1 a2 a3 a4 a5 cI cZ bf pw hs lo lg rt nb (nI fi) (nI fo) (nI en) 1 cu ma ++ wO oj cJ og) H := hP.sub [1, 2, 3, 4, 5, 6, 7, 0] rfl
  have hD : va_D A (wC h0 a0 a1 a2 a3 a4 a5 cI cZ bf pw hs lo lg rt nb (nI fi) (nI fo) (nI en) 1 cu ma ++ wO oj cJ og) := hD.sub [1, 2, 3, 4, 5, 6, 7, 0] (by decide) rfl
  refine vx_catch hown [⟨0, 10, 13, 13⟩] ⟨0, 10, 17, 15⟩ [] htab (fun z hz => by obtain rfl := List.mem_singleton.mp hz; exact Or.inr ⟨by decide, xISE, hts _ clL_copy_13, hT.2.2.2.2.1 (xIOB, xISE) (List.mem_of_getElem? (i := 0) rfl)⟩) rfl (by decide) (hts _ clL_copy_15) (va_Nw.use rfl (hT.2.2.1 (xIOB, xIOB) (List.mem_of_getElem? (i := 1) rfl))) hce hcv hcl ?_
  refine lv_astore (lv' := [(4, .ref q9), (0, .ref h0), (1, .int x), (2, .int y), (3, .ref oj)]) hx hb dL_copy_17 hl (by decide) rfl (fun ls hl => ?_)
  refine lv_iconst (v := (2)) hx hb dL_copy_19 (by decide) ?_
  exact e_I hx hb hr hlocks hP hD hS rfl dL_copy_20
set_option maxHeartbeats 4000000 in
set_option maxRecDepth 100000 in
theorem tL_lose_xb {l : Launch} {D : va_G} {cI cZ cJ : ClassId} {h0 a0 a1 a2 a3 a4 a5 : Nat} (hl0 : l.stackTraces = false) (bf pw hs lo lg rt : Nat → Int32) (nb : Int32) (fi fo en : Nat) (on cu ma : Int32) (x y : Int32) (h : badP x y) (oj : Nat) (og : Nat → Int64) : RH l yL_lose wsL_lose 9 1 6 D (tyL cI cZ cJ) (wC h0 a0 a1 a2 a3 a4 a5 cI cZ bf pw hs lo lg rt nb (nI fi) (nI fo) (nI en) on cu ma) [.ref h0, .int x, .int y] 1 (wC h0 a0 a1 a2 a3 a4 a5 cI cZ bf pw hs lo lg rt nb (nI fi) (nI fo) (nI en) on cu ma) := by
  refine st_H (cc := cL_lose) (maxL := 4) (ret := (some .int)) (hh := [(0, 6, 9, 15)]) (by decide +kernel) rfl (Nat.le_of_ble_eq_true rfl) ?_
  intro p e s m below meth c A hx hb hr hts hown hml hlocks hK hP hD hA hS ls hl hT htab
  have hown : s.vm.findClass RL = some m.cls := hown
  have hl : lv_has ls 4 [(0, .ref h0), (1, .int x), (2, .int y)] := hl
  refine lv_aload_n hx hb dL_lose_0 rfl (lv_at hl 0 rfl) ?_
  refine lv_iload_n hx hb dL_lose_1 rfl (lv_at hl 1 rfl) ?_
  refine lv_iload_n hx hb dL_lose_2 rfl (lv_at hl 2 rfl) ?_
  refine k_X (wr := []) hP hD hS hA (vx_runV (As := [.int x, .int y]) (rest := []) ⟨hx, hb, hml, hown, hts⟩ ((tX0_lose_xb hl0 bf pw hs lo lg rt nb fi fo en on cu ma x y h) _) (cwV 2 hts gL_lose_X0_lose rfl rfl rfl (by decide +kernel) ⟨Nat.le_of_ble_eq_true rfl, Nat.le_of_ble_eq_true rfl⟩) (pV_X hP hD hK hS hA hT (ci := 0) (q0 := 0) rfl rfl rfl [0, 1] rfl [0, 1, 2, 3, 4, 5, 6] rfl rfl) rfl rfl hl.1 rfl (lv_room (Nat.le_of_ble_eq_true rfl)) dL_lose_3 ⟨Nat.le_of_ble_eq_true rfl, Nat.le_of_ble_eq_true rfl⟩) [0, 1, 2, 3, 4, 5, 6] [] rfl rfl rfl (by decide) (fun ce q9 H locs hP hD hS hce hcv hcl => ?_)
  refine vx_catch hown [] ⟨0, 6, 9, 15⟩ [] htab (fun z hz => nomatch hz) rfl (by decide) (hts _ clL_lose_15) (va_Nw.use rfl (hT.2.2.1 (xIOB, xIOB) (List.mem_of_getElem? (i := 1) rfl))) hce hcv hcl ?_
  refine lv_astore_n (lv' := [(3, .ref q9), (0, .ref h0), (1, .int x), (2, .int y)]) hx hb dL_lose_9 rfl hl (by decide) rfl (fun ls hl => ?_)
  refine lv_iconst (v := (1)) hx hb dL_lose_10 (by decide) ?_
  exact e_I hx hb hr hlocks hP hD hS rfl dL_lose_11
set_option maxHeartbeats 4000000 in
set_option maxRecDepth 100000 in
theorem tL_write_ok0 {l : Launch} {D : va_G} {cI cZ cJ : ClassId} {h0 a0 a1 a2 a3 a4 a5 : Nat} (hl0 : l.stackTraces = false) (bf pw hs lo lg rt : Nat → Int32) (nb : Int32) (fi fo en : Nat) (cu ma : Int32) (ar pg : Nat) (h1 : ar < 2) (h2 : pg < 256) (h : cu = 0) (oj : Nat) (og : Nat → Int64) : RH l yL_write wsL_write 9 1 6 D (tyL cI cZ cJ) (wC h0 a0 a1 a2 a3 a4 a5 cI cZ bf pw hs lo lg rt nb (nI fi) (nI fo) (nI en) 1 cu ma ++ wO oj cJ og) [.ref h0, .int (nI ar), .int (nI pg), .ref oj] 0 (wC h0 a0 a1 a2 a3 a4 a5 cI cZ (zf bf) pw hs lo lg rt (nb + 1) (nI fi) (nI fo) (nI fo) 0 cu ma ++ wO oj cJ (vp_updL og 0 (Int32.toInt64 (-1)))) := by
  refine st_H (cc := cL_write) (maxL := 5) (ret := (some .int)) (hh := [(0, 10, 13, 13), (0, 10, 17, 15)]) (by decide +kernel) rfl (Nat.le_of_ble_eq_true rfl) ?_
  intro p e s m below meth c A hx hb hr hts hown hml hlocks hK hP hD hA hS ls hl hT htab
  have hown : s.vm.findClass RL = some m.cls := hown
  have hl : lv_has ls 5 [(0, .ref h0), (1, .int (nI ar)), (2, .int (nI pg)), (3, .ref oj)] := hl
  refine lv_aload_n hx hb dL_write_0 rfl (lv_at hl 3 rfl) ?_
  refine lv_iconst (v := (nI 0)) hx hb dL_write_1 (by decide) ?_
  refine lv_aload_n hx hb dL_write_2 rfl (lv_at hl 0 rfl) ?_
  refine lv_iload_n hx hb dL_write_3 rfl (lv_at hl 1 rfl) ?_
  refine lv_iload_n hx hb dL_write_4 rfl (lv_at hl 2 rfl) ?_
  refine k_I (wr := wO oj cJ og) hP hD hS hA (va_runV (As := [.int (nI ar), .int (nI pg)]) (rest := [.int (nI 0), .ref oj]) ⟨hx, hb, hml, hown, hts⟩ ((tX0_write_ok0 bf pw hs lo lg rt nb fi fo en cu ma ar pg h1 h2 h) _) (cwV 2 hts gL_write_X0_write rfl rfl rfl (by decide +kernel) ⟨Nat.le_of_ble_eq_true rfl, Nat.le_of_ble_eq_true rfl⟩) (pV_B hP hD hK (ci := 0) (q0 := 0) rfl rfl rfl [0, 1] rfl [0, 1, 2, 3, 4, 5, 6] rfl rfl) rfl rfl hl.1 rfl (lv_room (Nat.le_of_ble_eq_true rfl)) dL_write_5 ⟨Nat.le_of_ble_eq_true rfl, Nat.le_of_ble_eq_true rfl⟩) [0, 1, 2, 3, 4, 5, 6] [7] rfl rfl rfl (by decide) (fun H locs hP hD hS => ?_)
  have hP : va_P D vwCl (wC h0 a0 a1 a2 a3 a4 a5 cI cZ (zf bf) pw hs lo lg rt (nb + 1) (nI fi) (nI fo) (nI fo) 0 cu ma ++ wO oj cJ og) H := hP.sub [1, 2, 3, 4, 5, 6, 7, 0] rfl
  have hD : va_D A (wC h0 a0 a1 a2 a3 a4 a5 cI cZ (zf bf) pw hs lo lg rt (nb + 1) (nI fi) (nI fo) (nI fo) 0 cu ma ++ wO oj cJ og) := hD.sub [1, 2, 3, 4, 5, 6, 7, 0] (by decide) rfl
  refine lv_i2l (v := Int32.toInt64 (-1)) hx hb dL_write_8 rfl ?_
  refine n_last hx hb hK hP hD hS 7 2 rfl rfl 0 (by omega) (by omega) dL_write_9 (fun H locs hP hD hS => ?_)
  have hP : va_P D vwCl (wC h0 a0 a1 a2 a3 a4 a5 cI cZ (zf bf) pw hs lo lg rt (nb + 1) (nI fi) (nI fo) (nI fo) 0 cu ma ++ wO oj cJ (vp_updL og 0 (Int32.toInt64 (-1)))) H := hP
  have hD : va_D A (wC h0 a0 a1 a2 a3 a4 a5 cI cZ (zf bf) pw hs lo lg rt (nb + 1) (nI fi) (nI fo) (nI fo) 0 cu ma ++ wO oj cJ (vp_updL og 0 (Int32.toInt64 (-1)))) := hD
  refine lv_goto (tgt := 21) hx hb dL_write_10 (by decide) ?_
  refine lv_iconst (v := (0)) hx hb dL_write_21 (by decide) ?_
  refine W.widen (k := 1) (n := 6) (Nat.le_of_ble_eq_true rfl) (Nat.le_of_ble_eq_true rfl) ?_
  exact e_I hx hb hr hlocks hP hD hS rfl dL_write_22
set_option maxHeartbeats 4000000 in
set_option maxRecDepth 100000 in
theorem tL_write_ok1 {l : Launch} {D : va_G} {cI cZ cJ : ClassId} {h0 a0 a1 a2 a3 a4 a5 : Nat} (hl0 : l.stackTraces = false) (bf pw hs lo lg rt : Nat → Int32) (nb : Int32) (fi fo en : Nat) (cu ma : Int32) (ar pg : Nat) (h1 : ar < 2) (h2 : pg < 256) (h : ¬ cu = 0) (hd : dcu cu = 0) (oj : Nat) (og : Nat → Int64) : RH l yL_write wsL_write 9 1 6 D (tyL cI cZ cJ) (wC h0 a0 a1 a2 a3 a4 a5 cI cZ bf pw hs lo lg rt nb (nI fi) (nI fo) (nI en) 1 cu ma ++ wO oj cJ og) [.ref h0, .int (nI ar), .int (nI pg), .ref oj] 0 (wC h0 a0 a1 a2 a3 a4 a5 cI cZ (zf bf) (va_cpy bf pw 0 ((ar * 256 + pg) * 64) 32) (upd hs ((ar * 256 + pg) * 2) (nb + 1)) lo lg rt (nb + 1) (nI fi) (nI fo) (nI fo) 0 (dcu cu) (ma + 1) ++ wO oj cJ (vp_updL og 0 (Int32.toInt64 (-1)))) := by
  refine st_H (cc := cL_write) (maxL := 5) (ret := (some .int)) (hh := [(0, 10, 13, 13), (0, 10, 17, 15)]) (by decide +kernel) rfl (Nat.le_of_ble_eq_true rfl) ?_
  intro p e s m below meth c A hx hb hr hts hown hml hlocks hK hP hD hA hS ls hl hT htab
  have hown : s.vm.findClass RL = some m.cls := hown
  have hl : lv_has ls 5 [(0, .ref h0), (1, .int (nI ar)), (2, .int (nI pg)), (3, .ref oj)] := hl
  refine lv_aload_n hx hb dL_write_0 rfl (lv_at hl 3 rfl) ?_
  refine lv_iconst (v := (nI 0)) hx hb dL_write_1 (by decide) ?_
  refine lv_aload_n hx hb dL_write_2 rfl (lv_at hl 0 rfl) ?_
  refine lv_iload_n hx hb dL_write_3 rfl (lv_at hl 1 rfl) ?_
  refine lv_iload_n hx hb dL_write_4 rfl (lv_at hl 2 rfl) ?_
  refine k_I (wr := wO oj cJ og) hP hD hS hA (va_runV (As := [.int (nI ar), .int (nI pg)]) (rest := [.int (nI 0), .ref oj]) ⟨hx, hb, hml, hown, hts⟩ ((tX0_write_ok1 bf pw hs lo lg rt nb fi fo en cu ma ar pg h1 h2 h hd) _) (cwV 2 hts gL_write_X0_write rfl rfl rfl (by decide +kernel) ⟨Nat.le_of_ble_eq_true rfl, Nat.le_of_ble_eq_true rfl⟩) (pV_B hP hD hK (ci := 0) (q0 := 0) rfl rfl rfl [0, 1] rfl [0, 1, 2, 3, 4, 5, 6] rfl rfl) rfl rfl hl.1 rfl (lv_room (Nat.le_of_ble_eq_true rfl)) dL_write_5 ⟨Nat.le_of_ble_eq_true rfl, Nat.le_of_ble_eq_true rfl⟩) [0, 1, 2, 3, 4, 5, 6] [7] rfl rfl rfl (by decide) (fun H locs hP hD hS => ?_)
  have hP : va_P D vwCl (wC h0 a0 a1 a2 a3 a4 a5 cI cZ (zf bf) (va_cpy bf pw 0 ((ar * 256 + pg) * 64) 32) (upd hs ((ar * 256 + pg) * 2) (nb + 1)) lo lg rt (nb + 1) (nI fi) (nI fo) (nI fo) 0 (dcu cu) (ma + 1) ++ wO oj cJ og) H := hP.sub [1, 2, 3, 4, 5, 6, 7, 0] rfl
  have hD : va_D A (wC h0 a0 a1 a2 a3 a4 a5 cI cZ (zf bf) (va_cpy bf pw 0 ((ar * 256 + pg) * 64) 32) (upd hs ((ar * 256 + pg) * 2) (nb + 1)) lo lg rt (nb + 1) (nI fi) (nI fo) (nI fo) 0 (dcu cu) (ma + 1) ++ wO oj cJ og) := hD.sub [1, 2, 3, 4, 5, 6, 7, 0] (by decide) rfl
  refine lv_i2l (v := Int32.toInt64 (-1)) hx hb dL_write_8 rfl ?_
  refine n_last hx hb hK hP hD hS 7 2 rfl rfl 0 (by omega) (by omega) dL_write_9 (fun H locs hP hD hS => ?_)
  have hP : va_P D vwCl (wC h0 a0 a1 a2 a3 a4 a5 cI cZ (zf bf) (va_cpy bf pw 0 ((ar * 256 + pg) * 64) 32) (upd hs ((ar * 256 + pg) * 2) (nb + 1)) lo lg rt (nb + 1) (nI fi) (nI fo) (nI fo) 0 (dcu cu) (ma + 1) ++ wO oj cJ (vp_updL og 0 (Int32.toInt64 (-1)))) H := hP
  have hD : va_D A (wC h0 a0 a1 a2 a3 a4 a5 cI cZ (zf bf) (va_cpy bf pw 0 ((ar * 256 + pg) * 64) 32) (upd hs ((ar * 256 + pg) * 2) (nb + 1)) lo lg rt (nb + 1) (nI fi) (nI fo) (nI fo) 0 (dcu cu) (ma + 1) ++ wO oj cJ (vp_updL og 0 (Int32.toInt64 (-1)))) := hD
  refine lv_goto (tgt := 21) hx hb dL_write_10 (by decide) ?_
  refine lv_iconst (v := (0)) hx hb dL_write_21 (by decide) ?_
  refine W.widen (k := 1) (n := 6) (Nat.le_of_ble_eq_true rfl) (Nat.le_of_ble_eq_true rfl) ?_
  exact e_I hx hb hr hlocks hP hD hS rfl dL_write_22
set_option maxHeartbeats 4000000 in
set_option maxRecDepth 100000 in
theorem tL_write_ok2 {l : Launch} {D : va_G} {cI cZ cJ : ClassId} {h0 a0 a1 a2 a3 a4 a5 : Nat} (hl0 : l.stackTraces = false) (bf pw hs lo lg rt : Nat → Int32) (nb : Int32) (fi fo en : Nat) (cu ma : Int32) (ar pg : Nat) (h1 : ar < 2) (h2 : pg < 256) (h : ¬ cu = 0) (hd : ¬ dcu cu = 0) (oj : Nat) (og : Nat → Int64) : RH l yL_write wsL_write 9 1 6 D (tyL cI cZ cJ) (wC h0 a0 a1 a2 a3 a4 a5 cI cZ bf pw hs lo lg rt nb (nI fi) (nI fo) (nI en) 1 cu ma ++ wO oj cJ og) [.ref h0, .int (nI ar), .int (nI pg), .ref oj] 0 (wC h0 a0 a1 a2 a3 a4 a5 cI cZ bf (va_cpy bf (va_cpy bf pw 0 ((ar * 256 + pg) * 64) 32) 32 ((ar * 256 + pg) * 64 + 32) 32) (upd (upd hs ((ar * 256 + pg) * 2) (nb + 1)) ((ar * 256 + pg) * 2 + 1) (nb + 1)) (upd lo (ar * 256 + pg) 0) lg rt (nb + 1) (nI fi) (nI fo) (nI en) 1 (dcu (dcu cu)) (ma + 1 + 1) ++ wO oj cJ (vp_updL og 0 (Int32.toInt64 (nb + 1)))) := by
  refine st_H (cc := cL_write) (maxL := 5) (ret := (some .int)) (hh := [(0, 10, 13, 13), (0, 10, 17, 15)]) (by decide +kernel) rfl (Nat.le_of_ble_eq_true rfl) ?_
  intro p e s m below meth c A hx hb hr hts hown hml hlocks hK hP hD hA hS ls hl hT htab
  have hown : s.vm.findClass RL = some m.cls := hown
  have hl : lv_has ls 5 [(0, .ref h0), (1, .int (nI ar)), (2, .int (nI pg)), (3, .ref oj)] := hl
  refine lv_aload_n hx hb dL_write_0 rfl (lv_at hl 3 rfl) ?_
  refine lv_iconst (v := (nI 0)) hx hb dL_write_1 (by decide) ?_
  refine lv_aload_n hx hb dL_write_2 rfl (lv_at hl 0 rfl) ?_
  refine lv_iload_n hx hb dL_write_3 rfl (lv_at hl 1 rfl) ?_
  refine lv_iload_n hx hb dL_write_4 rfl (lv_at hl 2 rfl) ?_
  refine k_I (wr := wO oj cJ og) hP hD hS hA (va_runV (As := [.int (nI ar), .int (nI pg)]) (rest := [.int (nI 0), .ref oj]) ⟨hx, hb, hml, hown, hts⟩ ((tX0_write_ok2 bf pw hs lo lg rt nb fi fo en cu ma ar pg h1 h2 h hd) _) (cwV 2 hts gL_write_X0_write rfl rfl rfl (by decide +kernel) ⟨Nat.le_of_ble_eq_true rfl, Nat.le_of_ble_eq_true rfl⟩) (pV_B hP hD hK (ci := 0) (q0 := 0) rfl rfl rfl [0, 1] rfl [0, 1, 2, 3, 4, 5, 6] rfl rfl) rfl rfl hl.1 rfl (lv_room (Nat.le_of_ble_eq_true rfl)) dL_write_5 ⟨Nat.le_of_ble_eq_true rfl, Nat.le_of_ble_eq_true rfl⟩) [0, 1, 2, 3, 4, 5, 6] [7] rfl rfl rfl (by decide) (fun H locs hP hD hS => ?_)
  have hP : va_P D vwCl (wC h0 a0 a1 a2 a3 a4 a5 cI cZ bf (va_cpy bf (va_cpy bf pw 0 ((ar * 256 + pg) * 64) 32) 32 ((ar * 256 + pg) * 64 + 32) 32) (upd (upd hs ((ar * 256 + pg) * 2) (nb + 1)) ((ar * 256 + pg) * 2 + 1) (nb + 1)) (upd lo (ar * 256 + pg) 0) lg rt (nb + 1) (nI fi) (nI fo) (nI en) 1 (dcu (dcu cu)) (ma + 1 + 1) ++ wO oj cJ og) H := hP.sub [1, 2, 3, 4, 5, 6, 7, 0] rfl
  have hD : va_D A (wC h0 a0 a1 a2 a3 a4 a5 cI cZ bf (va_cpy bf (va_cpy bf pw 0 ((ar * 256 + pg) * 64) 32) 32 ((ar * 256 + pg) * 64 + 32) 32) (upd (upd hs ((ar * 256 + pg) * 2) (nb + 1)) ((ar * 256 + pg) * 2 + 1) (nb + 1)) (upd lo (ar * 256 + pg) 0) lg rt (nb + 1) (nI fi) (nI fo) (nI en) 1 (dcu (dcu cu)) (ma + 1 + 1) ++ wO oj cJ og) := hD.sub [1, 2, 3, 4, 5, 6, 7, 0] (by decide) rfl
  refine lv_i2l (v := Int32.toInt64 (nb + 1)) hx hb dL_write_8 rfl ?_
  refine n_last hx hb hK hP hD hS 7 2 rfl rfl 0 (by omega) (by omega) dL_write_9 (fun H locs hP hD hS => ?_)
  have hP : va_P D vwCl (wC h0 a0 a1 a2 a3 a4 a5 cI cZ bf (va_cpy bf (va_cpy bf pw 0 ((ar * 256 + pg) * 64) 32) 32 ((ar * 256 + pg) * 64 + 32) 32) (upd (upd hs ((ar * 256 + pg) * 2) (nb + 1)) ((ar * 256 + pg) * 2 + 1) (nb + 1)) (upd lo (ar * 256 + pg) 0) lg rt (nb + 1) (nI fi) (nI fo) (nI en) 1 (dcu (dcu cu)) (ma + 1 + 1) ++ wO oj cJ (vp_updL og 0 (Int32.toInt64 (nb + 1)))) H := hP
  have hD : va_D A (wC h0 a0 a1 a2 a3 a4 a5 cI cZ bf (va_cpy bf (va_cpy bf pw 0 ((ar * 256 + pg) * 64) 32) 32 ((ar * 256 + pg) * 64 + 32) 32) (upd (upd hs ((ar * 256 + pg) * 2) (nb + 1)) ((ar * 256 + pg) * 2 + 1) (nb + 1)) (upd lo (ar * 256 + pg) 0) lg rt (nb + 1) (nI fi) (nI fo) (nI en) 1 (dcu (dcu cu)) (ma + 1 + 1) ++ wO oj cJ (vp_updL og 0 (Int32.toInt64 (nb + 1)))) := hD
  refine lv_goto (tgt := 21) hx hb dL_write_10 (by decide) ?_
  refine lv_iconst (v := (0)) hx hb dL_write_21 (by decide) ?_
  refine W.widen (k := 1) (n := 6) (Nat.le_of_ble_eq_true rfl) (Nat.le_of_ble_eq_true rfl) ?_
  exact e_I hx hb hr hlocks hP hD hS rfl dL_write_22
set_option maxHeartbeats 4000000 in
set_option maxRecDepth 100000 in
theorem tL_read_okl {l : Launch} {D : va_G} {cI cZ cJ : ClassId} {h0 a0 a1 a2 a3 a4 a5 : Nat} (hl0 : l.stackTraces = false) (bf pw hs lo lg rt : Nat → Int32) (nb : Int32) (fi fo en : Nat) (cu ma : Int32) (ar pg : Nat) (h1 : ar < 2) (h2 : pg < 256) (h : ¬ lo (ar * 256 + pg) = 0) (oj : Nat) (og : Nat → Int64) : RH l yL_read wsL_read 9 1 6 D (tyL cI cZ cJ) (wC h0 a0 a1 a2 a3 a4 a5 cI cZ bf pw hs lo lg rt nb (nI fi) (nI fo) (nI en) 1 cu ma ++ wO oj cJ og) [.ref h0, .int (nI ar), .int (nI pg), .ref oj] 0 (wC h0 a0 a1 a2 a3 a4 a5 cI cZ (zf bf) pw hs lo lg rt nb (nI fi) (nI fo) (nI en) 1 cu ma ++ wO oj cJ (vp_updL og 0 (Int32.toInt64 (sp_ps lo hs (ar * 256 + pg))))) := by
  refine st_H (cc := cL_read) (maxL := 5) (ret := (some .int)) (hh := [(0, 10, 13, 13), (0, 10, 17, 15)]) (by decide +kernel) rfl (Nat.le_of_ble_eq_true rfl) ?_
  intro p e s m below meth c A hx hb hr hts hown hml hlocks hK hP hD hA hS ls hl hT htab
  have hown : s.vm.findClass RL = some m.cls := hown
  have hl : lv_has ls 5 [(0, .ref h0), (1, .int (nI ar)), (2, .int (nI pg)), (3, .ref oj)] := hl
  refine lv_aload_n hx hb dL_read_0 rfl (lv_at hl 3 rfl) ?_
  refine lv_iconst (v := (nI 0)) hx hb dL_read_1 (by decide) ?_
  refine lv_aload_n hx hb dL_read_2 rfl (lv_at hl 0 rfl) ?_
  refine lv_iload_n hx hb dL_read_3 rfl (lv_at hl 1 rfl) ?_
  refine lv_iload_n hx hb dL_read_4 rfl (lv_at hl 2 rfl) ?_
  refine k_I (wr := wO oj cJ og) hP hD hS hA (va_runV (As := [.int (nI ar), .int (nI pg)]) (rest := [.int (nI 0), .ref oj]) ⟨hx, hb, hml, hown, hts⟩ ((tX0_read_okl bf pw hs lo lg rt nb fi fo en cu ma ar pg h1 h2 h) _) (cwV 2 hts gL_read_X0_read rfl rfl rfl (by decide +kernel) ⟨Nat.le_of_ble_eq_true rfl, Nat.le_of_ble_eq_true rfl⟩) (pV_B hP hD hK (ci := 0) (q0 := 0) rfl rfl rfl [0, 1] rfl [0, 1, 2, 3, 4, 5, 6] rfl rfl) rfl rfl hl.1 rfl (lv_room (Nat.le_of_ble_eq_true rfl)) dL_read_5 ⟨Nat.le_of_ble_eq_true rfl, Nat.le_of_ble_eq_true rfl⟩) [0, 1, 2, 3, 4, 5, 6] [7] rfl rfl rfl (by decide) (fun H locs hP hD hS => ?_)
  have hP : va_P D vwCl (wC h0 a0 a1 a2 a3 a4 a5 cI cZ (zf bf) pw hs lo lg rt nb (nI fi) (nI fo) (nI en) 1 cu ma ++ wO oj cJ og) H := hP.sub [1, 2, 3, 4, 5, 6, 7, 0] rfl
  have hD : va_D A (wC h0 a0 a1 a2 a3 a4 a5 cI cZ (zf bf) pw hs lo lg rt nb (nI fi) (nI fo) (nI en) 1 cu ma ++ wO oj cJ og) := hD.sub [1, 2, 3, 4, 5, 6, 7, 0] (by decide) rfl
  refine lv_i2l (v := Int32.toInt64 (sp_ps lo hs (ar * 256 + pg))) hx hb dL_read_8 rfl ?_
  refine n_last hx hb hK hP hD hS 7 2 rfl rfl 0 (by omega) (by omega) dL_read_9 (fun H locs hP hD hS => ?_)
  have hP : va_P D vwCl (wC h0 a0 a1 a2 a3 a4 a5 cI cZ (zf bf) pw hs lo lg rt nb (nI fi) (nI fo) (nI en) 1 cu ma ++ wO oj cJ (vp_updL og 0 (Int32.toInt64 (sp_ps lo hs (ar * 256 + pg))))) H := hP
  have hD : va_D A (wC h0 a0 a1 a2 a3 a4 a5 cI cZ (zf bf) pw hs lo lg rt nb (nI fi) (nI fo) (nI en) 1 cu ma ++ wO oj cJ (vp_updL og 0 (Int32.toInt64 (sp_ps lo hs (ar * 256 + pg))))) := hD
  refine lv_goto (tgt := 21) hx hb dL_read_10 (by decide) ?_
  refine lv_iconst (v := (0)) hx hb dL_read_21 (by decide) ?_
  refine W.widen (k := 1) (n := 6) (Nat.le_of_ble_eq_true rfl) (Nat.le_of_ble_eq_true rfl) ?_
  exact e_I hx hb hr hlocks hP hD hS rfl dL_read_22
set_option maxHeartbeats 4000000 in
set_option maxRecDepth 100000 in
theorem tL_read_okn {l : Launch} {D : va_G} {cI cZ cJ : ClassId} {h0 a0 a1 a2 a3 a4 a5 : Nat} (hl0 : l.stackTraces = false) (bf pw hs lo lg rt : Nat → Int32) (nb : Int32) (fi fo en : Nat) (cu ma : Int32) (ar pg : Nat) (h1 : ar < 2) (h2 : pg < 256) (h : lo (ar * 256 + pg) = 0) (oj : Nat) (og : Nat → Int64) : RH l yL_read wsL_read 9 1 6 D (tyL cI cZ cJ) (wC h0 a0 a1 a2 a3 a4 a5 cI cZ bf pw hs lo lg rt nb (nI fi) (nI fo) (nI en) 1 cu ma ++ wO oj cJ og) [.ref h0, .int (nI ar), .int (nI pg), .ref oj] 0 (wC h0 a0 a1 a2 a3 a4 a5 cI cZ (fl (fun j => pw ((ar * 256 + pg) * 64 + j)) 64 bf) pw hs lo lg rt nb (nI fi) (nI fo) (nI en) 1 cu ma ++ wO oj cJ (vp_updL og 0 (Int32.toInt64 (sp_ps lo hs (ar * 256 + pg))))) := by
  refine st_H (cc := cL_read) (maxL := 5) (ret := (some .int)) (hh := [(0, 10, 13, 13), (0, 10, 17, 15)]) (by decide +kernel) rfl (Nat.le_of_ble_eq_true rfl) ?_
  intro p e s m below meth c A hx hb hr hts hown hml hlocks hK hP hD hA hS ls hl hT htab
  have hown : s.vm.findClass RL = some m.cls := hown
  have hl : lv_has ls 5 [(0, .ref h0), (1, .int (nI ar)), (2, .int (nI pg)), (3, .ref oj)] := hl
  refine lv_aload_n hx hb dL_read_0 rfl (lv_at hl 3 rfl) ?_
  refine lv_iconst (v := (nI 0)) hx hb dL_read_1 (by decide) ?_
  refine lv_aload_n hx hb dL_read_2 rfl (lv_at hl 0 rfl) ?_
  refine lv_iload_n hx hb dL_read_3 rfl (lv_at hl 1 rfl) ?_
  refine lv_iload_n hx hb dL_read_4 rfl (lv_at hl 2 rfl) ?_
  refine k_I (wr := wO oj cJ og) hP hD hS hA (va_runV (As := [.int (nI ar), .int (nI pg)]) (rest := [.int (nI 0), .ref oj]) ⟨hx, hb, hml, hown, hts⟩ ((tX0_read_okn bf pw hs lo lg rt nb fi fo en cu ma ar pg h1 h2 h) _) (cwV 2 hts gL_read_X0_read rfl rfl rfl (by decide +kernel) ⟨Nat.le_of_ble_eq_true rfl, Nat.le_of_ble_eq_true rfl⟩) (pV_B hP hD hK (ci := 0) (q0 := 0) rfl rfl rfl [0, 1] rfl [0, 1, 2, 3, 4, 5, 6] rfl rfl) rfl rfl hl.1 rfl (lv_room (Nat.le_of_ble_eq_true rfl)) dL_read_5 ⟨Nat.le_of_ble_eq_true rfl, Nat.le_of_ble_eq_true rfl⟩) [0, 1, 2, 3, 4, 5, 6] [7] rfl rfl rfl (by decide) (fun H locs hP hD hS => ?_)
  have hP : va_P D vwCl (wC h0 a0 a1 a2 a3 a4 a5 cI cZ (fl (fun j => pw ((ar * 256 + pg) * 64 + j)) 64 bf) pw hs lo lg rt nb (nI fi) (nI fo) (nI en) 1 cu ma ++ wO oj cJ og) H := hP.sub [1, 2, 3, 4, 5, 6, 7, 0] rfl
  have hD : va_D A (wC h0 a0 a1 a2 a3 a4 a5 cI cZ (fl (fun j => pw ((ar * 256 + pg) * 64 + j)) 64 bf) pw hs lo lg rt nb (nI fi) (nI fo) (nI en) 1 cu ma ++ wO oj cJ og) := hD.sub [1, 2, 3, 4, 5, 6, 7, 0] (by decide) rfl
  refine lv_i2l (v := Int32.toInt64 (sp_ps lo hs (ar * 256 + pg))) hx hb dL_read_8 rfl ?_
  refine n_last hx hb hK hP hD hS 7 2 rfl rfl 0 (by omega) (by omega) dL_read_9 (fun H locs hP hD hS => ?_)
  have hP : va_P D vwCl (wC h0 a0 a1 a2 a3 a4 a5 cI cZ (fl (fun j => pw ((ar * 256 + pg) * 64 + j)) 64 bf) pw hs lo lg rt nb (nI fi) (nI fo) (nI en) 1 cu ma ++ wO oj cJ (vp_updL og 0 (Int32.toInt64 (sp_ps lo hs (ar * 256 + pg))))) H := hP
  have hD : va_D A (wC h0 a0 a1 a2 a3 a4 a5 cI cZ (fl (fun j => pw ((ar * 256 + pg) * 64 + j)) 64 bf) pw hs lo lg rt nb (nI fi) (nI fo) (nI en) 1 cu ma ++ wO oj cJ (vp_updL og 0 (Int32.toInt64 (sp_ps lo hs (ar * 256 + pg))))) := hD
  refine lv_goto (tgt := 21) hx hb dL_read_10 (by decide) ?_
  refine lv_iconst (v := (0)) hx hb dL_read_21 (by decide) ?_
  refine W.widen (k := 1) (n := 6) (Nat.le_of_ble_eq_true rfl) (Nat.le_of_ble_eq_true rfl) ?_
  exact e_I hx hb hr hlocks hP hD hS rfl dL_read_22
set_option maxHeartbeats 4000000 in
set_option maxRecDepth 100000 in
theorem tL_copy_xt {l : Launch} {D : va_G} {cI cZ cJ : ClassId} {h0 a0 a1 a2 a3 a4 a5 : Nat} (hl0 : l.stackTraces = false) (bf pw hs lo lg rt : Nat → Int32) (nb : Int32) (fi fo en : Nat) (cu ma : Int32) (ar pg : Nat) (h1 : ar < 2) (h2 : pg < 256) (h : ¬ sp_ps lo hs (ar * 256 + pg) = 0) (oj : Nat) (og : Nat → Int64) : RH l yL_copy wsL_copy 9 1 6 D (tyL cI cZ cJ) (wC h0 a0 a1 a2 a3 a4 a5 cI cZ bf pw hs lo lg rt nb (nI fi) (nI fo) (nI en) 1 cu ma ++ wO oj cJ og) [.ref h0, .int (nI ar), .int (nI pg), .ref oj] 1 (wC h0 a0 a1 a2 a3 a4 a5 cI cZ bf pw hs lo lg rt nb (nI fi) (nI fo) (nI en) 1 cu ma ++ wO oj cJ og) := by
  refine st_H (cc := cL_copy) (maxL := 5) (ret := (some .int)) (hh := [(0, 10, 13, 13), (0, 10, 17, 15)]) (by decide +kernel) rfl (Nat.le_of_ble_eq_true rfl) ?_
  intro p e s m below meth c A hx hb hr hts hown hml hlocks hK hP hD hA hS ls hl hT htab
  have hown : s.vm.findClass RL = some m.cls := hown
  have hl : lv_has ls 5 [(0, .ref h0), (1, .int (nI ar)), (2, .int (nI pg)), (3, .ref oj)] := hl
  refine lv_aload_n hx hb dL_copy_0 rfl (lv_at hl 3 rfl) ?_
  refine lv_iconst (v := (nI 0)) hx hb dL_copy_1 (by decide) ?_
  refine lv_aload_n hx hb dL_copy_2 rfl (lv_at hl 0 rfl) ?_
  refine lv_iload_n hx hb dL_copy_3 rfl (lv_at hl 1 rfl) ?_
  refine lv_iload_n hx hb dL_copy_4 rfl (lv_at hl 2 rfl) ?_
  refine k_X (wr := wO oj cJ og) hP hD hS hA (vx_runV (As := [.int (nI ar), .int (nI pg)]) (rest := [.int (nI 0), .ref oj]) ⟨hx, hb, hml, hown, hts⟩ ((tX0_copy_xt hl0 bf pw hs lo lg rt nb fi fo en cu ma ar pg h1 h2 h) _) (cwV 2 hts gL_copy_X0_copy rfl rfl rfl (by decide +kernel) ⟨Nat.le_of_ble_eq_true rfl, Nat.le_of_ble_eq_true rfl⟩) (pV_X hP hD hK hS hA hT (ci := 0) (q0 := 0) rfl rfl rfl [0, 1] rfl [0, 1, 2, 3, 4, 5, 6] rfl rfl) rfl rfl hl.1 rfl (lv_room (Nat.le_of_ble_eq_true rfl)) dL_copy_5 ⟨Nat.le_of_ble_eq_true rfl, Nat.le_of_ble_eq_true rfl⟩) [0, 1, 2, 3, 4, 5, 6] [7] rfl rfl rfl (by decide) (fun ce q9 H locs hP hD hS hce hcv hcl => ?_)
  have hP : va_P D vwCl (wC h0 a0 a1 a2 a3 a4 a5 cI cZ bf pw hs lo lg rt nb (nI fi) (nI fo) (nI en) 1 cu ma ++ wO oj cJ og) H := hP.sub [1, 2, 3, 4, 5, 6, 7, 0] rfl
  have hD : va_D A (wC h0 a0 a1 a2 a3 a4 a5 cI cZ bf pw hs lo lg rt nb (nI fi) (nI fo) (nI en) 1 cu ma ++ wO oj cJ og) := hD.sub [1, 2, 3, 4, 5, 6, 7, 0] (by decide) rfl
  refine vx_catch hown [] ⟨0, 10, 13, 13⟩ [⟨0, 10, 17, 15⟩] htab (fun z hz => nomatch hz) rfl (by decide) (hts _ clL_copy_13) (va_Nw.use rfl (hT.2.2.1 (xISE, xISE) (List.mem_of_getElem? (i := 0) rfl))) hce hcv hcl ?_
  refine lv_astore (lv' := [(4, .ref q9), (0, .ref h0), (1, .int (nI ar)), (2, .int (nI pg)), (3, .ref oj)]) hx hb dL_copy_13 hl (by decide) rfl (fun ls hl => ?_)
  refine lv_iconst (v := (1)) hx hb dL_copy_15 (by decide) ?_
  exact e_I hx hb hr hlocks hP hD hS rfl dL_copy_16
set_option maxHeartbeats 4000000 in
set_option maxRecDepth 100000 in
theorem tL_copy_ok0 {l : Launch} {D : va_G} {cI cZ cJ : ClassId} {h0 a0 a1 a2 a3 a4 a5 : Nat} (hl0 : l.stackTraces = false) (bf pw hs lo lg rt : Nat → Int32) (nb : Int32) (fi fo en : Nat) (cu ma : Int32) (ar pg : Nat) (h1 : ar < 2) (h2 : pg < 256) (hw : sp_ps lo hs (ar * 256 + pg) = 0) (h : cu = 0) (oj : Nat) (og : Nat → Int64) : RH l yL_copy wsL_copy 9 1 6 D (tyL cI cZ cJ) (wC h0 a0 a1 a2 a3 a4 a5 cI cZ bf pw hs lo lg rt nb (nI fi) (nI fo) (nI en) 1 cu ma ++ wO oj cJ og) [.ref h0, .int (nI ar), .int (nI pg), .ref oj] 0 (wC h0 a0 a1 a2 a3 a4 a5 cI cZ (zf bf) pw hs lo lg rt (nb + 1) (nI fi) (nI fo) (nI fo) 0 cu ma ++ wO oj cJ (vp_updL og 0 (Int32.toInt64 (-1)))) := by
  refine st_H (cc := cL_copy) (maxL := 5) (ret := (some .int)) (hh := [(0, 10, 13, 13), (0, 10, 17, 15)]) (by decide +kernel) rfl (Nat.le_of_ble_eq_true rfl) ?_
  intro p e s m below meth c A hx hb hr hts hown hml hlocks hK hP hD hA hS ls hl hT htab
  have hown : s.vm.findClass RL = some m.cls := hown
  have hl : lv_has ls 5 [(0, .ref h0), (1, .int (nI ar)), (2, .int (nI pg)), (3, .ref oj)] := hl
  refine lv_aload_n hx hb dL_copy_0 rfl (lv_at hl 3 rfl) ?_
  refine lv_iconst (v := (nI 0)) hx hb dL_copy_1 (by decide) ?_
  refine lv_aload_n hx hb dL_copy_2 rfl (lv_at hl 0 rfl) ?_
  refine lv_iload_n hx hb dL_copy_3 rfl (lv_at hl 1 rfl) ?_
  refine lv_iload_n hx hb dL_copy_4 rfl (lv_at hl 2 rfl) ?_
  refine k_I (wr := wO oj cJ og) hP hD hS hA (va_runV (As := [.int (nI ar), .int (nI pg)]) (rest := [.int (nI 0), .ref oj]) ⟨hx, hb, hml, hown, hts⟩ ((tX0_copy_ok0 bf pw hs lo lg rt nb fi fo en cu ma ar pg h1 h2 hw h) _) (cwV 2 hts gL_copy_X0_copy rfl rfl rfl (by decide +kernel) ⟨Nat.le_of_ble_eq_true rfl, Nat.le_of_ble_eq_true rfl⟩) (pV_B hP hD hK (ci := 0) (q0 := 0) rfl rfl rfl [0, 1] rfl [0, 1, 2, 3, 4, 5, 6] rfl rfl) rfl rfl hl.1 rfl (lv_room (Nat.le_of_ble_eq_true rfl)) dL_copy_5 ⟨Nat.le_of_ble_eq_true rfl, Nat.le_of_ble_eq_true rfl⟩) [0, 1, 2, 3, 4, 5, 6] [7] rfl rfl rfl (by decide) (fun H locs hP hD hS => ?_)
  have hP : va_P D vwCl (wC h0 a0 a1 a2 a3 a4 a5 cI cZ (zf bf) pw hs lo lg rt (nb + 1) (nI fi) (nI fo) (nI fo) 0 cu ma ++ wO oj cJ og) H := hP.sub [1, 2, 3, 4, 5, 6, 7, 0] rfl
  have hD : va_D A (wC h0 a0 a1 a2 a3 a4 a5 cI cZ (zf bf) pw hs lo lg rt (nb + 1) (nI fi) (nI fo) (nI fo) 0 cu ma ++ wO oj cJ og) := hD.sub [1, 2, 3, 4, 5, 6, 7, 0] (by decide) rfl
  refine lv_i2l (v := Int32.toInt64 (-1)) hx hb dL_copy_8 rfl ?_
  refine n_last hx hb hK hP hD hS 7 2 rfl rfl 0 (by omega) (by omega) dL_copy_9 (fun H locs hP hD hS => ?_)
  have hP : va_P D vwCl (wC h0 a0 a1 a2 a3 a4 a5 cI cZ (zf bf) pw hs lo lg rt (nb + 1) (nI fi) (nI fo) (nI fo) 0 cu ma ++ wO oj cJ (vp_updL og 0 (Int32.toInt64 (-1)))) H := hP
  have hD : va_D A (wC h0 a0 a1 a2 a3 a4 a5 cI cZ (zf bf) pw hs lo lg rt (nb + 1) (nI fi) (nI fo) (nI fo) 0 cu ma ++ wO oj cJ (vp_updL og 0 (Int32.toInt64 (-1)))) := hD
  refine lv_goto (tgt := 21) hx hb dL_copy_10 (by decide) ?_
  refine lv_iconst (v := (0)) hx hb dL_copy_21 (by decide) ?_
  refine W.widen (k := 1) (n := 6) (Nat.le_of_ble_eq_true rfl) (Nat.le_of_ble_eq_true rfl) ?_
  exact e_I hx hb hr hlocks hP hD hS rfl dL_copy_22
set_option maxHeartbeats 4000000 in
set_option maxRecDepth 100000 in
theorem tL_copy_ok1 {l : Launch} {D : va_G} {cI cZ cJ : ClassId} {h0 a0 a1 a2 a3 a4 a5 : Nat} (hl0 : l.stackTraces = false) (bf pw hs lo lg rt : Nat → Int32) (nb : Int32) (fi fo en : Nat) (cu ma : Int32) (ar pg : Nat) (h1 : ar < 2) (h2 : pg < 256) (hw : sp_ps lo hs (ar * 256 + pg) = 0) (h : ¬ cu = 0) (hd : dcu cu = 0) (oj : Nat) (og : Nat → Int64) : RH l yL_copy wsL_copy 9 1 6 D (tyL cI cZ cJ) (wC h0 a0 a1 a2 a3 a4 a5 cI cZ bf pw hs lo lg rt nb (nI fi) (nI fo) (nI en) 1 cu ma ++ wO oj cJ og) [.ref h0, .int (nI ar), .int (nI pg), .ref oj] 0 (wC h0 a0 a1 a2 a3 a4 a5 cI cZ (zf bf) (va_cpy pw pw ((ar * 256 + pg) * 64) (((1 - ar) * 256 + pg) * 64) 32) (upd hs (((1 - ar) * 256 + pg) * 2) (nb + 1)) lo lg rt (nb + 1) (nI fi) (nI fo) (nI fo) 0 (dcu cu) (ma + 1) ++ wO oj cJ (vp_updL og 0 (Int32.toInt64 (-1)))) := by
  refine st_H (cc := cL_copy) (maxL := 5) (ret := (some .int)) (hh := [(0, 10, 13, 13), (0, 10, 17, 15)]) (by decide +kernel) rfl (Nat.le_of_ble_eq_true rfl) ?_
  intro p e s m below meth c A hx hb hr hts hown hml hlocks hK hP hD hA hS ls hl hT htab
  have hown : s.vm.findClass RL = some m.cls := hown
  have hl : lv_has ls 5 [(0, .ref h0), (1, .int (nI ar)), (2, .int (nI pg)), (3, .ref oj)] := hl
  refine lv_aload_n hx hb dL_copy_0 rfl (lv_at hl 3 rfl) ?_
  refine lv_iconst (v := (nI 0)) hx hb dL_copy_1 (by decide) ?_
  refine lv_aload_n hx hb dL_copy_2 rfl (lv_at hl 0 rfl) ?_
  refine lv_iload_n hx hb dL_copy_3 rfl (lv_at hl 1 rfl) ?_
  refine lv_iload_n hx hb dL_copy_4 rfl (lv_at hl 2 rfl) ?_
  refine k_I (wr := wO oj cJ og) hP hD hS hA (va_runV (As := [.int (nI ar), .int (nI pg)]) (rest := [.int (nI 0), .ref oj]) ⟨hx, hb, hml, hown, hts⟩ ((tX0_copy_ok1 bf pw hs lo lg rt nb fi fo en cu ma ar pg h1 h2 hw h hd) _) (cwV 2 hts gL_copy_X0_copy rfl rfl rfl (by decide +kernel) ⟨Nat.le_of_ble_eq_true rfl, Nat.le_of_ble_eq_true rfl⟩) (pV_B hP hD hK (ci := 0) (q0 := 0) rfl rfl rfl [0, 1] rfl [0, 1, 2, 3, 4, 5, 6] rfl rfl) rfl rfl hl.1 rfl (lv_room (Nat.le_of_ble_eq_true rfl)) dL_copy_5 ⟨Nat.le_of_ble_eq_true rfl, Nat.le_of_ble_eq_true rfl⟩) [0, 1, 2, 3, 4, 5, 6] [7] rfl rfl rfl (by decide) (fun H locs hP hD hS => ?_)
  have hP : va_P D vwCl (wC h0 a0 a1 a2 a3 a4 a5 cI cZ (zf bf) (va_cpy pw pw ((ar * 256 + pg) * 64) (((1 - ar) * 256 + pg) * 64) 32) (upd hs (((1 - ar) * 256 + pg) * 2) (nb + 1)) lo lg rt (nb + 1) (nI fi) (nI fo) (nI fo) 0 (dcu cu) (ma + 1) ++ wO oj cJ og) H := hP.sub [1, 2, 3, 4, 5, 6, 7, 0] rfl
  have hD : va_D A (wC h0 a0 a1 a2 a3 a4 a5 cI cZ (zf bf) (va_cpy pw pw ((ar * 256 + pg) * 64) (((1 - ar) * 256 + pg) * 64) 32) (upd hs (((1 - ar) * 256 + pg) * 2) (nb + 1)) lo lg rt (nb + 1) (nI fi) (nI fo) (nI fo) 0 (dcu cu) (ma + 1) ++ wO oj cJ og) := hD.sub [1, 2, 3, 4, 5, 6, 7, 0] (by decide) rfl
  refine lv_i2l (v := Int32.toInt64 (-1)) hx hb dL_copy_8 rfl ?_
  refine n_last hx hb hK hP hD hS 7 2 rfl rfl 0 (by omega) (by omega) dL_copy_9 (fun H locs hP hD hS => ?_)
  have hP : va_P D vwCl (wC h0 a0 a1 a2 a3 a4 a5 cI cZ (zf bf) (va_cpy pw pw ((ar * 256 + pg) * 64) (((1 - ar) * 256 + pg) * 64) 32) (upd hs (((1 - ar) * 256 + pg) * 2) (nb + 1)) lo lg rt (nb + 1) (nI fi) (nI fo) (nI fo) 0 (dcu cu) (ma + 1) ++ wO oj cJ (vp_updL og 0 (Int32.toInt64 (-1)))) H := hP
  have hD : va_D A (wC h0 a0 a1 a2 a3 a4 a5 cI cZ (zf bf) (va_cpy pw pw ((ar * 256 + pg) * 64) (((1 - ar) * 256 + pg) * 64) 32) (upd hs (((1 - ar) * 256 + pg) * 2) (nb + 1)) lo lg rt (nb + 1) (nI fi) (nI fo) (nI fo) 0 (dcu cu) (ma + 1) ++ wO oj cJ (vp_updL og 0 (Int32.toInt64 (-1)))) := hD
  refine lv_goto (tgt := 21) hx hb dL_copy_10 (by decide) ?_
  refine lv_iconst (v := (0)) hx hb dL_copy_21 (by decide) ?_
  refine W.widen (k := 1) (n := 6) (Nat.le_of_ble_eq_true rfl) (Nat.le_of_ble_eq_true rfl) ?_
  exact e_I hx hb hr hlocks hP hD hS rfl dL_copy_22
set_option maxHeartbeats 4000000 in
set_option maxRecDepth 100000 in
theorem tL_copy_ok2 {l : Launch} {D : va_G} {cI cZ cJ : ClassId} {h0 a0 a1 a2 a3 a4 a5 : Nat} (hl0 : l.stackTraces = false) (bf pw hs lo lg rt : Nat → Int32) (nb : Int32) (fi fo en : Nat) (cu ma : Int32) (ar pg : Nat) (h1 : ar < 2) (h2 : pg < 256) (hw : sp_ps lo hs (ar * 256 + pg) = 0) (h : ¬ cu = 0) (hd : ¬ dcu cu = 0) (oj : Nat) (og : Nat → Int64) : RH l yL_copy wsL_copy 9 1 6 D (tyL cI cZ cJ) (wC h0 a0 a1 a2 a3 a4 a5 cI cZ bf pw hs lo lg rt nb (nI fi) (nI fo) (nI en) 1 cu ma ++ wO oj cJ og) [.ref h0, .int (nI ar), .int (nI pg), .ref oj] 0 (wC h0 a0 a1 a2 a3 a4 a5 cI cZ bf (va_cpy (va_cpy pw pw ((ar * 256 + pg) * 64) (((1 - ar) * 256 + pg) * 64) 32) (va_cpy pw pw ((ar * 256 + pg) * 64) (((1 - ar) * 256 + pg) * 64) 32) (((ar * 256 + pg) * 64) + 32) (((1 - ar) * 256 + pg) * 64 + 32) 32) (upd (upd hs (((1 - ar) * 256 + pg) * 2) (nb + 1)) (((1 - ar) * 256 + pg) * 2 + 1) (nb + 1)) (upd lo ((1 - ar) * 256 + pg) 0) lg rt (nb + 1) (nI fi) (nI fo) (nI en) 1 (dcu (dcu cu)) (ma + 1 + 1) ++ wO oj cJ (vp_updL og 0 (Int32.toInt64 (nb + 1)))) := by
  refine st_H (cc := cL_copy) (maxL := 5) (ret := (some .int)) (hh := [(0, 10, 13, 13), (0, 10, 17, 15)]) (by decide +kernel) rfl (Nat.le_of_ble_eq_true rfl) ?_
  intro p e s m below meth c A hx hb hr hts hown hml hlocks hK hP hD hA hS ls hl hT htab
  have hown : s.vm.findClass RL = some m.cls := hown
  have hl : lv_has ls 5 [(0, .ref h0), (1, .int (nI ar)), (2, .int (nI pg)), (3, .ref oj)] := hl
  refine lv_aload_n hx hb dL_copy_0 rfl (lv_at hl 3 rfl) ?_
  refine lv_iconst (v := (nI 0)) hx hb dL_copy_1 (by decide) ?_
  refine lv_aload_n hx hb dL_copy_2 rfl (lv_at hl 0 rfl) ?_
  refine lv_iload_n hx hb dL_copy_3 rfl (lv_at hl 1 rfl) ?_
  refine lv_iload_n hx hb dL_copy_4 rfl (lv_at hl 2 rfl) ?_
  refine k_I (wr := wO oj cJ og) hP hD hS hA (va_runV (As := [.int (nI ar), .int (nI pg)]) (rest := [.int (nI 0), .ref oj]) ⟨hx, hb, hml, hown, hts⟩ ((tX0_copy_ok2 bf pw hs lo lg rt nb fi fo en cu ma ar pg h1 h2 hw h hd) _) (cwV 2 hts gL_copy_X0_copy rfl rfl rfl (by decide +kernel) ⟨Nat.le_of_ble_eq_true rfl, Nat.le_of_ble_eq_true rfl⟩) (pV_B hP hD hK (ci := 0) (q0 := 0) rfl rfl rfl [0, 1] rfl [0, 1, 2, 3, 4, 5, 6] rfl rfl) rfl rfl hl.1 rfl (lv_room (Nat.le_of_ble_eq_true rfl)) dL_copy_5 ⟨Nat.le_of_ble_eq_true rfl, Nat.le_of_ble_eq_true rfl⟩) [0, 1, 2, 3, 4, 5, 6] [7] rfl rfl rfl (by decide) (fun H locs hP hD hS => ?_)
  have hP : va_P D vwCl (wC h0 a0 a1 a2 a3 a4 a5 cI cZ bf (va_cpy (va_cpy pw pw ((ar * 256 + pg) * 64) (((1 - ar) * 256 + pg) * 64) 32) (va_cpy pw pw ((ar * 256 + pg) * 64) (((1 - ar) * 256 + pg) * 64) 32) (((ar * 256 + pg) * 64) + 32) (((1 - ar) * 256 + pg) * 64 + 32) 32) (upd (upd hs (((1 - ar) * 256 + pg) * 2) (nb + 1)) (((1 - ar) * 256 + pg) * 2 + 1) (nb + 1)) (upd lo ((1 - ar) * 256 + pg) 0) lg rt (nb + 1) (nI fi) (nI fo) (nI en) 1 (dcu (dcu cu)) (ma + 1 + 1) ++ wO oj cJ og) H := hP.sub [1, 2, 3, 4, 5, 6, 7, 0] rfl
  have hD : va_D A (wC h0 a0 a1 a2 a3 a4 a5 cI cZ bf (va_cpy (va_cpy pw pw ((ar * 256 + pg) * 64) (((1 - ar) * 256 + pg) * 64) 32) (va_cpy pw pw ((ar * 256 + pg) * 64) (((1 - ar) * 256 + pg) * 64) 32) (((ar * 256 + pg) * 64) + 32) (((1 - ar) * 256 + pg) * 64 + 32) 32) (upd (upd hs (((1 - ar) * 256 + pg) * 2) (nb + 1)) (((1 - ar) * 256 + pg) * 2 + 1) (nb + 1)) (upd lo ((1 - ar) * 256 + pg) 0) lg rt (nb + 1) (nI fi) (nI fo) (nI en) 1 (dcu (dcu cu)) (ma + 1 + 1) ++ wO oj cJ og) := hD.sub [1, 2, 3, 4, 5, 6, 7, 0] (by decide) rfl
  refine lv_i2l (v := Int32.toInt64 (nb + 1)) hx hb dL_copy_8 rfl ?_
  refine n_last hx hb hK hP hD hS 7 2 rfl rfl 0 (by omega) (by omega) dL_copy_9 (fun H locs hP hD hS => ?_)
  have hP : va_P D vwCl (wC h0 a0 a1 a2 a3 a4 a5 cI cZ bf (va_cpy (va_cpy pw pw ((ar * 256 + pg) * 64) (((1 - ar) * 256 + pg) * 64) 32) (va_cpy pw pw ((ar * 256 + pg) * 64) (((1 - ar) * 256 + pg) * 64) 32) (((ar * 256 + pg) * 64) + 32) (((1 - ar) * 256 + pg) * 64 + 32) 32) (upd (upd hs (((1 - ar) * 256 + pg) * 2) (nb + 1)) (((1 - ar) * 256 + pg) * 2 + 1) (nb + 1)) (upd lo ((1 - ar) * 256 + pg) 0) lg rt (nb + 1) (nI fi) (nI fo) (nI en) 1 (dcu (dcu cu)) (ma + 1 + 1) ++ wO oj cJ (vp_updL og 0 (Int32.toInt64 (nb + 1)))) H := hP
  have hD : va_D A (wC h0 a0 a1 a2 a3 a4 a5 cI cZ bf (va_cpy (va_cpy pw pw ((ar * 256 + pg) * 64) (((1 - ar) * 256 + pg) * 64) 32) (va_cpy pw pw ((ar * 256 + pg) * 64) (((1 - ar) * 256 + pg) * 64) 32) (((ar * 256 + pg) * 64) + 32) (((1 - ar) * 256 + pg) * 64 + 32) 32) (upd (upd hs (((1 - ar) * 256 + pg) * 2) (nb + 1)) (((1 - ar) * 256 + pg) * 2 + 1) (nb + 1)) (upd lo ((1 - ar) * 256 + pg) 0) lg rt (nb + 1) (nI fi) (nI fo) (nI en) 1 (dcu (dcu cu)) (ma + 1 + 1) ++ wO oj cJ (vp_updL og 0 (Int32.toInt64 (nb + 1)))) := hD
  refine lv_goto (tgt := 21) hx hb dL_copy_10 (by decide) ?_
  refine lv_iconst (v := (0)) hx hb dL_copy_21 (by decide) ?_
  refine W.widen (k := 1) (n := 6) (Nat.le_of_ble_eq_true rfl) (Nat.le_of_ble_eq_true rfl) ?_
  exact e_I hx hb hr hlocks hP hD hS rfl dL_copy_22
set_option maxHeartbeats 4000000 in
set_option maxRecDepth 100000 in
theorem tL_lose_ok {l : Launch} {D : va_G} {cI cZ cJ : ClassId} {h0 a0 a1 a2 a3 a4 a5 : Nat} (hl0 : l.stackTraces = false) (bf pw hs lo lg rt : Nat → Int32) (nb : Int32) (fi fo en : Nat) (on cu ma : Int32) (ar pg : Nat) (h1 : ar < 2) (h2 : pg < 256) (oj : Nat) (og : Nat → Int64) : RH l yL_lose wsL_lose 9 1 6 D (tyL cI cZ cJ) (wC h0 a0 a1 a2 a3 a4 a5 cI cZ bf pw hs lo lg rt nb (nI fi) (nI fo) (nI en) on cu ma) [.ref h0, .int (nI ar), .int (nI pg)] 0 (wC h0 a0 a1 a2 a3 a4 a5 cI cZ bf pw hs (upd lo (ar * 256 + pg) 1) lg rt nb (nI fi) (nI fo) (nI en) on cu ma) := by
  refine st_H (cc := cL_lose) (maxL := 4) (ret := (some .int)) (hh := [(0, 6, 9, 15)]) (by decide +kernel) rfl (Nat.le_of_ble_eq_true rfl) ?_
  intro p e s m below meth c A hx hb hr hts hown hml hlocks hK hP hD hA hS ls hl hT htab
  have hown : s.vm.findClass RL = some m.cls := hown
  have hl : lv_has ls 4 [(0, .ref h0), (1, .int (nI ar)), (2, .int (nI pg))] := hl
  refine lv_aload_n hx hb dL_lose_0 rfl (lv_at hl 0 rfl) ?_
  refine lv_iload_n hx hb dL_lose_1 rfl (lv_at hl 1 rfl) ?_
  refine lv_iload_n hx hb dL_lose_2 rfl (lv_at hl 2 rfl) ?_
  refine k_V (wr := []) hP hD hS hA (va_runV (As := [.int (nI ar), .int (nI pg)]) (rest := []) ⟨hx, hb, hml, hown, hts⟩ ((tX0_lose_ok bf pw hs lo lg rt nb fi fo en on cu ma ar pg h1 h2) _) (cwV 2 hts gL_lose_X0_lose rfl rfl rfl (by decide +kernel) ⟨Nat.le_of_ble_eq_true rfl, Nat.le_of_ble_eq_true rfl⟩) (pV_B hP hD hK (ci := 0) (q0 := 0) rfl rfl rfl [0, 1] rfl [0, 1, 2, 3, 4, 5, 6] rfl rfl) rfl rfl hl.1 rfl (lv_room (Nat.le_of_ble_eq_true rfl)) dL_lose_3 ⟨Nat.le_of_ble_eq_true rfl, Nat.le_of_ble_eq_true rfl⟩) [0, 1, 2, 3, 4, 5, 6] [] rfl rfl rfl (by decide) (fun H locs hP hD hS => ?_)
  have hP : va_P D vwCl (wC h0 a0 a1 a2 a3 a4 a5 cI cZ bf pw hs (upd lo (ar * 256 + pg) 1) lg rt nb (nI fi) (nI fo) (nI en) on cu ma) H := hP
  have hD : va_D A (wC h0 a0 a1 a2 a3 a4 a5 cI cZ bf pw hs (upd lo (ar * 256 + pg) 1) lg rt nb (nI fi) (nI fo) (nI en) on cu ma) := hD
  refine lv_goto (tgt := 12) hx hb dL_lose_6 (by decide) ?_
  refine lv_iconst (v := (0)) hx hb dL_lose_12 (by decide) ?_
  refine W.widen (k := 1) (n := 6) (Nat.le_of_ble_eq_true rfl) (Nat.le_of_ble_eq_true rfl) ?_
  exact e_I hx hb hr hlocks hP hD hS rfl dL_lose_13
set_option maxHeartbeats 4000000 in
set_option maxRecDepth 100000 in
theorem tL_stamp_xb {l : Launch} {D : va_G} {cI cZ cJ : ClassId} {h0 a0 a1 a2 a3 a4 a5 : Nat} (hl0 : l.stackTraces = false) (bf pw hs lo lg rt : Nat → Int32) (nb : Int32) (fi fo en : Nat) (on cu ma : Int32) (x y z : Int32) (h : badS x y z) (oj : Nat) (og : Nat → Int64) : RH l yL_stamp wsL_stamp 9 1 6 D (tyL cI cZ cJ) (wC h0 a0 a1 a2 a3 a4 a5 cI cZ bf pw hs lo lg rt nb (nI fi) (nI fo) (nI en) on cu ma ++ wO oj cJ og) [.ref h0, .int x, .int y, .int z, .ref oj] 1 (wC h0 a0 a1 a2 a3 a4 a5 cI cZ bf pw hs lo lg rt nb (nI fi) (nI fo) (nI en) on cu ma ++ wO oj cJ og) := by
  refine st_H (cc := cL_stamp) (maxL := 6) (ret := (some .int)) (hh := [(0, 12, 15, 15)]) (by decide +kernel) rfl (Nat.le_of_ble_eq_true rfl) ?_
  intro p e s m below meth c A hx hb hr hts hown hml hlocks hK hP hD hA hS ls hl hT htab
  have hown : s.vm.findClass RL = some m.cls := hown
  have hl : lv_has ls 6 [(0, .ref h0), (1, .int x), (2, .int y), (3, .int z), (4, .ref oj)] := hl
  refine lv_aload hx hb dL_stamp_0 (lv_at hl 4 rfl) ?_
  refine lv_iconst (v := (nI 0)) hx hb dL_stamp_2 (by decide) ?_
  refine lv_aload_n hx hb dL_stamp_3 rfl (lv_at hl 0 rfl) ?_
  refine lv_iload_n hx hb dL_stamp_4 rfl (lv_at hl 1 rfl) ?_
  refine lv_iload_n hx hb dL_stamp_5 rfl (lv_at hl 2 rfl) ?_
  refine lv_iload_n hx hb dL_stamp_6 rfl (lv_at hl 3 rfl) ?_
  refine k_X (wr := wO oj cJ og) hP hD hS hA (vx_runV (As := [.int x, .int y, .int z]) (rest := [.int (nI 0), .ref oj]) ⟨hx, hb, hml, hown, hts⟩ ((tX0_stamp_xb hl0 bf pw hs lo lg rt nb fi fo en on cu ma x y z h) _) (cwV 3 hts gL_stamp_X0_stamp rfl rfl rfl (by decide +kernel) ⟨Nat.le_of_ble_eq_true rfl, Nat.le_of_ble_eq_true rfl⟩) (pV_X hP hD hK hS hA hT (ci := 0) (q0 := 0) rfl rfl rfl [0, 1] rfl [0, 1, 2, 3, 4, 5, 6] rfl rfl) rfl rfl hl.1 rfl (lv_room (Nat.le_of_ble_eq_true rfl)) dL_stamp_7 ⟨Nat.le_of_ble_eq_true rfl, Nat.le_of_ble_eq_true rfl⟩) [0, 1, 2, 3, 4, 5, 6] [7] rfl rfl rfl (by decide) (fun ce q9 H locs hP hD hS hce hcv hcl => ?_)
  have hP : va_P D vwCl (wC h0 a0 a1 a2 a3 a4 a5 cI cZ bf pw hs lo lg rt nb (nI fi) (nI fo) (nI en) on cu ma ++ wO oj cJ og) H := hP.sub [1, 2, 3, 4, 5, 6, 7, 0] rfl
  have hD : va_D A (wC h0 a0 a1 a2 a3 a4 a5 cI cZ bf pw hs lo lg rt nb (nI fi) (nI fo) (nI en) on cu ma ++ wO oj cJ og) := hD.sub [1, 2, 3, 4, 5, 6, 7, 0] (by decide) rfl
  refine vx_catch hown [] ⟨0, 12, 15, 15⟩ [] htab (fun z hz => nomatch hz) rfl (by decide) (hts _ clL_stamp_15) (va_Nw.use rfl (hT.2.2.1 (xIOB, xIOB) (List.mem_of_getElem? (i := 1) rfl))) hce hcv hcl ?_
  refine lv_astore (lv' := [(5, .ref q9), (0, .ref h0), (1, .int x), (2, .int y), (3, .int z), (4, .ref oj)]) hx hb dL_stamp_15 hl (by decide) rfl (fun ls hl => ?_)
  refine lv_iconst (v := (1)) hx hb dL_stamp_17 (by decide) ?_
  exact e_I hx hb hr hlocks hP hD hS rfl dL_stamp_18
set_option maxHeartbeats 4000000 in
set_option maxRecDepth 100000 in
theorem tL_stamp_ok {l : Launch} {D : va_G} {cI cZ cJ : ClassId} {h0 a0 a1 a2 a3 a4 a5 : Nat} (hl0 : l.stackTraces = false) (bf pw hs lo lg rt : Nat → Int32) (nb : Int32) (fi fo en : Nat) (on cu ma : Int32) (ar pg : Nat) (h1 : ar < 2) (h2 : pg < 256) (hf : Nat) (h3 : hf < 2) (oj : Nat) (og : Nat → Int64) : RH l yL_stamp wsL_stamp 9 1 6 D (tyL cI cZ cJ) (wC h0 a0 a1 a2 a3 a4 a5 cI cZ bf pw hs lo lg rt nb (nI fi) (nI fo) (nI en) on cu ma ++ wO oj cJ og) [.ref h0, .int (nI ar), .int (nI pg), .int (nI hf), .ref oj] 0 (wC h0 a0 a1 a2 a3 a4 a5 cI cZ bf pw hs lo lg rt nb (nI fi) (nI fo) (nI en) on cu ma ++ wO oj cJ (vp_updL og 0 (Int32.toInt64 (hs ((ar * 256 + pg) * 2 + hf))))) := by
  refine st_H (cc := cL_stamp) (maxL := 6) (ret := (some .int)) (hh := [(0, 12, 15, 15)]) (by decide +kernel) rfl (Nat.le_of_ble_eq_true rfl) ?_
  intro p e s m below meth c A hx hb hr hts hown hml hlocks hK hP hD hA hS ls hl hT htab
  have hown : s.vm.findClass RL = some m.cls := hown
  have hl : lv_has ls 6 [(0, .ref h0), (1, .int (nI ar)), (2, .int (nI pg)), (3, .int (nI hf)), (4, .ref oj)] := hl
  refine lv_aload hx hb dL_stamp_0 (lv_at hl 4 rfl) ?_
  refine lv_iconst (v := (nI 0)) hx hb dL_stamp_2 (by decide) ?_
  refine lv_aload_n hx hb dL_stamp_3 rfl (lv_at hl 0 rfl) ?_
  refine lv_iload_n hx hb dL_stamp_4 rfl (lv_at hl 1 rfl) ?_
  refine lv_iload_n hx hb dL_stamp_5 rfl (lv_at hl 2 rfl) ?_
  refine lv_iload_n hx hb dL_stamp_6 rfl (lv_at hl 3 rfl) ?_
  refine k_I (wr := wO oj cJ og) hP hD hS hA (va_runV (As := [.int (nI ar), .int (nI pg), .int (nI hf)]) (rest := [.int (nI 0), .ref oj]) ⟨hx, hb, hml, hown, hts⟩ ((tX0_stamp_ok bf pw hs lo lg rt nb fi fo en on cu ma ar pg h1 h2 hf h3) _) (cwV 3 hts gL_stamp_X0_stamp rfl rfl rfl (by decide +kernel) ⟨Nat.le_of_ble_eq_true rfl, Nat.le_of_ble_eq_true rfl⟩) (pV_B hP hD hK (ci := 0) (q0 := 0) rfl rfl rfl [0, 1] rfl [0, 1, 2, 3, 4, 5, 6] rfl rfl) rfl rfl hl.1 rfl (lv_room (Nat.le_of_ble_eq_true rfl)) dL_stamp_7 ⟨Nat.le_of_ble_eq_true rfl, Nat.le_of_ble_eq_true rfl⟩) [0, 1, 2, 3, 4, 5, 6] [7] rfl rfl rfl (by decide) (fun H locs hP hD hS => ?_)
  have hP : va_P D vwCl (wC h0 a0 a1 a2 a3 a4 a5 cI cZ bf pw hs lo lg rt nb (nI fi) (nI fo) (nI en) on cu ma ++ wO oj cJ og) H := hP.sub [1, 2, 3, 4, 5, 6, 7, 0] rfl
  have hD : va_D A (wC h0 a0 a1 a2 a3 a4 a5 cI cZ bf pw hs lo lg rt nb (nI fi) (nI fo) (nI en) on cu ma ++ wO oj cJ og) := hD.sub [1, 2, 3, 4, 5, 6, 7, 0] (by decide) rfl
  refine lv_i2l (v := Int32.toInt64 (hs ((ar * 256 + pg) * 2 + hf))) hx hb dL_stamp_10 rfl ?_
  refine n_last hx hb hK hP hD hS 7 2 rfl rfl 0 (by omega) (by omega) dL_stamp_11 (fun H locs hP hD hS => ?_)
  have hP : va_P D vwCl (wC h0 a0 a1 a2 a3 a4 a5 cI cZ bf pw hs lo lg rt nb (nI fi) (nI fo) (nI en) on cu ma ++ wO oj cJ (vp_updL og 0 (Int32.toInt64 (hs ((ar * 256 + pg) * 2 + hf))))) H := hP
  have hD : va_D A (wC h0 a0 a1 a2 a3 a4 a5 cI cZ bf pw hs lo lg rt nb (nI fi) (nI fo) (nI en) on cu ma ++ wO oj cJ (vp_updL og 0 (Int32.toInt64 (hs ((ar * 256 + pg) * 2 + hf))))) := hD
  refine lv_goto (tgt := 19) hx hb dL_stamp_12 (by decide) ?_
  refine lv_iconst (v := (0)) hx hb dL_stamp_19 (by decide) ?_
  refine W.widen (k := 1) (n := 6) (Nat.le_of_ble_eq_true rfl) (Nat.le_of_ble_eq_true rfl) ?_
  exact e_I hx hb hr hlocks hP hD hS rfl dL_stamp_20
set_option maxHeartbeats 4000000 in
set_option maxRecDepth 100000 in
theorem tL_count_xb {l : Launch} {D : va_G} {cI cZ cJ : ClassId} {h0 a0 a1 a2 a3 a4 a5 : Nat} (hl0 : l.stackTraces = false) (bf pw hs lo lg rt : Nat → Int32) (nb : Int32) (fi fo en : Nat) (on cu ma : Int32) (x y : Int32) (h : badC x y) (oj : Nat) (og : Nat → Int64) : RH l yL_count wsL_count 9 1 6 D (tyL cI cZ cJ) (wC h0 a0 a1 a2 a3 a4 a5 cI cZ bf pw hs lo lg rt nb (nI fi) (nI fo) (nI en) on cu ma ++ wO oj cJ og) [.ref h0, .int x, .int y, .ref oj] 1 (wC h0 a0 a1 a2 a3 a4 a5 cI cZ bf pw hs lo lg rt nb (nI fi) (nI fo) (nI en) on cu ma ++ wO oj cJ og) := by
  refine st_H (cc := cL_count) (maxL := 5) (ret := (some .int)) (hh := [(0, 10, 13, 15)]) (by decide +kernel) rfl (Nat.le_of_ble_eq_true rfl) ?_
  intro p e s m below meth c A hx hb hr hts hown hml hlocks hK hP hD hA hS ls hl hT htab
  have hown : s.vm.findClass RL = some m.cls := hown
  have hl : lv_has ls 5 [(0, .ref h0), (1, .int x), (2, .int y), (3, .ref oj)] := hl
  refine lv_aload_n hx hb dL_count_0 rfl (lv_at hl 3 rfl) ?_
  refine lv_iconst (v := (nI 0)) hx hb dL_count_1 (by decide) ?_
  refine lv_aload_n hx hb dL_count_2 rfl (lv_at hl 0 rfl) ?_
  refine lv_iload_n hx hb dL_count_3 rfl (lv_at hl 1 rfl) ?_
  refine lv_iload_n hx hb dL_count_4 rfl (lv_at hl 2 rfl) ?_
  refine k_X (wr := wO oj cJ og) hP hD hS hA (vx_runV (As := [.int x, .int y]) (rest := [.int (nI 0), .ref oj]) ⟨hx, hb, hml, hown, hts⟩ ((tX0_count_xb hl0 bf pw hs lo lg rt nb fi fo en on cu ma x y h) _) (cwV 2 hts gL_count_X0_count rfl rfl rfl (by decide +kernel) ⟨Nat.le_of_ble_eq_true rfl, Nat.le_of_ble_eq_true rfl⟩) (pV_X hP hD hK hS hA hT (ci := 0) (q0 := 0) rfl rfl rfl [0, 1] rfl [0, 1, 2, 3, 4, 5, 6] rfl rfl) rfl rfl hl.1 rfl (lv_room (Nat.le_of_ble_eq_true rfl)) dL_count_5 ⟨Nat.le_of_ble_eq_true rfl, Nat.le_of_ble_eq_true rfl⟩) [0, 1, 2, 3, 4, 5, 6] [7] rfl rfl rfl (by decide) (fun ce q9 H locs hP hD hS hce hcv hcl => ?_)
  have hP : va_P D vwCl (wC h0 a0 a1 a2 a3 a4 a5 cI cZ bf pw hs lo lg rt nb (nI fi) (nI fo) (nI en) on cu ma ++ wO oj cJ og) H := hP.sub [1, 2, 3, 4, 5, 6, 7, 0] rfl
  have hD : va_D A (wC h0 a0 a1 a2 a3 a4 a5 cI cZ bf pw hs lo lg rt nb (nI fi) (nI fo) (nI en) on cu ma ++ wO oj cJ og) := hD.sub [1, 2, 3, 4, 5, 6, 7, 0] (by decide) rfl
  refine vx_catch hown [] ⟨0, 10, 13, 15⟩ [] htab (fun z hz => nomatch hz) rfl (by decide) (hts _ clL_count_15) (va_Nw.use rfl (hT.2.2.1 (xIOB, xIOB) (List.mem_of_getElem? (i := 1) rfl))) hce hcv hcl ?_
  refine lv_astore (lv' := [(4, .ref q9), (0, .ref h0), (1, .int x), (2, .int y), (3, .ref oj)]) hx hb dL_count_13 hl (by decide) rfl (fun ls hl => ?_)
  refine lv_iconst (v := (1)) hx hb dL_count_15 (by decide) ?_
  exact e_I hx hb hr hlocks hP hD hS rfl dL_count_16
set_option maxHeartbeats 4000000 in
set_option maxRecDepth 100000 in
theorem tL_count_ok {l : Launch} {D : va_G} {cI cZ cJ : ClassId} {h0 a0 a1 a2 a3 a4 a5 : Nat} (hl0 : l.stackTraces = false) (bf pw hs lo lg rt : Nat → Int32) (nb : Int32) (fi fo en : Nat) (on cu ma : Int32) (ar st : Nat) (h1 : ar < 2) (h2 : st < 3) (oj : Nat) (og : Nat → Int64) : RH l yL_count wsL_count 9 1 6 D (tyL cI cZ cJ) (wC h0 a0 a1 a2 a3 a4 a5 cI cZ bf pw hs lo lg rt nb (nI fi) (nI fo) (nI en) on cu ma ++ wO oj cJ og) [.ref h0, .int (nI ar), .int (nI st), .ref oj] 0 (wC h0 a0 a1 a2 a3 a4 a5 cI cZ bf pw hs lo lg rt nb (nI fi) (nI fo) (nI en) on cu ma ++ wO oj cJ (vp_updL og 0 (Int32.toInt64 (sp_ct lo hs ar (nI st) 256)))) := by
  refine st_H (cc := cL_count) (maxL := 5) (ret := (some .int)) (hh := [(0, 10, 13, 15)]) (by decide +kernel) rfl (Nat.le_of_ble_eq_true rfl) ?_
  intro p e s m below meth c A hx hb hr hts hown hml hlocks hK hP hD hA hS ls hl hT htab
  have hown : s.vm.findClass RL = some m.cls := hown
  have hl : lv_has ls 5 [(0, .ref h0), (1, .int (nI ar)), (2, .int (nI st)), (3, .ref oj)] := hl
  refine lv_aload_n hx hb dL_count_0 rfl (lv_at hl 3 rfl) ?_
  refine lv_iconst (v := (nI 0)) hx hb dL_count_1 (by decide) ?_
  refine lv_aload_n hx hb dL_count_2 rfl (lv_at hl 0 rfl) ?_
  refine lv_iload_n hx hb dL_count_3 rfl (lv_at hl 1 rfl) ?_
  refine lv_iload_n hx hb dL_count_4 rfl (lv_at hl 2 rfl) ?_
  refine k_I (wr := wO oj cJ og) hP hD hS hA (va_runV (As := [.int (nI ar), .int (nI st)]) (rest := [.int (nI 0), .ref oj]) ⟨hx, hb, hml, hown, hts⟩ ((tX0_count_ok bf pw hs lo lg rt nb fi fo en on cu ma ar st h1 h2) _) (cwV 2 hts gL_count_X0_count rfl rfl rfl (by decide +kernel) ⟨Nat.le_of_ble_eq_true rfl, Nat.le_of_ble_eq_true rfl⟩) (pV_B hP hD hK (ci := 0) (q0 := 0) rfl rfl rfl [0, 1] rfl [0, 1, 2, 3, 4, 5, 6] rfl rfl) rfl rfl hl.1 rfl (lv_room (Nat.le_of_ble_eq_true rfl)) dL_count_5 ⟨Nat.le_of_ble_eq_true rfl, Nat.le_of_ble_eq_true rfl⟩) [0, 1, 2, 3, 4, 5, 6] [7] rfl rfl rfl (by decide) (fun H locs hP hD hS => ?_)
  have hP : va_P D vwCl (wC h0 a0 a1 a2 a3 a4 a5 cI cZ bf pw hs lo lg rt nb (nI fi) (nI fo) (nI en) on cu ma ++ wO oj cJ og) H := hP.sub [1, 2, 3, 4, 5, 6, 7, 0] rfl
  have hD : va_D A (wC h0 a0 a1 a2 a3 a4 a5 cI cZ bf pw hs lo lg rt nb (nI fi) (nI fo) (nI en) on cu ma ++ wO oj cJ og) := hD.sub [1, 2, 3, 4, 5, 6, 7, 0] (by decide) rfl
  refine lv_i2l (v := Int32.toInt64 (sp_ct lo hs ar (nI st) 256)) hx hb dL_count_8 rfl ?_
  refine n_last hx hb hK hP hD hS 7 2 rfl rfl 0 (by omega) (by omega) dL_count_9 (fun H locs hP hD hS => ?_)
  have hP : va_P D vwCl (wC h0 a0 a1 a2 a3 a4 a5 cI cZ bf pw hs lo lg rt nb (nI fi) (nI fo) (nI en) on cu ma ++ wO oj cJ (vp_updL og 0 (Int32.toInt64 (sp_ct lo hs ar (nI st) 256)))) H := hP
  have hD : va_D A (wC h0 a0 a1 a2 a3 a4 a5 cI cZ bf pw hs lo lg rt nb (nI fi) (nI fo) (nI en) on cu ma ++ wO oj cJ (vp_updL og 0 (Int32.toInt64 (sp_ct lo hs ar (nI st) 256)))) := hD
  refine lv_goto (tgt := 17) hx hb dL_count_10 (by decide) ?_
  refine lv_iconst (v := (0)) hx hb dL_count_17 (by decide) ?_
  refine W.widen (k := 1) (n := 6) (Nat.le_of_ble_eq_true rfl) (Nat.le_of_ble_eq_true rfl) ?_
  exact e_I hx hb hr hlocks hP hD hS rfl dL_count_18
set_option maxHeartbeats 4000000 in
set_option maxRecDepth 100000 in
theorem tL_append_xb {l : Launch} {D : va_G} {cI cZ cJ : ClassId} {h0 a0 a1 a2 a3 a4 a5 : Nat} (hl0 : l.stackTraces = false) (bf pw hs lo lg rt : Nat → Int32) (nb : Int32) (fi fo en : Nat) (cu ma : Int32) (x : Int32) (h : x < nI 1 ∨ nI 64 < x) (oj : Nat) (og : Nat → Int64) : RH l yL_append wsL_append 9 1 6 D (tyL cI cZ cJ) (wC h0 a0 a1 a2 a3 a4 a5 cI cZ bf pw hs lo lg rt nb (nI fi) (nI fo) (nI en) 1 cu ma ++ wO oj cJ og) [.ref h0, .int x, .ref oj] 2 (wC h0 a0 a1 a2 a3 a4 a5 cI cZ bf pw hs lo lg rt nb (nI fi) (nI fo) (nI en) 1 cu ma ++ wO oj cJ og) := by
  refine st_H (cc := cL_append) (maxL := 4) (ret := (some .int)) (hh := [(0, 9, 12, 13), (0, 9, 15, 37)]) (by decide +kernel) rfl (Nat.le_of_ble_eq_true rfl) ?_
  intro p e s m below meth c A hx hb hr hts hown hml hlocks hK hP hD hA hS ls hl hT htab
  have hown : s.vm.findClass RL = some m.cls := hown
  have hl : lv_has ls 4 [(0, .ref h0), (1, .int x), (2, .ref oj)] := hl
  refine lv_aload_n hx hb dL_append_0 rfl (lv_at hl 2 rfl) ?_
  refine lv_iconst (v := (nI 0)) hx hb dL_append_1 (by decide) ?_
  refine lv_aload_n hx hb dL_append_2 rfl (lv_at hl 0 rfl) ?_
  refine lv_iload_n hx hb dL_append_3 rfl (lv_at hl 1 rfl) ?_
  refine k_X (wr := wO oj cJ og) hP hD hS hA (vx_runV (As := [.int x]) (rest := [.int (nI 0), .ref oj]) ⟨hx, hb, hml, hown, hts⟩ ((tX0_append_xb hl0 bf pw hs lo lg rt nb fi fo en cu ma x h) _) (cwV 1 hts gL_append_X0_append rfl rfl rfl (by decide +kernel) ⟨Nat.le_of_ble_eq_true rfl, Nat.le_of_ble_eq_true rfl⟩) (pV_X hP hD hK hS hA hT (ci := 0) (q0 := 0) rfl rfl rfl [0, 1] rfl [0, 1, 2, 3, 4, 5, 6] rfl rfl) rfl rfl hl.1 rfl (lv_room (Nat.le_of_ble_eq_true rfl)) dL_append_4 ⟨Nat.le_of_ble_eq_true rfl, Nat.le_of_ble_eq_true rfl⟩) [0, 1, 2, 3, 4, 5, 6] [7] rfl rfl rfl (by decide) (fun ce q9 H locs hP hD hS hce hcv hcl => ?_)
  have hP : va_P D vwCl (wC h0 a0 a1 a2 a3 a4 a5 cI cZ bf pw hs lo lg rt nb (nI fi) (nI fo) (nI en) 1 cu ma ++ wO oj cJ og) H := hP.sub [1, 2, 3, 4, 5, 6, 7, 0] rfl
  have hD : va_D A (wC h0 a0 a1 a2 a3 a4 a5 cI cZ bf pw hs lo lg rt nb (nI fi) (nI fo) (nI en) 1 cu ma ++ wO oj cJ og) := hD.sub [1, 2, 3, 4, 5, 6, 7, 0] (by decide) rfl
  refine vx_catch hown [⟨0, 9, 12, 13⟩] ⟨0, 9, 15, 37⟩ [] htab (fun z hz => by obtain rfl := List.mem_singleton.mp hz; exact Or.inr ⟨by decide, xISE, hts _ clL_append_13, hT.2.2.2.2.1 (xIAE, xISE) (List.mem_of_getElem? (i := 1) rfl)⟩) rfl (by decide) (hts _ clL_append_37) (va_Nw.use rfl (hT.2.2.1 (xIAE, xIAE) (List.mem_of_getElem? (i := 2) rfl))) hce hcv hcl ?_
  refine lv_astore_n (lv' := [(3, .ref q9), (0, .ref h0), (1, .int x), (2, .ref oj)]) hx hb dL_append_15 rfl hl (by decide) rfl (fun ls hl => ?_)
  refine lv_iconst (v := (2)) hx hb dL_append_16 (by decide) ?_
  exact e_I hx hb hr hlocks hP hD hS rfl dL_append_17
set_option maxHeartbeats 4000000 in
set_option maxRecDepth 100000 in
theorem tL_append_ok {l : Launch} {D : va_G} {cI cZ cJ : ClassId} {h0 a0 a1 a2 a3 a4 a5 : Nat} (hl0 : l.stackTraces = false) (bf pw hs lo lg rt : Nat → Int32) (nb : Int32) (fi fo en : Nat) (cu ma : Int32) (k : Nat) (hk : 1 ≤ k) (hk2 : k ≤ 64) (hf : fi ≤ en) (he : en ≤ 60000) (oj : Nat) (og : Nat → Int64) : RH l yL_append wsL_append 9 1 6 D (tyL cI cZ cJ) (wC h0 a0 a1 a2 a3 a4 a5 cI cZ bf pw hs lo lg rt nb (nI fi) (nI fo) (nI en) 1 cu ma ++ wO oj cJ og) [.ref h0, .int (nI k), .ref oj] 0 (wC h0 a0 a1 a2 a3 a4 a5 cI cZ bf pw hs lo (sp_ap bf en lg k) rt nb (nI fi) (nI fo) (nI (en + k)) 1 cu ma ++ wO oj cJ (vp_updL og 0 (Int32.toInt64 (nI en)))) := by
  refine st_H (cc := cL_append) (maxL := 4) (ret := (some .int)) (hh := [(0, 9, 12, 13), (0, 9, 15, 37)]) (by decide +kernel) rfl (Nat.le_of_ble_eq_true rfl) ?_
  intro p e s m below meth c A hx hb hr hts hown hml hlocks hK hP hD hA hS ls hl hT htab
  have hown : s.vm.findClass RL = some m.cls := hown
  have hl : lv_has ls 4 [(0, .ref h0), (1, .int (nI k)), (2, .ref oj)] := hl
  refine lv_aload_n hx hb dL_append_0 rfl (lv_at hl 2 rfl) ?_
  refine lv_iconst (v := (nI 0)) hx hb dL_append_1 (by decide) ?_
  refine lv_aload_n hx hb dL_append_2 rfl (lv_at hl 0 rfl) ?_
  refine lv_iload_n hx hb dL_append_3 rfl (lv_at hl 1 rfl) ?_
  refine k_I (wr := wO oj cJ og) hP hD hS hA (va_runV (As := [.int (nI k)]) (rest := [.int (nI 0), .ref oj]) ⟨hx, hb, hml, hown, hts⟩ ((tX0_append_ok bf pw hs lo lg rt nb fi fo en cu ma k hk hk2 hf he) _) (cwV 1 hts gL_append_X0_append rfl rfl rfl (by decide +kernel) ⟨Nat.le_of_ble_eq_true rfl, Nat.le_of_ble_eq_true rfl⟩) (pV_B hP hD hK (ci := 0) (q0 := 0) rfl rfl rfl [0, 1] rfl [0, 1, 2, 3, 4, 5, 6] rfl rfl) rfl rfl hl.1 rfl (lv_room (Nat.le_of_ble_eq_true rfl)) dL_append_4 ⟨Nat.le_of_ble_eq_true rfl, Nat.le_of_ble_eq_true rfl⟩) [0, 1, 2, 3, 4, 5, 6] [7] rfl rfl rfl (by decide) (fun H locs hP hD hS => ?_)
  have hP : va_P D vwCl (wC h0 a0 a1 a2 a3 a4 a5 cI cZ bf pw hs lo (sp_ap bf en lg k) rt nb (nI fi) (nI fo) (nI (en + k)) 1 cu ma ++ wO oj cJ og) H := hP.sub [1, 2, 3, 4, 5, 6, 7, 0] rfl
  have hD : va_D A (wC h0 a0 a1 a2 a3 a4 a5 cI cZ bf pw hs lo (sp_ap bf en lg k) rt nb (nI fi) (nI fo) (nI (en + k)) 1 cu ma ++ wO oj cJ og) := hD.sub [1, 2, 3, 4, 5, 6, 7, 0] (by decide) rfl
  refine lv_i2l (v := Int32.toInt64 (nI en)) hx hb dL_append_7 rfl ?_
  refine n_last hx hb hK hP hD hS 7 2 rfl rfl 0 (by omega) (by omega) dL_append_8 (fun H locs hP hD hS => ?_)
  have hP : va_P D vwCl (wC h0 a0 a1 a2 a3 a4 a5 cI cZ bf pw hs lo (sp_ap bf en lg k) rt nb (nI fi) (nI fo) (nI (en + k)) 1 cu ma ++ wO oj cJ (vp_updL og 0 (Int32.toInt64 (nI en)))) H := hP
  have hD : va_D A (wC h0 a0 a1 a2 a3 a4 a5 cI cZ bf pw hs lo (sp_ap bf en lg k) rt nb (nI fi) (nI fo) (nI (en + k)) 1 cu ma ++ wO oj cJ (vp_updL og 0 (Int32.toInt64 (nI en)))) := hD
  refine lv_goto (tgt := 18) hx hb dL_append_9 (by decide) ?_
  refine lv_iconst (v := (0)) hx hb dL_append_18 (by decide) ?_
  refine W.widen (k := 1) (n := 6) (Nat.le_of_ble_eq_true rfl) (Nat.le_of_ble_eq_true rfl) ?_
  exact e_I hx hb hr hlocks hP hD hS rfl dL_append_19
set_option maxHeartbeats 4000000 in
set_option maxRecDepth 100000 in
theorem tL_force_xb {l : Launch} {D : va_G} {cI cZ cJ : ClassId} {h0 a0 a1 a2 a3 a4 a5 : Nat} (hl0 : l.stackTraces = false) (bf pw hs lo lg rt : Nat → Int32) (nb : Int32) (fi fo en : Nat) (cu ma : Int32) (x : Int32) (h : x < nI fi ∨ nI en < x) (oj : Nat) (og : Nat → Int64) : RH l yL_force wsL_force 9 1 6 D (tyL cI cZ cJ) (wC h0 a0 a1 a2 a3 a4 a5 cI cZ bf pw hs lo lg rt nb (nI fi) (nI fo) (nI en) 1 cu ma ++ wO oj cJ og) [.ref h0, .int x, .ref oj] 2 (wC h0 a0 a1 a2 a3 a4 a5 cI cZ bf pw hs lo lg rt nb (nI fi) (nI fo) (nI en) 1 cu ma ++ wO oj cJ og) := by
  refine st_H (cc := cL_force) (maxL := 4) (ret := (some .int)) (hh := [(0, 9, 12, 13), (0, 9, 15, 37)]) (by decide +kernel) rfl (Nat.le_of_ble_eq_true rfl) ?_
  intro p e s m below meth c A hx hb hr hts hown hml hlocks hK hP hD hA hS ls hl hT htab
  have hown : s.vm.findClass RL = some m.cls := hown
  have hl : lv_has ls 4 [(0, .ref h0), (1, .int x), (2, .ref oj)] := hl
  refine lv_aload_n hx hb dL_force_0 rfl (lv_at hl 2 rfl) ?_
  refine lv_iconst (v := (nI 0)) hx hb dL_force_1 (by decide) ?_
  refine lv_aload_n hx hb dL_force_2 rfl (lv_at hl 0 rfl) ?_
  refine lv_iload_n hx hb dL_force_3 rfl (lv_at hl 1 rfl) ?_
  refine k_X (wr := wO oj cJ og) hP hD hS hA (vx_runV (As := [.int x]) (rest := [.int (nI 0), .ref oj]) ⟨hx, hb, hml, hown, hts⟩ ((tX0_force_xb hl0 bf pw hs lo lg rt nb fi fo en cu ma x h) _) (cwV 1 hts gL_force_X0_force rfl rfl rfl (by decide +kernel) ⟨Nat.le_of_ble_eq_true rfl, Nat.le_of_ble_eq_true rfl⟩) (pV_X hP hD hK hS hA hT (ci := 0) (q0 := 0) rfl rfl rfl [0, 1] rfl [0, 1, 2, 3, 4, 5, 6] rfl rfl) rfl rfl hl.1 rfl (lv_room (Nat.le_of_ble_eq_true rfl)) dL_force_4 ⟨Nat.le_of_ble_eq_true rfl, Nat.le_of_ble_eq_true rfl⟩) [0, 1, 2, 3, 4, 5, 6] [7] rfl rfl rfl (by decide) (fun ce q9 H locs hP hD hS hce hcv hcl => ?_)
  have hP : va_P D vwCl (wC h0 a0 a1 a2 a3 a4 a5 cI cZ bf pw hs lo lg rt nb (nI fi) (nI fo) (nI en) 1 cu ma ++ wO oj cJ og) H := hP.sub [1, 2, 3, 4, 5, 6, 7, 0] rfl
  have hD : va_D A (wC h0 a0 a1 a2 a3 a4 a5 cI cZ bf pw hs lo lg rt nb (nI fi) (nI fo) (nI en) 1 cu ma ++ wO oj cJ og) := hD.sub [1, 2, 3, 4, 5, 6, 7, 0] (by decide) rfl
  refine vx_catch hown [⟨0, 9, 12, 13⟩] ⟨0, 9, 15, 37⟩ [] htab (fun z hz => by obtain rfl := List.mem_singleton.mp hz; exact Or.inr ⟨by decide, xISE, hts _ clL_force_13, hT.2.2.2.2.1 (xIAE, xISE) (List.mem_of_getElem? (i := 1) rfl)⟩) rfl (by decide) (hts _ clL_force_37) (va_Nw.use rfl (hT.2.2.1 (xIAE, xIAE) (List.mem_of_getElem? (i := 2) rfl))) hce hcv hcl ?_
  refine lv_astore_n (lv' := [(3, .ref q9), (0, .ref h0), (1, .int x), (2, .ref oj)]) hx hb dL_force_15 rfl hl (by decide) rfl (fun ls hl => ?_)
  refine lv_iconst (v := (2)) hx hb dL_force_16 (by decide) ?_
  exact e_I hx hb hr hlocks hP hD hS rfl dL_force_17
set_option maxHeartbeats 4000000 in
set_option maxRecDepth 100000 in
theorem tL_force_ok {l : Launch} {D : va_G} {cI cZ cJ : ClassId} {h0 a0 a1 a2 a3 a4 a5 : Nat} (hl0 : l.stackTraces = false) (bf pw hs lo lg rt : Nat → Int32) (nb : Int32) (fi fo en : Nat) (cu ma : Int32) (pl : Nat) (h1 : fi ≤ pl) (h2 : pl ≤ en) (h3 : fo ≤ pl) (he : en ≤ 60000) (hcut : fcut (pl - fo) cu = false) (oj : Nat) (og : Nat → Int64) : RH l yL_force wsL_force 9 1 6 D (tyL cI cZ cJ) (wC h0 a0 a1 a2 a3 a4 a5 cI cZ bf pw hs lo lg rt nb (nI fi) (nI fo) (nI en) 1 cu ma ++ wO oj cJ og) [.ref h0, .int (nI pl), .ref oj] 0 (wC h0 a0 a1 a2 a3 a4 a5 cI cZ bf pw hs lo lg rt nb (nI fi) (nI pl) (nI en) 1 (fcu (pl - fo) cu) (fma (pl - fo) cu ma) ++ wO oj cJ (vp_updL og 0 (Int32.toInt64 (nI (pl - fo))))) := by
  refine st_H (cc := cL_force) (maxL := 4) (ret := (some .int)) (hh := [(0, 9, 12, 13), (0, 9, 15, 37)]) (by decide +kernel) rfl (Nat.le_of_ble_eq_true rfl) ?_
  intro p e s m below meth c A hx hb hr hts hown hml hlocks hK hP hD hA hS ls hl hT htab
  have hown : s.vm.findClass RL = some m.cls := hown
  have hl : lv_has ls 4 [(0, .ref h0), (1, .int (nI pl)), (2, .ref oj)] := hl
  refine lv_aload_n hx hb dL_force_0 rfl (lv_at hl 2 rfl) ?_
  refine lv_iconst (v := (nI 0)) hx hb dL_force_1 (by decide) ?_
  refine lv_aload_n hx hb dL_force_2 rfl (lv_at hl 0 rfl) ?_
  refine lv_iload_n hx hb dL_force_3 rfl (lv_at hl 1 rfl) ?_
  refine k_I (wr := wO oj cJ og) hP hD hS hA (va_runV (As := [.int (nI pl)]) (rest := [.int (nI 0), .ref oj]) ⟨hx, hb, hml, hown, hts⟩ ((tX0_force_ok bf pw hs lo lg rt nb fi fo en cu ma pl h1 h2 h3 he hcut) _) (cwV 1 hts gL_force_X0_force rfl rfl rfl (by decide +kernel) ⟨Nat.le_of_ble_eq_true rfl, Nat.le_of_ble_eq_true rfl⟩) (pV_B hP hD hK (ci := 0) (q0 := 0) rfl rfl rfl [0, 1] rfl [0, 1, 2, 3, 4, 5, 6] rfl rfl) rfl rfl hl.1 rfl (lv_room (Nat.le_of_ble_eq_true rfl)) dL_force_4 ⟨Nat.le_of_ble_eq_true rfl, Nat.le_of_ble_eq_true rfl⟩) [0, 1, 2, 3, 4, 5, 6] [7] rfl rfl rfl (by decide) (fun H locs hP hD hS => ?_)
  have hP : va_P D vwCl (wC h0 a0 a1 a2 a3 a4 a5 cI cZ bf pw hs lo lg rt nb (nI fi) (nI pl) (nI en) 1 (fcu (pl - fo) cu) (fma (pl - fo) cu ma) ++ wO oj cJ og) H := hP.sub [1, 2, 3, 4, 5, 6, 7, 0] rfl
  have hD : va_D A (wC h0 a0 a1 a2 a3 a4 a5 cI cZ bf pw hs lo lg rt nb (nI fi) (nI pl) (nI en) 1 (fcu (pl - fo) cu) (fma (pl - fo) cu ma) ++ wO oj cJ og) := hD.sub [1, 2, 3, 4, 5, 6, 7, 0] (by decide) rfl
  refine lv_i2l (v := Int32.toInt64 (nI (pl - fo))) hx hb dL_force_7 rfl ?_
  refine n_last hx hb hK hP hD hS 7 2 rfl rfl 0 (by omega) (by omega) dL_force_8 (fun H locs hP hD hS => ?_)
  have hP : va_P D vwCl (wC h0 a0 a1 a2 a3 a4 a5 cI cZ bf pw hs lo lg rt nb (nI fi) (nI pl) (nI en) 1 (fcu (pl - fo) cu) (fma (pl - fo) cu ma) ++ wO oj cJ (vp_updL og 0 (Int32.toInt64 (nI (pl - fo))))) H := hP
  have hD : va_D A (wC h0 a0 a1 a2 a3 a4 a5 cI cZ bf pw hs lo lg rt nb (nI fi) (nI pl) (nI en) 1 (fcu (pl - fo) cu) (fma (pl - fo) cu ma) ++ wO oj cJ (vp_updL og 0 (Int32.toInt64 (nI (pl - fo))))) := hD
  refine lv_goto (tgt := 18) hx hb dL_force_9 (by decide) ?_
  refine lv_iconst (v := (0)) hx hb dL_force_18 (by decide) ?_
  refine W.widen (k := 1) (n := 6) (Nat.le_of_ble_eq_true rfl) (Nat.le_of_ble_eq_true rfl) ?_
  exact e_I hx hb hr hlocks hP hD hS rfl dL_force_19
set_option maxHeartbeats 4000000 in
set_option maxRecDepth 100000 in
theorem tL_force_cut {l : Launch} {D : va_G} {cI cZ cJ : ClassId} {h0 a0 a1 a2 a3 a4 a5 : Nat} (hl0 : l.stackTraces = false) (bf pw hs lo lg rt : Nat → Int32) (nb : Int32) (fi fo en : Nat) (cu ma : Int32) (pl : Nat) (h1 : fi ≤ pl) (h2 : pl ≤ en) (h3 : fo ≤ pl) (he : en ≤ 60000) (hcut : fcut (pl - fo) cu = true) (oj : Nat) (og : Nat → Int64) : RH l yL_force wsL_force 9 1 6 D (tyL cI cZ cJ) (wC h0 a0 a1 a2 a3 a4 a5 cI cZ bf pw hs lo lg rt nb (nI fi) (nI fo) (nI en) 1 cu ma ++ wO oj cJ og) [.ref h0, .int (nI pl), .ref oj] 0 (wC h0 a0 a1 a2 a3 a4 a5 cI cZ (zf bf) pw hs lo lg rt nb (nI fi) (nI (fo + fmk (pl - fo) cu)) (nI (fo + fmk (pl - fo) cu)) 0 (fcu (pl - fo) cu) (fma (pl - fo) cu ma) ++ wO oj cJ (vp_updL og 0 (Int32.toInt64 (-1)))) := by
  refine st_H (cc := cL_force) (maxL := 4) (ret := (some .int)) (hh := [(0, 9, 12, 13), (0, 9, 15, 37)]) (by decide +kernel) rfl (Nat.le_of_ble_eq_true rfl) ?_
  intro p e s m below meth c A hx hb hr hts hown hml hlocks hK hP hD hA hS ls hl hT htab
  have hown : s.vm.findClass RL = some m.cls := hown
  have hl : lv_has ls 4 [(0, .ref h0), (1, .int (nI pl)), (2, .ref oj)] := hl
  refine lv_aload_n hx hb dL_force_0 rfl (lv_at hl 2 rfl) ?_
  refine lv_iconst (v := (nI 0)) hx hb dL_force_1 (by decide) ?_
  refine lv_aload_n hx hb dL_force_2 rfl (lv_at hl 0 rfl) ?_
  refine lv_iload_n hx hb dL_force_3 rfl (lv_at hl 1 rfl) ?_
  refine k_I (wr := wO oj cJ og) hP hD hS hA (va_runV (As := [.int (nI pl)]) (rest := [.int (nI 0), .ref oj]) ⟨hx, hb, hml, hown, hts⟩ ((tX0_force_cut bf pw hs lo lg rt nb fi fo en cu ma pl h1 h2 h3 he hcut) _) (cwV 1 hts gL_force_X0_force rfl rfl rfl (by decide +kernel) ⟨Nat.le_of_ble_eq_true rfl, Nat.le_of_ble_eq_true rfl⟩) (pV_B hP hD hK (ci := 0) (q0 := 0) rfl rfl rfl [0, 1] rfl [0, 1, 2, 3, 4, 5, 6] rfl rfl) rfl rfl hl.1 rfl (lv_room (Nat.le_of_ble_eq_true rfl)) dL_force_4 ⟨Nat.le_of_ble_eq_true rfl, Nat.le_of_ble_eq_true rfl⟩) [0, 1, 2, 3, 4, 5, 6] [7] rfl rfl rfl (by decide) (fun H locs hP hD hS => ?_)
  have hP : va_P D vwCl (wC h0 a0 a1 a2 a3 a4 a5 cI cZ (zf bf) pw hs lo lg rt nb (nI fi) (nI (fo + fmk (pl - fo) cu)) (nI (fo + fmk (pl - fo) cu)) 0 (fcu (pl - fo) cu) (fma (pl - fo) cu ma) ++ wO oj cJ og) H := hP.sub [1, 2, 3, 4, 5, 6, 7, 0] rfl
  have hD : va_D A (wC h0 a0 a1 a2 a3 a4 a5 cI cZ (zf bf) pw hs lo lg rt nb (nI fi) (nI (fo + fmk (pl - fo) cu)) (nI (fo + fmk (pl - fo) cu)) 0 (fcu (pl - fo) cu) (fma (pl - fo) cu ma) ++ wO oj cJ og) := hD.sub [1, 2, 3, 4, 5, 6, 7, 0] (by decide) rfl
  refine lv_i2l (v := Int32.toInt64 (-1)) hx hb dL_force_7 rfl ?_
  refine n_last hx hb hK hP hD hS 7 2 rfl rfl 0 (by omega) (by omega) dL_force_8 (fun H locs hP hD hS => ?_)
  have hP : va_P D vwCl (wC h0 a0 a1 a2 a3 a4 a5 cI cZ (zf bf) pw hs lo lg rt nb (nI fi) (nI (fo + fmk (pl - fo) cu)) (nI (fo + fmk (pl - fo) cu)) 0 (fcu (pl - fo) cu) (fma (pl - fo) cu ma) ++ wO oj cJ (vp_updL og 0 (Int32.toInt64 (-1)))) H := hP
  have hD : va_D A (wC h0 a0 a1 a2 a3 a4 a5 cI cZ (zf bf) pw hs lo lg rt nb (nI fi) (nI (fo + fmk (pl - fo) cu)) (nI (fo + fmk (pl - fo) cu)) 0 (fcu (pl - fo) cu) (fma (pl - fo) cu ma) ++ wO oj cJ (vp_updL og 0 (Int32.toInt64 (-1)))) := hD
  refine lv_goto (tgt := 18) hx hb dL_force_9 (by decide) ?_
  refine lv_iconst (v := (0)) hx hb dL_force_18 (by decide) ?_
  refine W.widen (k := 1) (n := 6) (Nat.le_of_ble_eq_true rfl) (Nat.le_of_ble_eq_true rfl) ?_
  exact e_I hx hb hr hlocks hP hD hS rfl dL_force_19
set_option maxHeartbeats 4000000 in
set_option maxRecDepth 100000 in
theorem tL_force_no {l : Launch} {D : va_G} {cI cZ cJ : ClassId} {h0 a0 a1 a2 a3 a4 a5 : Nat} (hl0 : l.stackTraces = false) (bf pw hs lo lg rt : Nat → Int32) (nb : Int32) (fi fo en : Nat) (cu ma : Int32) (pl : Nat) (h1 : fi ≤ pl) (h2 : pl ≤ en) (h3 : pl ≤ fo) (he : en ≤ 60000) (hfo : fo ≤ en) (oj : Nat) (og : Nat → Int64) : RH l yL_force wsL_force 9 1 6 D (tyL cI cZ cJ) (wC h0 a0 a1 a2 a3 a4 a5 cI cZ bf pw hs lo lg rt nb (nI fi) (nI fo) (nI en) 1 cu ma ++ wO oj cJ og) [.ref h0, .int (nI pl), .ref oj] 0 (wC h0 a0 a1 a2 a3 a4 a5 cI cZ bf pw hs lo lg rt nb (nI fi) (nI fo) (nI en) 1 cu ma ++ wO oj cJ (vp_updL og 0 (Int32.toInt64 0))) := by
  refine st_H (cc := cL_force) (maxL := 4) (ret := (some .int)) (hh := [(0, 9, 12, 13), (0, 9, 15, 37)]) (by decide +kernel) rfl (Nat.le_of_ble_eq_true rfl) ?_
  intro p e s m below meth c A hx hb hr hts hown hml hlocks hK hP hD hA hS ls hl hT htab
  have hown : s.vm.findClass RL = some m.cls := hown
  have hl : lv_has ls 4 [(0, .ref h0), (1, .int (nI pl)), (2, .ref oj)] := hl
  refine lv_aload_n hx hb dL_force_0 rfl (lv_at hl 2 rfl) ?_
  refine lv_iconst (v := (nI 0)) hx hb dL_force_1 (by decide) ?_
  refine lv_aload_n hx hb dL_force_2 rfl (lv_at hl 0 rfl) ?_
  refine lv_iload_n hx hb dL_force_3 rfl (lv_at hl 1 rfl) ?_
  refine k_I (wr := wO oj cJ og) hP hD hS hA (va_runV (As := [.int (nI pl)]) (rest := [.int (nI 0), .ref oj]) ⟨hx, hb, hml, hown, hts⟩ ((tX0_force_no bf pw hs lo lg rt nb fi fo en cu ma pl h1 h2 h3 he hfo) _) (cwV 1 hts gL_force_X0_force rfl rfl rfl (by decide +kernel) ⟨Nat.le_of_ble_eq_true rfl, Nat.le_of_ble_eq_true rfl⟩) (pV_B hP hD hK (ci := 0) (q0 := 0) rfl rfl rfl [0, 1] rfl [0, 1, 2, 3, 4, 5, 6] rfl rfl) rfl rfl hl.1 rfl (lv_room (Nat.le_of_ble_eq_true rfl)) dL_force_4 ⟨Nat.le_of_ble_eq_true rfl, Nat.le_of_ble_eq_true rfl⟩) [0, 1, 2, 3, 4, 5, 6] [7] rfl rfl rfl (by decide) (fun H locs hP hD hS => ?_)
  have hP : va_P D vwCl (wC h0 a0 a1 a2 a3 a4 a5 cI cZ bf pw hs lo lg rt nb (nI fi) (nI fo) (nI en) 1 cu ma ++ wO oj cJ og) H := hP.sub [1, 2, 3, 4, 5, 6, 7, 0] rfl
  have hD : va_D A (wC h0 a0 a1 a2 a3 a4 a5 cI cZ bf pw hs lo lg rt nb (nI fi) (nI fo) (nI en) 1 cu ma ++ wO oj cJ og) := hD.sub [1, 2, 3, 4, 5, 6, 7, 0] (by decide) rfl
  refine lv_i2l (v := Int32.toInt64 0) hx hb dL_force_7 rfl ?_
  refine n_last hx hb hK hP hD hS 7 2 rfl rfl 0 (by omega) (by omega) dL_force_8 (fun H locs hP hD hS => ?_)
  have hP : va_P D vwCl (wC h0 a0 a1 a2 a3 a4 a5 cI cZ bf pw hs lo lg rt nb (nI fi) (nI fo) (nI en) 1 cu ma ++ wO oj cJ (vp_updL og 0 (Int32.toInt64 0))) H := hP
  have hD : va_D A (wC h0 a0 a1 a2 a3 a4 a5 cI cZ bf pw hs lo lg rt nb (nI fi) (nI fo) (nI en) 1 cu ma ++ wO oj cJ (vp_updL og 0 (Int32.toInt64 0))) := hD
  refine lv_goto (tgt := 18) hx hb dL_force_9 (by decide) ?_
  refine lv_iconst (v := (0)) hx hb dL_force_18 (by decide) ?_
  refine W.widen (k := 1) (n := 6) (Nat.le_of_ble_eq_true rfl) (Nat.le_of_ble_eq_true rfl) ?_
  exact e_I hx hb hr hlocks hP hD hS rfl dL_force_19
set_option maxHeartbeats 4000000 in
set_option maxRecDepth 100000 in
theorem tL_readLog_xb {l : Launch} {D : va_G} {cI cZ cJ : ClassId} {h0 a0 a1 a2 a3 a4 a5 : Nat} (hl0 : l.stackTraces = false) (bf pw hs lo lg rt : Nat → Int32) (nb : Int32) (fi fo en : Nat) (cu ma : Int32) (x y : Int32) (h : badR fi en x y) (oj : Nat) (og : Nat → Int64) : RH l yL_readLog wsL_readLog 9 1 6 D (tyL cI cZ cJ) (wC h0 a0 a1 a2 a3 a4 a5 cI cZ bf pw hs lo lg rt nb (nI fi) (nI fo) (nI en) 1 cu ma) [.ref h0, .int x, .int y] 2 (wC h0 a0 a1 a2 a3 a4 a5 cI cZ bf pw hs lo lg rt nb (nI fi) (nI fo) (nI en) 1 cu ma) := by
  refine st_H (cc := cL_readLog) (maxL := 4) (ret := (some .int)) (hh := [(0, 6, 9, 13), (0, 6, 12, 37)]) (by decide +kernel) rfl (Nat.le_of_ble_eq_true rfl) ?_
  intro p e s m below meth c A hx hb hr hts hown hml hlocks hK hP hD hA hS ls hl hT htab
  have hown : s.vm.findClass RL = some m.cls := hown
  have hl : lv_has ls 4 [(0, .ref h0), (1, .int x), (2, .int y)] := hl
  refine lv_aload_n hx hb dL_readLog_0 rfl (lv_at hl 0 rfl) ?_
  refine lv_iload_n hx hb dL_readLog_1 rfl (lv_at hl 1 rfl) ?_
  refine lv_iload_n hx hb dL_readLog_2 rfl (lv_at hl 2 rfl) ?_
  refine k_X (wr := []) hP hD hS hA (vx_runV (As := [.int x, .int y]) (rest := []) ⟨hx, hb, hml, hown, hts⟩ ((tX0_readLog_xb hl0 bf pw hs lo lg rt nb fi fo en cu ma x y h) _) (cwV 2 hts gL_readLog_X0_readLog rfl rfl rfl (by decide +kernel) ⟨Nat.le_of_ble_eq_true rfl, Nat.le_of_ble_eq_true rfl⟩) (pV_X hP hD hK hS hA hT (ci := 0) (q0 := 0) rfl rfl rfl [0, 1] rfl [0, 1, 2, 3, 4, 5, 6] rfl rfl) rfl rfl hl.1 rfl (lv_room (Nat.le_of_ble_eq_true rfl)) dL_readLog_3 ⟨Nat.le_of_ble_eq_true rfl, Nat.le_of_ble_eq_true rfl⟩) [0, 1, 2, 3, 4, 5, 6] [] rfl rfl rfl (by decide) (fun ce q9 H locs hP hD hS hce hcv hcl => ?_)
  refine vx_catch hown [⟨0, 6, 9, 13⟩] ⟨0, 6, 12, 37⟩ [] htab (fun z hz => by obtain rfl := List.mem_singleton.mp hz; exact Or.inr ⟨by decide, xISE, hts _ clL_readLog_13, hT.2.2.2.2.1 (xIAE, xISE) (List.mem_of_getElem? (i := 1) rfl)⟩) rfl (by decide) (hts _ clL_readLog_37) (va_Nw.use rfl (hT.2.2.1 (xIAE, xIAE) (List.mem_of_getElem? (i := 2) rfl))) hce hcv hcl ?_
  refine lv_astore_n (lv' := [(3, .ref q9), (0, .ref h0), (1, .int x), (2, .int y)]) hx hb dL_readLog_12 rfl hl (by decide) rfl (fun ls hl => ?_)
  refine lv_iconst (v := (2)) hx hb dL_readLog_13 (by decide) ?_
  exact e_I hx hb hr hlocks hP hD hS rfl dL_readLog_14
set_option maxHeartbeats 4000000 in
set_option maxRecDepth 100000 in
theorem tL_readLog_ok {l : Launch} {D : va_G} {cI cZ cJ : ClassId} {h0 a0 a1 a2 a3 a4 a5 : Nat} (hl0 : l.stackTraces = false) (bf pw hs lo lg rt : Nat → Int32) (nb : Int32) (fi fo en : Nat) (cu ma : Int32) (pl k : Nat) (hk : 1 ≤ k) (hk2 : k ≤ 64) (h1 : fi ≤ pl) (h2 : pl + k ≤ en) (he : en ≤ 60000) (oj : Nat) (og : Nat → Int64) : RH l yL_readLog wsL_readLog 9 1 6 D (tyL cI cZ cJ) (wC h0 a0 a1 a2 a3 a4 a5 cI cZ bf pw hs lo lg rt nb (nI fi) (nI fo) (nI en) 1 cu ma) [.ref h0, .int (nI pl), .int (nI k)] 0 (wC h0 a0 a1 a2 a3 a4 a5 cI cZ (fl (fun j => lg ((pl + j) % 65536)) k bf) pw hs lo lg rt nb (nI fi) (nI fo) (nI en) 1 cu ma) := by
  refine st_H (cc := cL_readLog) (maxL := 4) (ret := (some .int)) (hh := [(0, 6, 9, 13), (0, 6, 12, 37)]) (by decide +kernel) rfl (Nat.le_of_ble_eq_true rfl) ?_
  intro p e s m below meth c A hx hb hr hts hown hml hlocks hK hP hD hA hS ls hl hT htab
  have hown : s.vm.findClass RL = some m.cls := hown
  have hl : lv_has ls 4 [(0, .ref h0), (1, .int (nI pl)), (2, .int (nI k))] := hl
  refine lv_aload_n hx hb dL_readLog_0 rfl (lv_at hl 0 rfl) ?_
  refine lv_iload_n hx hb dL_readLog_1 rfl (lv_at hl 1 rfl) ?_
  refine lv_iload_n hx hb dL_readLog_2 rfl (lv_at hl 2 rfl) ?_
  refine k_V (wr := []) hP hD hS hA (va_runV (As := [.int (nI pl), .int (nI k)]) (rest := []) ⟨hx, hb, hml, hown, hts⟩ ((tX0_readLog_ok bf pw hs lo lg rt nb fi fo en cu ma pl k hk hk2 h1 h2 he) _) (cwV 2 hts gL_readLog_X0_readLog rfl rfl rfl (by decide +kernel) ⟨Nat.le_of_ble_eq_true rfl, Nat.le_of_ble_eq_true rfl⟩) (pV_B hP hD hK (ci := 0) (q0 := 0) rfl rfl rfl [0, 1] rfl [0, 1, 2, 3, 4, 5, 6] rfl rfl) rfl rfl hl.1 rfl (lv_room (Nat.le_of_ble_eq_true rfl)) dL_readLog_3 ⟨Nat.le_of_ble_eq_true rfl, Nat.le_of_ble_eq_true rfl⟩) [0, 1, 2, 3, 4, 5, 6] [] rfl rfl rfl (by decide) (fun H locs hP hD hS => ?_)
  have hP : va_P D vwCl (wC h0 a0 a1 a2 a3 a4 a5 cI cZ (fl (fun j => lg ((pl + j) % 65536)) k bf) pw hs lo lg rt nb (nI fi) (nI fo) (nI en) 1 cu ma) H := hP
  have hD : va_D A (wC h0 a0 a1 a2 a3 a4 a5 cI cZ (fl (fun j => lg ((pl + j) % 65536)) k bf) pw hs lo lg rt nb (nI fi) (nI fo) (nI en) 1 cu ma) := hD
  refine lv_goto (tgt := 15) hx hb dL_readLog_6 (by decide) ?_
  refine lv_iconst (v := (0)) hx hb dL_readLog_15 (by decide) ?_
  refine W.widen (k := 1) (n := 6) (Nat.le_of_ble_eq_true rfl) (Nat.le_of_ble_eq_true rfl) ?_
  exact e_I hx hb hr hlocks hP hD hS rfl dL_readLog_16
set_option maxHeartbeats 4000000 in
set_option maxRecDepth 100000 in
theorem tL_giveBack_xb {l : Launch} {D : va_G} {cI cZ cJ : ClassId} {h0 a0 a1 a2 a3 a4 a5 : Nat} (hl0 : l.stackTraces = false) (bf pw hs lo lg rt : Nat → Int32) (nb : Int32) (fi fo en : Nat) (cu ma : Int32) (x : Int32) (h : x < nI fi ∨ nI fo < x) (oj : Nat) (og : Nat → Int64) : RH l yL_giveBack wsL_giveBack 9 1 6 D (tyL cI cZ cJ) (wC h0 a0 a1 a2 a3 a4 a5 cI cZ bf pw hs lo lg rt nb (nI fi) (nI fo) (nI en) 1 cu ma) [.ref h0, .int x] 2 (wC h0 a0 a1 a2 a3 a4 a5 cI cZ bf pw hs lo lg rt nb (nI fi) (nI fo) (nI en) 1 cu ma) := by
  refine st_H (cc := cL_giveBack) (maxL := 3) (ret := (some .int)) (hh := [(0, 5, 8, 13), (0, 5, 11, 37)]) (by decide +kernel) rfl (Nat.le_of_ble_eq_true rfl) ?_
  intro p e s m below meth c A hx hb hr hts hown hml hlocks hK hP hD hA hS ls hl hT htab
  have hown : s.vm.findClass RL = some m.cls := hown
  have hl : lv_has ls 3 [(0, .ref h0), (1, .int x)] := hl
  refine lv_aload_n hx hb dL_giveBack_0 rfl (lv_at hl 0 rfl) ?_
  refine lv_iload_n hx hb dL_giveBack_1 rfl (lv_at hl 1 rfl) ?_
  refine k_X (wr := []) hP hD hS hA (vx_runV (As := [.int x]) (rest := []) ⟨hx, hb, hml, hown, hts⟩ ((tX0_giveBack_xb hl0 bf pw hs lo lg rt nb fi fo en cu ma x h) _) (cwV 1 hts gL_giveBack_X0_giveBack rfl rfl rfl (by decide +kernel) ⟨Nat.le_of_ble_eq_true rfl, Nat.le_of_ble_eq_true rfl⟩) (pV_X hP hD hK hS hA hT (ci := 0) (q0 := 0) rfl rfl rfl [0, 1] rfl [0, 1, 2, 3, 4, 5, 6] rfl rfl) rfl rfl hl.1 rfl (lv_room (Nat.le_of_ble_eq_true rfl)) dL_giveBack_2 ⟨Nat.le_of_ble_eq_true rfl, Nat.le_of_ble_eq_true rfl⟩) [0, 1, 2, 3, 4, 5, 6] [] rfl rfl rfl (by decide) (fun ce q9 H locs hP hD hS hce hcv hcl => ?_)
  refine vx_catch hown [⟨0, 5, 8, 13⟩] ⟨0, 5, 11, 37⟩ [] htab (fun z hz => by obtain rfl := List.mem_singleton.mp hz; exact Or.inr ⟨by decide, xISE, hts _ clL_giveBack_13, hT.2.2.2.2.1 (xIAE, xISE) (List.mem_of_getElem? (i := 1) rfl)⟩) rfl (by decide) (hts _ clL_giveBack_37) (va_Nw.use rfl (hT.2.2.1 (xIAE, xIAE) (List.mem_of_getElem? (i := 2) rfl))) hce hcv hcl ?_
  refine lv_astore_n (lv' := [(2, .ref q9), (0, .ref h0), (1, .int x)]) hx hb dL_giveBack_11 rfl hl (by decide) rfl (fun ls hl => ?_)
  refine lv_iconst (v := (2)) hx hb dL_giveBack_12 (by decide) ?_
  exact e_I hx hb hr hlocks hP hD hS rfl dL_giveBack_13
set_option maxHeartbeats 4000000 in
set_option maxRecDepth 100000 in
theorem tL_giveBack_ok {l : Launch} {D : va_G} {cI cZ cJ : ClassId} {h0 a0 a1 a2 a3 a4 a5 : Nat} (hl0 : l.stackTraces = false) (bf pw hs lo lg rt : Nat → Int32) (nb : Int32) (fi fo en : Nat) (cu ma : Int32) (pl : Nat) (h1 : fi ≤ pl) (h2 : pl ≤ fo) (h3 : fo ≤ 60000) (oj : Nat) (og : Nat → Int64) : RH l yL_giveBack wsL_giveBack 9 1 6 D (tyL cI cZ cJ) (wC h0 a0 a1 a2 a3 a4 a5 cI cZ bf pw hs lo lg rt nb (nI fi) (nI fo) (nI en) 1 cu ma) [.ref h0, .int (nI pl)] 0 (wC h0 a0 a1 a2 a3 a4 a5 cI cZ bf pw hs lo lg rt nb (nI pl) (nI fo) (nI en) 1 cu ma) := by
  refine st_H (cc := cL_giveBack) (maxL := 3) (ret := (some .int)) (hh := [(0, 5, 8, 13), (0, 5, 11, 37)]) (by decide +kernel) rfl (Nat.le_of_ble_eq_true rfl) ?_
  intro p e s m below meth c A hx hb hr hts hown hml hlocks hK hP hD hA hS ls hl hT htab
  have hown : s.vm.findClass RL = some m.cls := hown
  have hl : lv_has ls 3 [(0, .ref h0), (1, .int (nI pl))] := hl
  refine lv_aload_n hx hb dL_giveBack_0 rfl (lv_at hl 0 rfl) ?_
  refine lv_iload_n hx hb dL_giveBack_1 rfl (lv_at hl 1 rfl) ?_
  refine k_V (wr := []) hP hD hS hA (va_runV (As := [.int (nI pl)]) (rest := []) ⟨hx, hb, hml, hown, hts⟩ ((tX0_giveBack_ok bf pw hs lo lg rt nb fi fo en cu ma pl h1 h2 h3) _) (cwV 1 hts gL_giveBack_X0_giveBack rfl rfl rfl (by decide +kernel) ⟨Nat.le_of_ble_eq_true rfl, Nat.le_of_ble_eq_true rfl⟩) (pV_B hP hD hK (ci := 0) (q0 := 0) rfl rfl rfl [0, 1] rfl [0, 1, 2, 3, 4, 5, 6] rfl rfl) rfl rfl hl.1 rfl (lv_room (Nat.le_of_ble_eq_true rfl)) dL_giveBack_2 ⟨Nat.le_of_ble_eq_true rfl, Nat.le_of_ble_eq_true rfl⟩) [0, 1, 2, 3, 4, 5, 6] [] rfl rfl rfl (by decide) (fun H locs hP hD hS => ?_)
  have hP : va_P D vwCl (wC h0 a0 a1 a2 a3 a4 a5 cI cZ bf pw hs lo lg rt nb (nI pl) (nI fo) (nI en) 1 cu ma) H := hP
  have hD : va_D A (wC h0 a0 a1 a2 a3 a4 a5 cI cZ bf pw hs lo lg rt nb (nI pl) (nI fo) (nI en) 1 cu ma) := hD
  refine lv_goto (tgt := 14) hx hb dL_giveBack_5 (by decide) ?_
  refine lv_iconst (v := (0)) hx hb dL_giveBack_14 (by decide) ?_
  refine W.widen (k := 1) (n := 6) (Nat.le_of_ble_eq_true rfl) (Nat.le_of_ble_eq_true rfl) ?_
  exact e_I hx hb hr hlocks hP hD hS rfl dL_giveBack_15
set_option maxHeartbeats 4000000 in
set_option maxRecDepth 100000 in
theorem tL_log_ok0 {l : Launch} {D : va_G} {cI cZ cJ : ClassId} {h0 a0 a1 a2 a3 a4 a5 : Nat} (hl0 : l.stackTraces = false) (bf pw hs lo lg rt : Nat → Int32) (nb : Int32) (fi fo en : Nat) (on cu ma : Int32) (oj : Nat) (og : Nat → Int64) : RH l yL_log wsL_log 9 1 6 D (tyL cI cZ cJ) (wC h0 a0 a1 a2 a3 a4 a5 cI cZ bf pw hs lo lg rt nb (nI fi) (nI fo) (nI en) on cu ma ++ wO oj cJ og) [.ref h0, .int (nI 0), .ref oj] 0 (wC h0 a0 a1 a2 a3 a4 a5 cI cZ bf pw hs lo lg rt nb (nI fi) (nI fo) (nI en) on cu ma ++ wO oj cJ (vp_updL og 0 (Int32.toInt64 (nI fi)))) := by
  refine st_H (cc := cL_log) (maxL := 4) (ret := (some .int)) (hh := [(0, 9, 12, 15)]) (by decide +kernel) rfl (Nat.le_of_ble_eq_true rfl) ?_
  intro p e s m below meth c A hx hb hr hts hown hml hlocks hK hP hD hA hS ls hl hT htab
  have hown : s.vm.findClass RL = some m.cls := hown
  have hl : lv_has ls 4 [(0, .ref h0), (1, .int (nI 0)), (2, .ref oj)] := hl
  refine lv_aload_n hx hb dL_log_0 rfl (lv_at hl 2 rfl) ?_
  refine lv_iconst (v := (nI 0)) hx hb dL_log_1 (by decide) ?_
  refine lv_aload_n hx hb dL_log_2 rfl (lv_at hl 0 rfl) ?_
  refine lv_iload_n hx hb dL_log_3 rfl (lv_at hl 1 rfl) ?_
  refine k_I (wr := wO oj cJ og) hP hD hS hA (va_runV (As := [.int (nI 0)]) (rest := [.int (nI 0), .ref oj]) ⟨hx, hb, hml, hown, hts⟩ ((tX0_log_ok0 bf pw hs lo lg rt nb fi fo en on cu ma) _) (cwV 1 hts gL_log_X0_log rfl rfl rfl (by decide +kernel) ⟨Nat.le_of_ble_eq_true rfl, Nat.le_of_ble_eq_true rfl⟩) (pV_B hP hD hK (ci := 0) (q0 := 0) rfl rfl rfl [0, 1] rfl [0, 1, 2, 3, 4, 5, 6] rfl rfl) rfl rfl hl.1 rfl (lv_room (Nat.le_of_ble_eq_true rfl)) dL_log_4 ⟨Nat.le_of_ble_eq_true rfl, Nat.le_of_ble_eq_true rfl⟩) [0, 1, 2, 3, 4, 5, 6] [7] rfl rfl rfl (by decide) (fun H locs hP hD hS => ?_)
  have hP : va_P D vwCl (wC h0 a0 a1 a2 a3 a4 a5 cI cZ bf pw hs lo lg rt nb (nI fi) (nI fo) (nI en) on cu ma ++ wO oj cJ og) H := hP.sub [1, 2, 3, 4, 5, 6, 7, 0] rfl
  have hD : va_D A (wC h0 a0 a1 a2 a3 a4 a5 cI cZ bf pw hs lo lg rt nb (nI fi) (nI fo) (nI en) on cu ma ++ wO oj cJ og) := hD.sub [1, 2, 3, 4, 5, 6, 7, 0] (by decide) rfl
  refine lv_i2l (v := Int32.toInt64 (nI fi)) hx hb dL_log_7 rfl ?_
  refine n_last hx hb hK hP hD hS 7 2 rfl rfl 0 (by omega) (by omega) dL_log_8 (fun H locs hP hD hS => ?_)
  have hP : va_P D vwCl (wC h0 a0 a1 a2 a3 a4 a5 cI cZ bf pw hs lo lg rt nb (nI fi) (nI fo) (nI en) on cu ma ++ wO oj cJ (vp_updL og 0 (Int32.toInt64 (nI fi)))) H := hP
  have hD : va_D A (wC h0 a0 a1 a2 a3 a4 a5 cI cZ bf pw hs lo lg rt nb (nI fi) (nI fo) (nI en) on cu ma ++ wO oj cJ (vp_updL og 0 (Int32.toInt64 (nI fi)))) := hD
  refine lv_goto (tgt := 15) hx hb dL_log_9 (by decide) ?_
  refine lv_iconst (v := (0)) hx hb dL_log_15 (by decide) ?_
  refine W.widen (k := 1) (n := 6) (Nat.le_of_ble_eq_true rfl) (Nat.le_of_ble_eq_true rfl) ?_
  exact e_I hx hb hr hlocks hP hD hS rfl dL_log_16
set_option maxHeartbeats 4000000 in
set_option maxRecDepth 100000 in
theorem tL_log_ok1 {l : Launch} {D : va_G} {cI cZ cJ : ClassId} {h0 a0 a1 a2 a3 a4 a5 : Nat} (hl0 : l.stackTraces = false) (bf pw hs lo lg rt : Nat → Int32) (nb : Int32) (fi fo en : Nat) (on cu ma : Int32) (oj : Nat) (og : Nat → Int64) : RH l yL_log wsL_log 9 1 6 D (tyL cI cZ cJ) (wC h0 a0 a1 a2 a3 a4 a5 cI cZ bf pw hs lo lg rt nb (nI fi) (nI fo) (nI en) on cu ma ++ wO oj cJ og) [.ref h0, .int (nI 1), .ref oj] 0 (wC h0 a0 a1 a2 a3 a4 a5 cI cZ bf pw hs lo lg rt nb (nI fi) (nI fo) (nI en) on cu ma ++ wO oj cJ (vp_updL og 0 (Int32.toInt64 (nI fo)))) := by
  refine st_H (cc := cL_log) (maxL := 4) (ret := (some .int)) (hh := [(0, 9, 12, 15)]) (by decide +kernel) rfl (Nat.le_of_ble_eq_true rfl) ?_
  intro p e s m below meth c A hx hb hr hts hown hml hlocks hK hP hD hA hS ls hl hT htab
  have hown : s.vm.findClass RL = some m.cls := hown
  have hl : lv_has ls 4 [(0, .ref h0), (1, .int (nI 1)), (2, .ref oj)] := hl
  refine lv_aload_n hx hb dL_log_0 rfl (lv_at hl 2 rfl) ?_
  refine lv_iconst (v := (nI 0)) hx hb dL_log_1 (by decide) ?_
  refine lv_aload_n hx hb dL_log_2 rfl (lv_at hl 0 rfl) ?_
  refine lv_iload_n hx hb dL_log_3 rfl (lv_at hl 1 rfl) ?_
  refine k_I (wr := wO oj cJ og) hP hD hS hA (va_runV (As := [.int (nI 1)]) (rest := [.int (nI 0), .ref oj]) ⟨hx, hb, hml, hown, hts⟩ ((tX0_log_ok1 bf pw hs lo lg rt nb fi fo en on cu ma) _) (cwV 1 hts gL_log_X0_log rfl rfl rfl (by decide +kernel) ⟨Nat.le_of_ble_eq_true rfl, Nat.le_of_ble_eq_true rfl⟩) (pV_B hP hD hK (ci := 0) (q0 := 0) rfl rfl rfl [0, 1] rfl [0, 1, 2, 3, 4, 5, 6] rfl rfl) rfl rfl hl.1 rfl (lv_room (Nat.le_of_ble_eq_true rfl)) dL_log_4 ⟨Nat.le_of_ble_eq_true rfl, Nat.le_of_ble_eq_true rfl⟩) [0, 1, 2, 3, 4, 5, 6] [7] rfl rfl rfl (by decide) (fun H locs hP hD hS => ?_)
  have hP : va_P D vwCl (wC h0 a0 a1 a2 a3 a4 a5 cI cZ bf pw hs lo lg rt nb (nI fi) (nI fo) (nI en) on cu ma ++ wO oj cJ og) H := hP.sub [1, 2, 3, 4, 5, 6, 7, 0] rfl
  have hD : va_D A (wC h0 a0 a1 a2 a3 a4 a5 cI cZ bf pw hs lo lg rt nb (nI fi) (nI fo) (nI en) on cu ma ++ wO oj cJ og) := hD.sub [1, 2, 3, 4, 5, 6, 7, 0] (by decide) rfl
  refine lv_i2l (v := Int32.toInt64 (nI fo)) hx hb dL_log_7 rfl ?_
  refine n_last hx hb hK hP hD hS 7 2 rfl rfl 0 (by omega) (by omega) dL_log_8 (fun H locs hP hD hS => ?_)
  have hP : va_P D vwCl (wC h0 a0 a1 a2 a3 a4 a5 cI cZ bf pw hs lo lg rt nb (nI fi) (nI fo) (nI en) on cu ma ++ wO oj cJ (vp_updL og 0 (Int32.toInt64 (nI fo)))) H := hP
  have hD : va_D A (wC h0 a0 a1 a2 a3 a4 a5 cI cZ bf pw hs lo lg rt nb (nI fi) (nI fo) (nI en) on cu ma ++ wO oj cJ (vp_updL og 0 (Int32.toInt64 (nI fo)))) := hD
  refine lv_goto (tgt := 15) hx hb dL_log_9 (by decide) ?_
  refine lv_iconst (v := (0)) hx hb dL_log_15 (by decide) ?_
  refine W.widen (k := 1) (n := 6) (Nat.le_of_ble_eq_true rfl) (Nat.le_of_ble_eq_true rfl) ?_
  exact e_I hx hb hr hlocks hP hD hS rfl dL_log_16
set_option maxHeartbeats 4000000 in
set_option maxRecDepth 100000 in
theorem tL_log_ok2 {l : Launch} {D : va_G} {cI cZ cJ : ClassId} {h0 a0 a1 a2 a3 a4 a5 : Nat} (hl0 : l.stackTraces = false) (bf pw hs lo lg rt : Nat → Int32) (nb : Int32) (fi fo en : Nat) (on cu ma : Int32) (oj : Nat) (og : Nat → Int64) : RH l yL_log wsL_log 9 1 6 D (tyL cI cZ cJ) (wC h0 a0 a1 a2 a3 a4 a5 cI cZ bf pw hs lo lg rt nb (nI fi) (nI fo) (nI en) on cu ma ++ wO oj cJ og) [.ref h0, .int (nI 2), .ref oj] 0 (wC h0 a0 a1 a2 a3 a4 a5 cI cZ bf pw hs lo lg rt nb (nI fi) (nI fo) (nI en) on cu ma ++ wO oj cJ (vp_updL og 0 (Int32.toInt64 (nI en)))) := by
  refine st_H (cc := cL_log) (maxL := 4) (ret := (some .int)) (hh := [(0, 9, 12, 15)]) (by decide +kernel) rfl (Nat.le_of_ble_eq_true rfl) ?_
  intro p e s m below meth c A hx hb hr hts hown hml hlocks hK hP hD hA hS ls hl hT htab
  have hown : s.vm.findClass RL = some m.cls := hown
  have hl : lv_has ls 4 [(0, .ref h0), (1, .int (nI 2)), (2, .ref oj)] := hl
  refine lv_aload_n hx hb dL_log_0 rfl (lv_at hl 2 rfl) ?_
  refine lv_iconst (v := (nI 0)) hx hb dL_log_1 (by decide) ?_
  refine lv_aload_n hx hb dL_log_2 rfl (lv_at hl 0 rfl) ?_
  refine lv_iload_n hx hb dL_log_3 rfl (lv_at hl 1 rfl) ?_
  refine k_I (wr := wO oj cJ og) hP hD hS hA (va_runV (As := [.int (nI 2)]) (rest := [.int (nI 0), .ref oj]) ⟨hx, hb, hml, hown, hts⟩ ((tX0_log_ok2 bf pw hs lo lg rt nb fi fo en on cu ma) _) (cwV 1 hts gL_log_X0_log rfl rfl rfl (by decide +kernel) ⟨Nat.le_of_ble_eq_true rfl, Nat.le_of_ble_eq_true rfl⟩) (pV_B hP hD hK (ci := 0) (q0 := 0) rfl rfl rfl [0, 1] rfl [0, 1, 2, 3, 4, 5, 6] rfl rfl) rfl rfl hl.1 rfl (lv_room (Nat.le_of_ble_eq_true rfl)) dL_log_4 ⟨Nat.le_of_ble_eq_true rfl, Nat.le_of_ble_eq_true rfl⟩) [0, 1, 2, 3, 4, 5, 6] [7] rfl rfl rfl (by decide) (fun H locs hP hD hS => ?_)
  have hP : va_P D vwCl (wC h0 a0 a1 a2 a3 a4 a5 cI cZ bf pw hs lo lg rt nb (nI fi) (nI fo) (nI en) on cu ma ++ wO oj cJ og) H := hP.sub [1, 2, 3, 4, 5, 6, 7, 0] rfl
  have hD : va_D A (wC h0 a0 a1 a2 a3 a4 a5 cI cZ bf pw hs lo lg rt nb (nI fi) (nI fo) (nI en) on cu ma ++ wO oj cJ og) := hD.sub [1, 2, 3, 4, 5, 6, 7, 0] (by decide) rfl
  refine lv_i2l (v := Int32.toInt64 (nI en)) hx hb dL_log_7 rfl ?_
  refine n_last hx hb hK hP hD hS 7 2 rfl rfl 0 (by omega) (by omega) dL_log_8 (fun H locs hP hD hS => ?_)
  have hP : va_P D vwCl (wC h0 a0 a1 a2 a3 a4 a5 cI cZ bf pw hs lo lg rt nb (nI fi) (nI fo) (nI en) on cu ma ++ wO oj cJ (vp_updL og 0 (Int32.toInt64 (nI en)))) H := hP
  have hD : va_D A (wC h0 a0 a1 a2 a3 a4 a5 cI cZ bf pw hs lo lg rt nb (nI fi) (nI fo) (nI en) on cu ma ++ wO oj cJ (vp_updL og 0 (Int32.toInt64 (nI en)))) := hD
  refine lv_goto (tgt := 15) hx hb dL_log_9 (by decide) ?_
  refine lv_iconst (v := (0)) hx hb dL_log_15 (by decide) ?_
  refine W.widen (k := 1) (n := 6) (Nat.le_of_ble_eq_true rfl) (Nat.le_of_ble_eq_true rfl) ?_
  exact e_I hx hb hr hlocks hP hD hS rfl dL_log_16
set_option maxHeartbeats 4000000 in
set_option maxRecDepth 100000 in
theorem tL_log_xb {l : Launch} {D : va_G} {cI cZ cJ : ClassId} {h0 a0 a1 a2 a3 a4 a5 : Nat} (hl0 : l.stackTraces = false) (bf pw hs lo lg rt : Nat → Int32) (nb : Int32) (fi fo en : Nat) (on cu ma : Int32) (x : Int32) (h : x < 0 ∨ nI 3 ≤ x) (oj : Nat) (og : Nat → Int64) : RH l yL_log wsL_log 9 1 6 D (tyL cI cZ cJ) (wC h0 a0 a1 a2 a3 a4 a5 cI cZ bf pw hs lo lg rt nb (nI fi) (nI fo) (nI en) on cu ma ++ wO oj cJ og) [.ref h0, .int x, .ref oj] 1 (wC h0 a0 a1 a2 a3 a4 a5 cI cZ bf pw hs lo lg rt nb (nI fi) (nI fo) (nI en) on cu ma ++ wO oj cJ og) := by
  refine st_H (cc := cL_log) (maxL := 4) (ret := (some .int)) (hh := [(0, 9, 12, 15)]) (by decide +kernel) rfl (Nat.le_of_ble_eq_true rfl) ?_
  intro p e s m below meth c A hx hb hr hts hown hml hlocks hK hP hD hA hS ls hl hT htab
  have hown : s.vm.findClass RL = some m.cls := hown
  have hl : lv_has ls 4 [(0, .ref h0), (1, .int x), (2, .ref oj)] := hl
  refine lv_aload_n hx hb dL_log_0 rfl (lv_at hl 2 rfl) ?_
  refine lv_iconst (v := (nI 0)) hx hb dL_log_1 (by decide) ?_
  refine lv_aload_n hx hb dL_log_2 rfl (lv_at hl 0 rfl) ?_
  refine lv_iload_n hx hb dL_log_3 rfl (lv_at hl 1 rfl) ?_
  refine k_X (wr := wO oj cJ og) hP hD hS hA (vx_runV (As := [.int x]) (rest := [.int (nI 0), .ref oj]) ⟨hx, hb, hml, hown, hts⟩ ((tX0_log_xb hl0 bf pw hs lo lg rt nb fi fo en on cu ma x h) _) (cwV 1 hts gL_log_X0_log rfl rfl rfl (by decide +kernel) ⟨Nat.le_of_ble_eq_true rfl, Nat.le_of_ble_eq_true rfl⟩) (pV_X hP hD hK hS hA hT (ci := 0) (q0 := 0) rfl rfl rfl [0, 1] rfl [0, 1, 2, 3, 4, 5, 6] rfl rfl) rfl rfl hl.1 rfl (lv_room (Nat.le_of_ble_eq_true rfl)) dL_log_4 ⟨Nat.le_of_ble_eq_true rfl, Nat.le_of_ble_eq_true rfl⟩) [0, 1, 2, 3, 4, 5, 6] [7] rfl rfl rfl (by decide) (fun ce q9 H locs hP hD hS hce hcv hcl => ?_)
  have hP : va_P D vwCl (wC h0 a0 a1 a2 a3 a4 a5 cI cZ bf pw hs lo lg rt nb (nI fi) (nI fo) (nI en) on cu ma ++ wO oj cJ og) H := hP.sub [1, 2, 3, 4, 5, 6, 7, 0] rfl
  have hD : va_D A (wC h0 a0 a1 a2 a3 a4 a5 cI cZ bf pw hs lo lg rt nb (nI fi) (nI fo) (nI en) on cu ma ++ wO oj cJ og) := hD.sub [1, 2, 3, 4, 5, 6, 7, 0] (by decide) rfl
  refine vx_catch hown [] ⟨0, 9, 12, 15⟩ [] htab (fun z hz => nomatch hz) rfl (by decide) (hts _ clL_log_15) (va_Nw.use rfl (hT.2.2.1 (xIOB, xIOB) (List.mem_of_getElem? (i := 1) rfl))) hce hcv hcl ?_
  refine lv_astore_n (lv' := [(3, .ref q9), (0, .ref h0), (1, .int x), (2, .ref oj)]) hx hb dL_log_12 rfl hl (by decide) rfl (fun ls hl => ?_)
  refine lv_iconst (v := (1)) hx hb dL_log_13 (by decide) ?_
  exact e_I hx hb hr hlocks hP hD hS rfl dL_log_14
set_option maxHeartbeats 4000000 in
set_option maxRecDepth 100000 in
theorem tL_setRoot_xb {l : Launch} {D : va_G} {cI cZ cJ : ClassId} {h0 a0 a1 a2 a3 a4 a5 : Nat} (hl0 : l.stackTraces = false) (bf pw hs lo lg rt : Nat → Int32) (nb : Int32) (fi fo en : Nat) (cu ma : Int32) (x y : Int32) (h : x < 0 ∨ nI 4 ≤ x) (oj : Nat) (og : Nat → Int64) : RH l yL_setRoot wsL_setRoot 9 1 6 D (tyL cI cZ cJ) (wC h0 a0 a1 a2 a3 a4 a5 cI cZ bf pw hs lo lg rt nb (nI fi) (nI fo) (nI en) 1 cu ma ++ wO oj cJ og) [.ref h0, .int x, .int y, .ref oj] 2 (wC h0 a0 a1 a2 a3 a4 a5 cI cZ bf pw hs lo lg rt nb (nI fi) (nI fo) (nI en) 1 cu ma ++ wO oj cJ og) := by
  refine st_H (cc := cL_setRoot) (maxL := 5) (ret := (some .int)) (hh := [(0, 17, 20, 13), (0, 17, 24, 15)]) (by decide +kernel) rfl (Nat.le_of_ble_eq_true rfl) ?_
  intro p e s m below meth c A hx hb hr hts hown hml hlocks hK hP hD hA hS ls hl hT htab
  have hown : s.vm.findClass RL = some m.cls := hown
  have hl : lv_has ls 5 [(0, .ref h0), (1, .int x), (2, .int y), (3, .ref oj)] := hl
  refine lv_aload_n hx hb dL_setRoot_0 rfl (lv_at hl 3 rfl) ?_
  refine lv_iconst (v := (nI 0)) hx hb dL_setRoot_1 (by decide) ?_
  refine lv_aload_n hx hb dL_setRoot_2 rfl (lv_at hl 0 rfl) ?_
  refine lv_iload_n hx hb dL_setRoot_3 rfl (lv_at hl 1 rfl) ?_
  refine lv_iload_n hx hb dL_setRoot_4 rfl (lv_at hl 2 rfl) ?_
  refine k_X (wr := wO oj cJ og) hP hD hS hA (vx_runV (As := [.int x, .int y]) (rest := [.int (nI 0), .ref oj]) ⟨hx, hb, hml, hown, hts⟩ ((tX0_setRoot_xb hl0 bf pw hs lo lg rt nb fi fo en cu ma x y h) _) (cwV 2 hts gL_setRoot_X0_setRoot rfl rfl rfl (by decide +kernel) ⟨Nat.le_of_ble_eq_true rfl, Nat.le_of_ble_eq_true rfl⟩) (pV_X hP hD hK hS hA hT (ci := 0) (q0 := 0) rfl rfl rfl [0, 1] rfl [0, 1, 2, 3, 4, 5, 6] rfl rfl) rfl rfl hl.1 rfl (lv_room (Nat.le_of_ble_eq_true rfl)) dL_setRoot_5 ⟨Nat.le_of_ble_eq_true rfl, Nat.le_of_ble_eq_true rfl⟩) [0, 1, 2, 3, 4, 5, 6] [7] rfl rfl rfl (by decide) (fun ce q9 H locs hP hD hS hce hcv hcl => ?_)
  have hP : va_P D vwCl (wC h0 a0 a1 a2 a3 a4 a5 cI cZ bf pw hs lo lg rt nb (nI fi) (nI fo) (nI en) 1 cu ma ++ wO oj cJ og) H := hP.sub [1, 2, 3, 4, 5, 6, 7, 0] rfl
  have hD : va_D A (wC h0 a0 a1 a2 a3 a4 a5 cI cZ bf pw hs lo lg rt nb (nI fi) (nI fo) (nI en) 1 cu ma ++ wO oj cJ og) := hD.sub [1, 2, 3, 4, 5, 6, 7, 0] (by decide) rfl
  refine vx_catch hown [⟨0, 17, 20, 13⟩] ⟨0, 17, 24, 15⟩ [] htab (fun z hz => by obtain rfl := List.mem_singleton.mp hz; exact Or.inr ⟨by decide, xISE, hts _ clL_setRoot_13, hT.2.2.2.2.1 (xIOB, xISE) (List.mem_of_getElem? (i := 0) rfl)⟩) rfl (by decide) (hts _ clL_setRoot_15) (va_Nw.use rfl (hT.2.2.1 (xIOB, xIOB) (List.mem_of_getElem? (i := 1) rfl))) hce hcv hcl ?_
  refine lv_astore (lv' := [(4, .ref q9), (0, .ref h0), (1, .int x), (2, .int y), (3, .ref oj)]) hx hb dL_setRoot_24 hl (by decide) rfl (fun ls hl => ?_)
  refine lv_iconst (v := (2)) hx hb dL_setRoot_26 (by decide) ?_
  exact e_I hx hb hr hlocks hP hD hS rfl dL_setRoot_27
set_option maxHeartbeats 4000000 in
set_option maxRecDepth 100000 in
theorem tL_setRoot_cut {l : Launch} {D : va_G} {cI cZ cJ : ClassId} {h0 a0 a1 a2 a3 a4 a5 : Nat} (hl0 : l.stackTraces = false) (bf pw hs lo lg rt : Nat → Int32) (nb : Int32) (fi fo en : Nat) (cu ma : Int32) (k : Nat) (hk : k < 4) (y : Int32) (h : cu = 0) (oj : Nat) (og : Nat → Int64) : RH l yL_setRoot wsL_setRoot 9 1 6 D (tyL cI cZ cJ) (wC h0 a0 a1 a2 a3 a4 a5 cI cZ bf pw hs lo lg rt nb (nI fi) (nI fo) (nI en) 1 cu ma ++ wO oj cJ og) [.ref h0, .int (nI k), .int y, .ref oj] 0 (wC h0 a0 a1 a2 a3 a4 a5 cI cZ (zf bf) pw hs lo lg rt nb (nI fi) (nI fo) (nI fo) 0 cu ma ++ wO oj cJ (vp_updL og 0 0)) := by
  refine st_H (cc := cL_setRoot) (maxL := 5) (ret := (some .int)) (hh := [(0, 17, 20, 13), (0, 17, 24, 15)]) (by decide +kernel) rfl (Nat.le_of_ble_eq_true rfl) ?_
  intro p e s m below meth c A hx hb hr hts hown hml hlocks hK hP hD hA hS ls hl hT htab
  have hown : s.vm.findClass RL = some m.cls := hown
  have hl : lv_has ls 5 [(0, .ref h0), (1, .int (nI k)), (2, .int y), (3, .ref oj)] := hl
  refine lv_aload_n hx hb dL_setRoot_0 rfl (lv_at hl 3 rfl) ?_
  refine lv_iconst (v := (nI 0)) hx hb dL_setRoot_1 (by decide) ?_
  refine lv_aload_n hx hb dL_setRoot_2 rfl (lv_at hl 0 rfl) ?_
  refine lv_iload_n hx hb dL_setRoot_3 rfl (lv_at hl 1 rfl) ?_
  refine lv_iload_n hx hb dL_setRoot_4 rfl (lv_at hl 2 rfl) ?_
  refine k_I (wr := wO oj cJ og) hP hD hS hA (va_runV (As := [.int (nI k), .int y]) (rest := [.int (nI 0), .ref oj]) ⟨hx, hb, hml, hown, hts⟩ ((tX0_setRoot_cut bf pw hs lo lg rt nb fi fo en cu ma k hk y h) _) (cwV 2 hts gL_setRoot_X0_setRoot rfl rfl rfl (by decide +kernel) ⟨Nat.le_of_ble_eq_true rfl, Nat.le_of_ble_eq_true rfl⟩) (pV_B hP hD hK (ci := 0) (q0 := 0) rfl rfl rfl [0, 1] rfl [0, 1, 2, 3, 4, 5, 6] rfl rfl) rfl rfl hl.1 rfl (lv_room (Nat.le_of_ble_eq_true rfl)) dL_setRoot_5 ⟨Nat.le_of_ble_eq_true rfl, Nat.le_of_ble_eq_true rfl⟩) [0, 1, 2, 3, 4, 5, 6] [7] rfl rfl rfl (by decide) (fun H locs hP hD hS => ?_)
  have hP : va_P D vwCl (wC h0 a0 a1 a2 a3 a4 a5 cI cZ (zf bf) pw hs lo lg rt nb (nI fi) (nI fo) (nI fo) 0 cu ma ++ wO oj cJ og) H := hP.sub [1, 2, 3, 4, 5, 6, 7, 0] rfl
  have hD : va_D A (wC h0 a0 a1 a2 a3 a4 a5 cI cZ (zf bf) pw hs lo lg rt nb (nI fi) (nI fo) (nI fo) 0 cu ma ++ wO oj cJ og) := hD.sub [1, 2, 3, 4, 5, 6, 7, 0] (by decide) rfl
  refine lv_if_eq (tgt := 15) hx hb dL_setRoot_8 (by decide) (fun c_8 => ?_) (fun c_8 => absurd rfl c_8)
  refine lv_lconst (v := 0) hx hb dL_setRoot_15 (by decide) ?_
  refine n_last hx hb hK hP hD hS 7 2 rfl rfl 0 (by omega) (by omega) dL_setRoot_16 (fun H locs hP hD hS => ?_)
  have hP : va_P D vwCl (wC h0 a0 a1 a2 a3 a4 a5 cI cZ (zf bf) pw hs lo lg rt nb (nI fi) (nI fo) (nI fo) 0 cu ma ++ wO oj cJ (vp_updL og 0 0)) H := hP
  have hD : va_D A (wC h0 a0 a1 a2 a3 a4 a5 cI cZ (zf bf) pw hs lo lg rt nb (nI fi) (nI fo) (nI fo) 0 cu ma ++ wO oj cJ (vp_updL og 0 0)) := hD
  refine lv_goto (tgt := 28) hx hb dL_setRoot_17 (by decide) ?_
  refine lv_iconst (v := (0)) hx hb dL_setRoot_28 (by decide) ?_
  refine W.widen (k := 1) (n := 6) (Nat.le_of_ble_eq_true rfl) (Nat.le_of_ble_eq_true rfl) ?_
  exact e_I hx hb hr hlocks hP hD hS rfl dL_setRoot_29
set_option maxHeartbeats 4000000 in
set_option maxRecDepth 100000 in
theorem tL_setRoot_ok {l : Launch} {D : va_G} {cI cZ cJ : ClassId} {h0 a0 a1 a2 a3 a4 a5 : Nat} (hl0 : l.stackTraces = false) (bf pw hs lo lg rt : Nat → Int32) (nb : Int32) (fi fo en : Nat) (cu ma : Int32) (k : Nat) (hk : k < 4) (y : Int32) (h : ¬ cu = 0) (oj : Nat) (og : Nat → Int64) : RH l yL_setRoot wsL_setRoot 9 1 6 D (tyL cI cZ cJ) (wC h0 a0 a1 a2 a3 a4 a5 cI cZ bf pw hs lo lg rt nb (nI fi) (nI fo) (nI en) 1 cu ma ++ wO oj cJ og) [.ref h0, .int (nI k), .int y, .ref oj] 0 (wC h0 a0 a1 a2 a3 a4 a5 cI cZ bf pw hs lo lg (upd rt k y) nb (nI fi) (nI fo) (nI en) 1 (dcu cu) (ma + 1) ++ wO oj cJ (vp_updL og 0 1)) := by
  refine st_H (cc := cL_setRoot) (maxL := 5) (ret := (some .int)) (hh := [(0, 17, 20, 13), (0, 17, 24, 15)]) (by decide +kernel) rfl (Nat.le_of_ble_eq_true rfl) ?_
  intro p e s m below meth c A hx hb hr hts hown hml hlocks hK hP hD hA hS ls hl hT htab
  have hown : s.vm.findClass RL = some m.cls := hown
  have hl : lv_has ls 5 [(0, .ref h0), (1, .int (nI k)), (2, .int y), (3, .ref oj)] := hl
  refine lv_aload_n hx hb dL_setRoot_0 rfl (lv_at hl 3 rfl) ?_
  refine lv_iconst (v := (nI 0)) hx hb dL_setRoot_1 (by decide) ?_
  refine lv_aload_n hx hb dL_setRoot_2 rfl (lv_at hl 0 rfl) ?_
  refine lv_iload_n hx hb dL_setRoot_3 rfl (lv_at hl 1 rfl) ?_
  refine lv_iload_n hx hb dL_setRoot_4 rfl (lv_at hl 2 rfl) ?_
  refine k_I (wr := wO oj cJ og) hP hD hS hA (va_runV (As := [.int (nI k), .int y]) (rest := [.int (nI 0), .ref oj]) ⟨hx, hb, hml, hown, hts⟩ ((tX0_setRoot_ok bf pw hs lo lg rt nb fi fo en cu ma k hk y h) _) (cwV 2 hts gL_setRoot_X0_setRoot rfl rfl rfl (by decide +kernel) ⟨Nat.le_of_ble_eq_true rfl, Nat.le_of_ble_eq_true rfl⟩) (pV_B hP hD hK (ci := 0) (q0 := 0) rfl rfl rfl [0, 1] rfl [0, 1, 2, 3, 4, 5, 6] rfl rfl) rfl rfl hl.1 rfl (lv_room (Nat.le_of_ble_eq_true rfl)) dL_setRoot_5 ⟨Nat.le_of_ble_eq_true rfl, Nat.le_of_ble_eq_true rfl⟩) [0, 1, 2, 3, 4, 5, 6] [7] rfl rfl rfl (by decide) (fun H locs hP hD hS => ?_)
  have hP : va_P D vwCl (wC h0 a0 a1 a2 a3 a4 a5 cI cZ bf pw hs lo lg (upd rt k y) nb (nI fi) (nI fo) (nI en) 1 (dcu cu) (ma + 1) ++ wO oj cJ og) H := hP.sub [1, 2, 3, 4, 5, 6, 7, 0] rfl
  have hD : va_D A (wC h0 a0 a1 a2 a3 a4 a5 cI cZ bf pw hs lo lg (upd rt k y) nb (nI fi) (nI fo) (nI en) 1 (dcu cu) (ma + 1) ++ wO oj cJ og) := hD.sub [1, 2, 3, 4, 5, 6, 7, 0] (by decide) rfl
  refine lv_if_eq (tgt := 15) hx hb dL_setRoot_8 (by decide) (fun c_8 => absurd c_8 (by decide)) (fun c_8 => ?_)
  refine lv_lconst (v := 1) hx hb dL_setRoot_11 (by decide) ?_
  refine lv_goto (tgt := 16) hx hb dL_setRoot_12 (by decide) ?_
  refine n_last hx hb hK hP hD hS 7 2 rfl rfl 0 (by omega) (by omega) dL_setRoot_16 (fun H locs hP hD hS => ?_)
  have hP : va_P D vwCl (wC h0 a0 a1 a2 a3 a4 a5 cI cZ bf pw hs lo lg (upd rt k y) nb (nI fi) (nI fo) (nI en) 1 (dcu cu) (ma + 1) ++ wO oj cJ (vp_updL og 0 1)) H := hP
  have hD : va_D A (wC h0 a0 a1 a2 a3 a4 a5 cI cZ bf pw hs lo lg (upd rt k y) nb (nI fi) (nI fo) (nI en) 1 (dcu cu) (ma + 1) ++ wO oj cJ (vp_updL og 0 1)) := hD
  refine lv_goto (tgt := 28) hx hb dL_setRoot_17 (by decide) ?_
  refine lv_iconst (v := (0)) hx hb dL_setRoot_28 (by decide) ?_
  refine W.widen (k := 1) (n := 6) (Nat.le_of_ble_eq_true rfl) (Nat.le_of_ble_eq_true rfl) ?_
  exact e_I hx hb hr hlocks hP hD hS rfl dL_setRoot_29
set_option maxHeartbeats 4000000 in
set_option maxRecDepth 100000 in
theorem tL_root_xb {l : Launch} {D : va_G} {cI cZ cJ : ClassId} {h0 a0 a1 a2 a3 a4 a5 : Nat} (hl0 : l.stackTraces = false) (bf pw hs lo lg rt : Nat → Int32) (nb : Int32) (fi fo en : Nat) (on cu ma : Int32) (x : Int32) (h : x < 0 ∨ nI 4 ≤ x) (oj : Nat) (og : Nat → Int64) : RH l yL_root wsL_root 9 1 6 D (tyL cI cZ cJ) (wC h0 a0 a1 a2 a3 a4 a5 cI cZ bf pw hs lo lg rt nb (nI fi) (nI fo) (nI en) on cu ma ++ wO oj cJ og) [.ref h0, .int x, .ref oj] 1 (wC h0 a0 a1 a2 a3 a4 a5 cI cZ bf pw hs lo lg rt nb (nI fi) (nI fo) (nI en) on cu ma ++ wO oj cJ og) := by
  refine st_H (cc := cL_root) (maxL := 4) (ret := (some .int)) (hh := [(0, 9, 12, 15)]) (by decide +kernel) rfl (Nat.le_of_ble_eq_true rfl) ?_
  intro p e s m below meth c A hx hb hr hts hown hml hlocks hK hP hD hA hS ls hl hT htab
  have hown : s.vm.findClass RL = some m.cls := hown
  have hl : lv_has ls 4 [(0, .ref h0), (1, .int x), (2, .ref oj)] := hl
  refine lv_aload_n hx hb dL_root_0 rfl (lv_at hl 2 rfl) ?_
  refine lv_iconst (v := (nI 0)) hx hb dL_root_1 (by decide) ?_
  refine lv_aload_n hx hb dL_root_2 rfl (lv_at hl 0 rfl) ?_
  refine lv_iload_n hx hb dL_root_3 rfl (lv_at hl 1 rfl) ?_
  refine k_X (wr := wO oj cJ og) hP hD hS hA (vx_runV (As := [.int x]) (rest := [.int (nI 0), .ref oj]) ⟨hx, hb, hml, hown, hts⟩ ((tX0_root_xb hl0 bf pw hs lo lg rt nb fi fo en on cu ma x h) _) (cwV 1 hts gL_root_X0_root rfl rfl rfl (by decide +kernel) ⟨Nat.le_of_ble_eq_true rfl, Nat.le_of_ble_eq_true rfl⟩) (pV_X hP hD hK hS hA hT (ci := 0) (q0 := 0) rfl rfl rfl [0, 1] rfl [0, 1, 2, 3, 4, 5, 6] rfl rfl) rfl rfl hl.1 rfl (lv_room (Nat.le_of_ble_eq_true rfl)) dL_root_4 ⟨Nat.le_of_ble_eq_true rfl, Nat.le_of_ble_eq_true rfl⟩) [0, 1, 2, 3, 4, 5, 6] [7] rfl rfl rfl (by decide) (fun ce q9 H locs hP hD hS hce hcv hcl => ?_)
  have hP : va_P D vwCl (wC h0 a0 a1 a2 a3 a4 a5 cI cZ bf pw hs lo lg rt nb (nI fi) (nI fo) (nI en) on cu ma ++ wO oj cJ og) H := hP.sub [1, 2, 3, 4, 5, 6, 7, 0] rfl
  have hD : va_D A (wC h0 a0 a1 a2 a3 a4 a5 cI cZ bf pw hs lo lg rt nb (nI fi) (nI fo) (nI en) on cu ma ++ wO oj cJ og) := hD.sub [1, 2, 3, 4, 5, 6, 7, 0] (by decide) rfl
  refine vx_catch hown [] ⟨0, 9, 12, 15⟩ [] htab (fun z hz => nomatch hz) rfl (by decide) (hts _ clL_root_15) (va_Nw.use rfl (hT.2.2.1 (xIOB, xIOB) (List.mem_of_getElem? (i := 1) rfl))) hce hcv hcl ?_
  refine lv_astore_n (lv' := [(3, .ref q9), (0, .ref h0), (1, .int x), (2, .ref oj)]) hx hb dL_root_12 rfl hl (by decide) rfl (fun ls hl => ?_)
  refine lv_iconst (v := (1)) hx hb dL_root_13 (by decide) ?_
  exact e_I hx hb hr hlocks hP hD hS rfl dL_root_14
set_option maxHeartbeats 4000000 in
set_option maxRecDepth 100000 in
theorem tL_root_ok {l : Launch} {D : va_G} {cI cZ cJ : ClassId} {h0 a0 a1 a2 a3 a4 a5 : Nat} (hl0 : l.stackTraces = false) (bf pw hs lo lg rt : Nat → Int32) (nb : Int32) (fi fo en : Nat) (on cu ma : Int32) (k : Nat) (hk : k < 4) (oj : Nat) (og : Nat → Int64) : RH l yL_root wsL_root 9 1 6 D (tyL cI cZ cJ) (wC h0 a0 a1 a2 a3 a4 a5 cI cZ bf pw hs lo lg rt nb (nI fi) (nI fo) (nI en) on cu ma ++ wO oj cJ og) [.ref h0, .int (nI k), .ref oj] 0 (wC h0 a0 a1 a2 a3 a4 a5 cI cZ bf pw hs lo lg rt nb (nI fi) (nI fo) (nI en) on cu ma ++ wO oj cJ (vp_updL og 0 (Int32.toInt64 (rt k)))) := by
  refine st_H (cc := cL_root) (maxL := 4) (ret := (some .int)) (hh := [(0, 9, 12, 15)]) (by decide +kernel) rfl (Nat.le_of_ble_eq_true rfl) ?_
  intro p e s m below meth c A hx hb hr hts hown hml hlocks hK hP hD hA hS ls hl hT htab
  have hown : s.vm.findClass RL = some m.cls := hown
  have hl : lv_has ls 4 [(0, .ref h0), (1, .int (nI k)), (2, .ref oj)] := hl
  refine lv_aload_n hx hb dL_root_0 rfl (lv_at hl 2 rfl) ?_
  refine lv_iconst (v := (nI 0)) hx hb dL_root_1 (by decide) ?_
  refine lv_aload_n hx hb dL_root_2 rfl (lv_at hl 0 rfl) ?_
  refine lv_iload_n hx hb dL_root_3 rfl (lv_at hl 1 rfl) ?_
  refine k_I (wr := wO oj cJ og) hP hD hS hA (va_runV (As := [.int (nI k)]) (rest := [.int (nI 0), .ref oj]) ⟨hx, hb, hml, hown, hts⟩ ((tX0_root_ok bf pw hs lo lg rt nb fi fo en on cu ma k hk) _) (cwV 1 hts gL_root_X0_root rfl rfl rfl (by decide +kernel) ⟨Nat.le_of_ble_eq_true rfl, Nat.le_of_ble_eq_true rfl⟩) (pV_B hP hD hK (ci := 0) (q0 := 0) rfl rfl rfl [0, 1] rfl [0, 1, 2, 3, 4, 5, 6] rfl rfl) rfl rfl hl.1 rfl (lv_room (Nat.le_of_ble_eq_true rfl)) dL_root_4 ⟨Nat.le_of_ble_eq_true rfl, Nat.le_of_ble_eq_true rfl⟩) [0, 1, 2, 3, 4, 5, 6] [7] rfl rfl rfl (by decide) (fun H locs hP hD hS => ?_)
  have hP : va_P D vwCl (wC h0 a0 a1 a2 a3 a4 a5 cI cZ bf pw hs lo lg rt nb (nI fi) (nI fo) (nI en) on cu ma ++ wO oj cJ og) H := hP.sub [1, 2, 3, 4, 5, 6, 7, 0] rfl
  have hD : va_D A (wC h0 a0 a1 a2 a3 a4 a5 cI cZ bf pw hs lo lg rt nb (nI fi) (nI fo) (nI en) on cu ma ++ wO oj cJ og) := hD.sub [1, 2, 3, 4, 5, 6, 7, 0] (by decide) rfl
  refine lv_i2l (v := Int32.toInt64 (rt k)) hx hb dL_root_7 rfl ?_
  refine n_last hx hb hK hP hD hS 7 2 rfl rfl 0 (by omega) (by omega) dL_root_8 (fun H locs hP hD hS => ?_)
  have hP : va_P D vwCl (wC h0 a0 a1 a2 a3 a4 a5 cI cZ bf pw hs lo lg rt nb (nI fi) (nI fo) (nI en) on cu ma ++ wO oj cJ (vp_updL og 0 (Int32.toInt64 (rt k)))) H := hP
  have hD : va_D A (wC h0 a0 a1 a2 a3 a4 a5 cI cZ bf pw hs lo lg rt nb (nI fi) (nI fo) (nI en) on cu ma ++ wO oj cJ (vp_updL og 0 (Int32.toInt64 (rt k)))) := hD
  refine lv_goto (tgt := 15) hx hb dL_root_9 (by decide) ?_
  refine lv_iconst (v := (0)) hx hb dL_root_15 (by decide) ?_
  refine W.widen (k := 1) (n := 6) (Nat.le_of_ble_eq_true rfl) (Nat.le_of_ble_eq_true rfl) ?_
  exact e_I hx hb hr hlocks hP hD hS rfl dL_root_16
set_option maxHeartbeats 4000000 in
set_option maxRecDepth 100000 in
theorem tL_cutAfter_xb {l : Launch} {D : va_G} {cI cZ cJ : ClassId} {h0 a0 a1 a2 a3 a4 a5 : Nat} (hl0 : l.stackTraces = false) (bf pw hs lo lg rt : Nat → Int32) (nb : Int32) (fi fo en : Nat) (on cu ma : Int32) (x : Int32) (h : x < -1) (oj : Nat) (og : Nat → Int64) : RH l yL_cutAfter wsL_cutAfter 9 1 6 D (tyL cI cZ cJ) (wC h0 a0 a1 a2 a3 a4 a5 cI cZ bf pw hs lo lg rt nb (nI fi) (nI fo) (nI en) on cu ma) [.ref h0, .int x] 1 (wC h0 a0 a1 a2 a3 a4 a5 cI cZ bf pw hs lo lg rt nb (nI fi) (nI fo) (nI en) on cu ma) := by
  refine st_H (cc := cL_cutAfter) (maxL := 3) (ret := (some .int)) (hh := [(0, 5, 8, 37)]) (by decide +kernel) rfl (Nat.le_of_ble_eq_true rfl) ?_
  intro p e s m below meth c A hx hb hr hts hown hml hlocks hK hP hD hA hS ls hl hT htab
  have hown : s.vm.findClass RL = some m.cls := hown
  have hl : lv_has ls 3 [(0, .ref h0), (1, .int x)] := hl
  refine lv_aload_n hx hb dL_cutAfter_0 rfl (lv_at hl 0 rfl) ?_
  refine lv_iload_n hx hb dL_cutAfter_1 rfl (lv_at hl 1 rfl) ?_
  refine k_X (wr := []) hP hD hS hA (vx_runV (As := [.int x]) (rest := []) ⟨hx, hb, hml, hown, hts⟩ ((tX0_cutAfter_xb hl0 bf pw hs lo lg rt nb fi fo en on cu ma x h) _) (cwV 1 hts gL_cutAfter_X0_cutAfter rfl rfl rfl (by decide +kernel) ⟨Nat.le_of_ble_eq_true rfl, Nat.le_of_ble_eq_true rfl⟩) (pV_X hP hD hK hS hA hT (ci := 0) (q0 := 0) rfl rfl rfl [0, 1] rfl [0, 1, 2, 3, 4, 5, 6] rfl rfl) rfl rfl hl.1 rfl (lv_room (Nat.le_of_ble_eq_true rfl)) dL_cutAfter_2 ⟨Nat.le_of_ble_eq_true rfl, Nat.le_of_ble_eq_true rfl⟩) [0, 1, 2, 3, 4, 5, 6] [] rfl rfl rfl (by decide) (fun ce q9 H locs hP hD hS hce hcv hcl => ?_)
  refine vx_catch hown [] ⟨0, 5, 8, 37⟩ [] htab (fun z hz => nomatch hz) rfl (by decide) (hts _ clL_cutAfter_37) (va_Nw.use rfl (hT.2.2.1 (xIAE, xIAE) (List.mem_of_getElem? (i := 2) rfl))) hce hcv hcl ?_
  refine lv_astore_n (lv' := [(2, .ref q9), (0, .ref h0), (1, .int x)]) hx hb dL_cutAfter_8 rfl hl (by decide) rfl (fun ls hl => ?_)
  refine lv_iconst (v := (1)) hx hb dL_cutAfter_9 (by decide) ?_
  exact e_I hx hb hr hlocks hP hD hS rfl dL_cutAfter_10
set_option maxHeartbeats 4000000 in
set_option maxRecDepth 100000 in
theorem tL_cutAfter_ok {l : Launch} {D : va_G} {cI cZ cJ : ClassId} {h0 a0 a1 a2 a3 a4 a5 : Nat} (hl0 : l.stackTraces = false) (bf pw hs lo lg rt : Nat → Int32) (nb : Int32) (fi fo en : Nat) (on cu ma : Int32) (x : Int32) (h : -1 ≤ x) (oj : Nat) (og : Nat → Int64) : RH l yL_cutAfter wsL_cutAfter 9 1 6 D (tyL cI cZ cJ) (wC h0 a0 a1 a2 a3 a4 a5 cI cZ bf pw hs lo lg rt nb (nI fi) (nI fo) (nI en) on cu ma) [.ref h0, .int x] 0 (wC h0 a0 a1 a2 a3 a4 a5 cI cZ bf pw hs lo lg rt nb (nI fi) (nI fo) (nI en) on x ma) := by
  refine st_H (cc := cL_cutAfter) (maxL := 3) (ret := (some .int)) (hh := [(0, 5, 8, 37)]) (by decide +kernel) rfl (Nat.le_of_ble_eq_true rfl) ?_
  intro p e s m below meth c A hx hb hr hts hown hml hlocks hK hP hD hA hS ls hl hT htab
  have hown : s.vm.findClass RL = some m.cls := hown
  have hl : lv_has ls 3 [(0, .ref h0), (1, .int x)] := hl
  refine lv_aload_n hx hb dL_cutAfter_0 rfl (lv_at hl 0 rfl) ?_
  refine lv_iload_n hx hb dL_cutAfter_1 rfl (lv_at hl 1 rfl) ?_
  refine k_V (wr := []) hP hD hS hA (va_runV (As := [.int x]) (rest := []) ⟨hx, hb, hml, hown, hts⟩ ((tX0_cutAfter_ok bf pw hs lo lg rt nb fi fo en on cu ma x h) _) (cwV 1 hts gL_cutAfter_X0_cutAfter rfl rfl rfl (by decide +kernel) ⟨Nat.le_of_ble_eq_true rfl, Nat.le_of_ble_eq_true rfl⟩) (pV_B hP hD hK (ci := 0) (q0 := 0) rfl rfl rfl [0, 1] rfl [0, 1, 2, 3, 4, 5, 6] rfl rfl) rfl rfl hl.1 rfl (lv_room (Nat.le_of_ble_eq_true rfl)) dL_cutAfter_2 ⟨Nat.le_of_ble_eq_true rfl, Nat.le_of_ble_eq_true rfl⟩) [0, 1, 2, 3, 4, 5, 6] [] rfl rfl rfl (by decide) (fun H locs hP hD hS => ?_)
  have hP : va_P D vwCl (wC h0 a0 a1 a2 a3 a4 a5 cI cZ bf pw hs lo lg rt nb (nI fi) (nI fo) (nI en) on x ma) H := hP
  have hD : va_D A (wC h0 a0 a1 a2 a3 a4 a5 cI cZ bf pw hs lo lg rt nb (nI fi) (nI fo) (nI en) on x ma) := hD
  refine lv_goto (tgt := 11) hx hb dL_cutAfter_5 (by decide) ?_
  refine lv_iconst (v := (0)) hx hb dL_cutAfter_11 (by decide) ?_
  refine W.widen (k := 1) (n := 6) (Nat.le_of_ble_eq_true rfl) (Nat.le_of_ble_eq_true rfl) ?_
  exact e_I hx hb hr hlocks hP hD hS rfl dL_cutAfter_12
