/-! OWN ROWS, by program: the class, its face -/
def badP (x y : Int32) : Prop := (x < 0 ∨ nI 2 ≤ x) ∨ ∃ ar : Nat, ar < 2 ∧ x = nI ar ∧ (y < 0 ∨ nI 256 ≤ y)
def badS (x y z : Int32) : Prop := badP x y ∨ ∃ ar pg : Nat, ar < 2 ∧ pg < 256 ∧ x = nI ar ∧ y = nI pg ∧ (z < 0 ∨ nI 2 ≤ z)
def badC (x y : Int32) : Prop := (x < 0 ∨ nI 2 ≤ x) ∨ ∃ ar : Nat, ar < 2 ∧ x = nI ar ∧ (y < 0 ∨ nI 3 ≤ y)
def badR (fi en : Nat) (x n : Int32) : Prop := (n < nI 1 ∨ nI 64 < n) ∨ ∃ k : Nat, 1 ≤ k ∧ k ≤ 64 ∧ n = nI k ∧ (x < nI fi ∨ nI en - nI k < x)
def sp_sum (bf : Nat → Int32) : Nat → Int32
  | 0 => 0
  | n + 1 => sp_sum bf n + bf n * nI (n + 1)
def sp_ct (lo hs : Nat → Int32) (ar : Nat) (st : Int32) : Nat → Int32
  | 0 => 0
  | n + 1 => if sp_ps lo hs (ar * 256 + n) = st then sp_ct lo hs ar st n + 1 else sp_ct lo hs ar st n
def sp_ap (bf : Nat → Int32) (en : Nat) (lg : Nat → Int32) : Nat → (Nat → Int32)
  | 0 => lg
  | n + 1 => upd (sp_ap bf en lg n) ((en + n) % 65536) (bf n)
theorem sp_ps_n2 {lo hs : Nat → Int32} {k : Nat} (h : lo k = 0) : ¬ sp_ps lo hs k = 2 := by
  unfold sp_ps
  rw [if_pos h]
  split <;> decide
def fcut : Nat → Int32 → Bool
  | 0, _ => false
  | n + 1, cu => if cu = 0 then true else fcut n (dcu cu)
def fcu : Nat → Int32 → Int32
  | 0, cu => cu
  | n + 1, cu => if cu = 0 then cu else fcu n (dcu cu)
def fma : Nat → Int32 → Int32 → Int32
  | 0, _, ma => ma
  | n + 1, cu, ma => if cu = 0 then ma else fma n (dcu cu) (ma + 1)
def fmk : Nat → Int32 → Nat
  | 0, _ => 0
  | n + 1, cu => if cu = 0 then 0 else fmk n (dcu cu) + 1
theorem fcut_s {n : Nat} {cu : Int32} (h : ¬ cu = 0) : fcut (n + 1) cu = fcut n (dcu cu) ∧ fcu (n + 1) cu = fcu n (dcu cu) ∧ (∀ ma, fma (n + 1) cu ma = fma n (dcu cu) (ma + 1)) ∧ fmk (n + 1) cu = fmk n (dcu cu) + 1 := by
  simp [fcut, fcu, fma, fmk, h]
theorem fcut_z {n : Nat} {cu : Int32} (h : cu = 0) : fcut (n + 1) cu = true ∧ fcu (n + 1) cu = cu ∧ (∀ ma, fma (n + 1) cu ma = ma) ∧ fmk (n + 1) cu = 0 := by
  simp [fcut, fcu, fma, fmk, h]
theorem fcut_nz {n : Nat} {cu : Int32} (h : fcut (n + 1) cu = false) : ¬ cu = 0 := by
  intro z
  rw [(fcut_z (n := n) z).1] at h
  cases h
set_option maxHeartbeats 4000000 in
set_option maxRecDepth 100000 in
theorem tX0_set_x0 {l : Launch} {D : va_G} {cI cZ : ClassId} {h0 a0 a1 a2 a3 a4 a5 : Nat} (hl0 : l.stackTraces = false) (bf pw hs lo lg rt : Nat → Int32) (nb : Int32) (fi fo en : Nat) (cu ma : Int32) (x y : Int32) : RX l yX0_set wsX0_set 8 D (tyC cI cZ) (wC h0 a0 a1 a2 a3 a4 a5 cI cZ bf pw hs lo lg rt nb (nI fi) (nI fo) (nI en) 0 cu ma) [.ref h0, .int x, .int y] xISE := by
  refine st_X (cc := cX0_set) (maxL := 3) (ret := none) (by decide +kernel) rfl (Nat.le_of_ble_eq_true rfl) ?_
  intro p e s m below meth c A hx hb hr hts hown hml hlocks hK hP hD hA hS ls hl hT hex
  have hown : s.vm.findClass RX0 = some m.cls := hown
  have hl : lv_has ls 3 [(0, .ref h0), (1, .int x), (2, .int y)] := hl
  refine lv_aload_n hx hb dX0_set_0 rfl (lv_at hl 0 rfl) ?_
  exact k_XX hlocks hex (Nat.le_of_ble_eq_true rfl) (Nat.le_of_ble_eq_true rfl) (wr := []) hP hD hS hA (vx_runV (As := []) (rest := []) ⟨hx, hb, hml, hown, hts⟩ ((tX0_needPower_x hl0 bf pw hs lo lg rt nb fi fo en cu ma) _) (cwV 0 hts gX0_set_X0_needPower rfl rfl rfl (by decide +kernel) ⟨Nat.le_of_ble_eq_true rfl, Nat.le_of_ble_eq_true rfl⟩) (pV_X hP hD hK hS hA hT (ci := 0) (q0 := 0) rfl rfl rfl [0, 1] rfl [0, 1, 2, 3, 4, 5, 6] rfl rfl) rfl rfl hl.1 rfl (lv_room (Nat.le_of_ble_eq_true rfl)) dX0_set_1 ⟨Nat.le_of_ble_eq_true rfl, Nat.le_of_ble_eq_true rfl⟩) [0, 1, 2, 3, 4, 5, 6] [] rfl rfl rfl (by decide)
set_option maxHeartbeats 4000000 in
set_option maxRecDepth 100000 in
theorem tX0_fill_x0 {l : Launch} {D : va_G} {cI cZ : ClassId} {h0 a0 a1 a2 a3 a4 a5 : Nat} (hl0 : l.stackTraces = false) (bf pw hs lo lg rt : Nat → Int32) (nb : Int32) (fi fo en : Nat) (cu ma : Int32) (x y : Int32) : RX l yX0_fill wsX0_fill 8 D (tyC cI cZ) (wC h0 a0 a1 a2 a3 a4 a5 cI cZ bf pw hs lo lg rt nb (nI fi) (nI fo) (nI en) 0 cu ma) [.ref h0, .int x, .int y] xISE := by
  refine st_X (cc := cX0_fill) (maxL := 4) (ret := none) (by decide +kernel) rfl (Nat.le_of_ble_eq_true rfl) ?_
  intro p e s m below meth c A hx hb hr hts hown hml hlocks hK hP hD hA hS ls hl hT hex
  have hown : s.vm.findClass RX0 = some m.cls := hown
  have hl : lv_has ls 4 [(0, .ref h0), (1, .int x), (2, .int y)] := hl
  refine lv_aload_n hx hb dX0_fill_0 rfl (lv_at hl 0 rfl) ?_
  exact k_XX hlocks hex (Nat.le_of_ble_eq_true rfl) (Nat.le_of_ble_eq_true rfl) (wr := []) hP hD hS hA (vx_runV (As := []) (rest := []) ⟨hx, hb, hml, hown, hts⟩ ((tX0_needPower_x hl0 bf pw hs lo lg rt nb fi fo en cu ma) _) (cwV 0 hts gX0_fill_X0_needPower rfl rfl rfl (by decide +kernel) ⟨Nat.le_of_ble_eq_true rfl, Nat.le_of_ble_eq_true rfl⟩) (pV_X hP hD hK hS hA hT (ci := 0) (q0 := 0) rfl rfl rfl [0, 1] rfl [0, 1, 2, 3, 4, 5, 6] rfl rfl) rfl rfl hl.1 rfl (lv_room (Nat.le_of_ble_eq_true rfl)) dX0_fill_1 ⟨Nat.le_of_ble_eq_true rfl, Nat.le_of_ble_eq_true rfl⟩) [0, 1, 2, 3, 4, 5, 6] [] rfl rfl rfl (by decide)
set_option maxHeartbeats 4000000 in
set_option maxRecDepth 100000 in
theorem tX0_write_x0 {l : Launch} {D : va_G} {cI cZ : ClassId} {h0 a0 a1 a2 a3 a4 a5 : Nat} (hl0 : l.stackTraces = false) (bf pw hs lo lg rt : Nat → Int32) (nb : Int32) (fi fo en : Nat) (cu ma : Int32) (x y : Int32) : RX l yX0_write wsX0_write 8 D (tyC cI cZ) (wC h0 a0 a1 a2 a3 a4 a5 cI cZ bf pw hs lo lg rt nb (nI fi) (nI fo) (nI en) 0 cu ma) [.ref h0, .int x, .int y] xISE := by
  refine st_X (cc := cX0_write) (maxL := 3) (ret := (some .int)) (by decide +kernel) rfl (Nat.le_of_ble_eq_true rfl) ?_
  intro p e s m below meth c A hx hb hr hts hown hml hlocks hK hP hD hA hS ls hl hT hex
  have hown : s.vm.findClass RX0 = some m.cls := hown
  have hl : lv_has ls 3 [(0, .ref h0), (1, .int x), (2, .int y)] := hl
  refine lv_aload_n hx hb dX0_write_0 rfl (lv_at hl 0 rfl) ?_
  exact k_XX hlocks hex (Nat.le_of_ble_eq_true rfl) (Nat.le_of_ble_eq_true rfl) (wr := []) hP hD hS hA (vx_runV (As := []) (rest := []) ⟨hx, hb, hml, hown, hts⟩ ((tX0_needPower_x hl0 bf pw hs lo lg rt nb fi fo en cu ma) _) (cwV 0 hts gX0_write_X0_needPower rfl rfl rfl (by decide +kernel) ⟨Nat.le_of_ble_eq_true rfl, Nat.le_of_ble_eq_true rfl⟩) (pV_X hP hD hK hS hA hT (ci := 0) (q0 := 0) rfl rfl rfl [0, 1] rfl [0, 1, 2, 3, 4, 5, 6] rfl rfl) rfl rfl hl.1 rfl (lv_room (Nat.le_of_ble_eq_true rfl)) dX0_write_1 ⟨Nat.le_of_ble_eq_true rfl, Nat.le_of_ble_eq_true rfl⟩) [0, 1, 2, 3, 4, 5, 6] [] rfl rfl rfl (by decide)
set_option maxHeartbeats 4000000 in
set_option maxRecDepth 100000 in
theorem tX0_read_x0 {l : Launch} {D : va_G} {cI cZ : ClassId} {h0 a0 a1 a2 a3 a4 a5 : Nat} (hl0 : l.stackTraces = false) (bf pw hs lo lg rt : Nat → Int32) (nb : Int32) (fi fo en : Nat) (cu ma : Int32) (x y : Int32) : RX l yX0_read wsX0_read 8 D (tyC cI cZ) (wC h0 a0 a1 a2 a3 a4 a5 cI cZ bf pw hs lo lg rt nb (nI fi) (nI fo) (nI en) 0 cu ma) [.ref h0, .int x, .int y] xISE := by
  refine st_X (cc := cX0_read) (maxL := 5) (ret := (some .int)) (by decide +kernel) rfl (Nat.le_of_ble_eq_true rfl) ?_
  intro p e s m below meth c A hx hb hr hts hown hml hlocks hK hP hD hA hS ls hl hT hex
  have hown : s.vm.findClass RX0 = some m.cls := hown
  have hl : lv_has ls 5 [(0, .ref h0), (1, .int x), (2, .int y)] := hl
  refine lv_aload_n hx hb dX0_read_0 rfl (lv_at hl 0 rfl) ?_
  exact k_XX hlocks hex (Nat.le_of_ble_eq_true rfl) (Nat.le_of_ble_eq_true rfl) (wr := []) hP hD hS hA (vx_runV (As := []) (rest := []) ⟨hx, hb, hml, hown, hts⟩ ((tX0_needPower_x hl0 bf pw hs lo lg rt nb fi fo en cu ma) _) (cwV 0 hts gX0_read_X0_needPower rfl rfl rfl (by decide +kernel) ⟨Nat.le_of_ble_eq_true rfl, Nat.le_of_ble_eq_true rfl⟩) (pV_X hP hD hK hS hA hT (ci := 0) (q0 := 0) rfl rfl rfl [0, 1] rfl [0, 1, 2, 3, 4, 5, 6] rfl rfl) rfl rfl hl.1 rfl (lv_room (Nat.le_of_ble_eq_true rfl)) dX0_read_1 ⟨Nat.le_of_ble_eq_true rfl, Nat.le_of_ble_eq_true rfl⟩) [0, 1, 2, 3, 4, 5, 6] [] rfl rfl rfl (by decide)
set_option maxHeartbeats 4000000 in
set_option maxRecDepth 100000 in
theorem tX0_copy_x0 {l : Launch} {D : va_G} {cI cZ : ClassId} {h0 a0 a1 a2 a3 a4 a5 : Nat} (hl0 : l.stackTraces = false) (bf pw hs lo lg rt : Nat → Int32) (nb : Int32) (fi fo en : Nat) (cu ma : Int32) (x y : Int32) : RX l yX0_copy wsX0_copy 8 D (tyC cI cZ) (wC h0 a0 a1 a2 a3 a4 a5 cI cZ bf pw hs lo lg rt nb (nI fi) (nI fo) (nI en) 0 cu ma) [.ref h0, .int x, .int y] xISE := by
  refine st_X (cc := cX0_copy) (maxL := 4) (ret := (some .int)) (by decide +kernel) rfl (Nat.le_of_ble_eq_true rfl) ?_
  intro p e s m below meth c A hx hb hr hts hown hml hlocks hK hP hD hA hS ls hl hT hex
  have hown : s.vm.findClass RX0 = some m.cls := hown
  have hl : lv_has ls 4 [(0, .ref h0), (1, .int x), (2, .int y)] := hl
  refine lv_aload_n hx hb dX0_copy_0 rfl (lv_at hl 0 rfl) ?_
  exact k_XX hlocks hex (Nat.le_of_ble_eq_true rfl) (Nat.le_of_ble_eq_true rfl) (wr := []) hP hD hS hA (vx_runV (As := []) (rest := []) ⟨hx, hb, hml, hown, hts⟩ ((tX0_needPower_x hl0 bf pw hs lo lg rt nb fi fo en cu ma) _) (cwV 0 hts gX0_copy_X0_needPower rfl rfl rfl (by decide +kernel) ⟨Nat.le_of_ble_eq_true rfl, Nat.le_of_ble_eq_true rfl⟩) (pV_X hP hD hK hS hA hT (ci := 0) (q0 := 0) rfl rfl rfl [0, 1] rfl [0, 1, 2, 3, 4, 5, 6] rfl rfl) rfl rfl hl.1 rfl (lv_room (Nat.le_of_ble_eq_true rfl)) dX0_copy_1 ⟨Nat.le_of_ble_eq_true rfl, Nat.le_of_ble_eq_true rfl⟩) [0, 1, 2, 3, 4, 5, 6] [] rfl rfl rfl (by decide)
set_option maxHeartbeats 4000000 in
set_option maxRecDepth 100000 in
theorem tX0_append_x0 {l : Launch} {D : va_G} {cI cZ : ClassId} {h0 a0 a1 a2 a3 a4 a5 : Nat} (hl0 : l.stackTraces = false) (bf pw hs lo lg rt : Nat → Int32) (nb : Int32) (fi fo en : Nat) (cu ma : Int32) (x : Int32) : RX l yX0_append wsX0_append 8 D (tyC cI cZ) (wC h0 a0 a1 a2 a3 a4 a5 cI cZ bf pw hs lo lg rt nb (nI fi) (nI fo) (nI en) 0 cu ma) [.ref h0, .int x] xISE := by
  refine st_X (cc := cX0_append) (maxL := 4) (ret := (some .int)) (by decide +kernel) rfl (Nat.le_of_ble_eq_true rfl) ?_
  intro p e s m below meth c A hx hb hr hts hown hml hlocks hK hP hD hA hS ls hl hT hex
  have hown : s.vm.findClass RX0 = some m.cls := hown
  have hl : lv_has ls 4 [(0, .ref h0), (1, .int x)] := hl
  refine lv_aload_n hx hb dX0_append_0 rfl (lv_at hl 0 rfl) ?_
  exact k_XX hlocks hex (Nat.le_of_ble_eq_true rfl) (Nat.le_of_ble_eq_true rfl) (wr := []) hP hD hS hA (vx_runV (As := []) (rest := []) ⟨hx, hb, hml, hown, hts⟩ ((tX0_needPower_x hl0 bf pw hs lo lg rt nb fi fo en cu ma) _) (cwV 0 hts gX0_append_X0_needPower rfl rfl rfl (by decide +kernel) ⟨Nat.le_of_ble_eq_true rfl, Nat.le_of_ble_eq_true rfl⟩) (pV_X hP hD hK hS hA hT (ci := 0) (q0 := 0) rfl rfl rfl [0, 1] rfl [0, 1, 2, 3, 4, 5, 6] rfl rfl) rfl rfl hl.1 rfl (lv_room (Nat.le_of_ble_eq_true rfl)) dX0_append_1 ⟨Nat.le_of_ble_eq_true rfl, Nat.le_of_ble_eq_true rfl⟩) [0, 1, 2, 3, 4, 5, 6] [] rfl rfl rfl (by decide)
set_option maxHeartbeats 4000000 in
set_option maxRecDepth 100000 in
theorem tX0_force_x0 {l : Launch} {D : va_G} {cI cZ : ClassId} {h0 a0 a1 a2 a3 a4 a5 : Nat} (hl0 : l.stackTraces = false) (bf pw hs lo lg rt : Nat → Int32) (nb : Int32) (fi fo en : Nat) (cu ma : Int32) (x : Int32) : RX l yX0_force wsX0_force 8 D (tyC cI cZ) (wC h0 a0 a1 a2 a3 a4 a5 cI cZ bf pw hs lo lg rt nb (nI fi) (nI fo) (nI en) 0 cu ma) [.ref h0, .int x] xISE := by
  refine st_X (cc := cX0_force) (maxL := 3) (ret := (some .int)) (by decide +kernel) rfl (Nat.le_of_ble_eq_true rfl) ?_
  intro p e s m below meth c A hx hb hr hts hown hml hlocks hK hP hD hA hS ls hl hT hex
  have hown : s.vm.findClass RX0 = some m.cls := hown
  have hl : lv_has ls 3 [(0, .ref h0), (1, .int x)] := hl
  refine lv_aload_n hx hb dX0_force_0 rfl (lv_at hl 0 rfl) ?_
  exact k_XX hlocks hex (Nat.le_of_ble_eq_true rfl) (Nat.le_of_ble_eq_true rfl) (wr := []) hP hD hS hA (vx_runV (As := []) (rest := []) ⟨hx, hb, hml, hown, hts⟩ ((tX0_needPower_x hl0 bf pw hs lo lg rt nb fi fo en cu ma) _) (cwV 0 hts gX0_force_X0_needPower rfl rfl rfl (by decide +kernel) ⟨Nat.le_of_ble_eq_true rfl, Nat.le_of_ble_eq_true rfl⟩) (pV_X hP hD hK hS hA hT (ci := 0) (q0 := 0) rfl rfl rfl [0, 1] rfl [0, 1, 2, 3, 4, 5, 6] rfl rfl) rfl rfl hl.1 rfl (lv_room (Nat.le_of_ble_eq_true rfl)) dX0_force_1 ⟨Nat.le_of_ble_eq_true rfl, Nat.le_of_ble_eq_true rfl⟩) [0, 1, 2, 3, 4, 5, 6] [] rfl rfl rfl (by decide)
set_option maxHeartbeats 4000000 in
set_option maxRecDepth 100000 in
theorem tX0_readLog_x0 {l : Launch} {D : va_G} {cI cZ : ClassId} {h0 a0 a1 a2 a3 a4 a5 : Nat} (hl0 : l.stackTraces = false) (bf pw hs lo lg rt : Nat → Int32) (nb : Int32) (fi fo en : Nat) (cu ma : Int32) (x y : Int32) : RX l yX0_readLog wsX0_readLog 8 D (tyC cI cZ) (wC h0 a0 a1 a2 a3 a4 a5 cI cZ bf pw hs lo lg rt nb (nI fi) (nI fo) (nI en) 0 cu ma) [.ref h0, .int x, .int y] xISE := by
  refine st_X (cc := cX0_readLog) (maxL := 4) (ret := none) (by decide +kernel) rfl (Nat.le_of_ble_eq_true rfl) ?_
  intro p e s m below meth c A hx hb hr hts hown hml hlocks hK hP hD hA hS ls hl hT hex
  have hown : s.vm.findClass RX0 = some m.cls := hown
  have hl : lv_has ls 4 [(0, .ref h0), (1, .int x), (2, .int y)] := hl
  refine lv_aload_n hx hb dX0_readLog_0 rfl (lv_at hl 0 rfl) ?_
  exact k_XX hlocks hex (Nat.le_of_ble_eq_true rfl) (Nat.le_of_ble_eq_true rfl) (wr := []) hP hD hS hA (vx_runV (As := []) (rest := []) ⟨hx, hb, hml, hown, hts⟩ ((tX0_needPower_x hl0 bf pw hs lo lg rt nb fi fo en cu ma) _) (cwV 0 hts gX0_readLog_X0_needPower rfl rfl rfl (by decide +kernel) ⟨Nat.le_of_ble_eq_true rfl, Nat.le_of_ble_eq_true rfl⟩) (pV_X hP hD hK hS hA hT (ci := 0) (q0 := 0) rfl rfl rfl [0, 1] rfl [0, 1, 2, 3, 4, 5, 6] rfl rfl) rfl rfl hl.1 rfl (lv_room (Nat.le_of_ble_eq_true rfl)) dX0_readLog_1 ⟨Nat.le_of_ble_eq_true rfl, Nat.le_of_ble_eq_true rfl⟩) [0, 1, 2, 3, 4, 5, 6] [] rfl rfl rfl (by decide)
set_option maxHeartbeats 4000000 in
set_option maxRecDepth 100000 in
theorem tX0_giveBack_x0 {l : Launch} {D : va_G} {cI cZ : ClassId} {h0 a0 a1 a2 a3 a4 a5 : Nat} (hl0 : l.stackTraces = false) (bf pw hs lo lg rt : Nat → Int32) (nb : Int32) (fi fo en : Nat) (cu ma : Int32) (x : Int32) : RX l yX0_giveBack wsX0_giveBack 8 D (tyC cI cZ) (wC h0 a0 a1 a2 a3 a4 a5 cI cZ bf pw hs lo lg rt nb (nI fi) (nI fo) (nI en) 0 cu ma) [.ref h0, .int x] xISE := by
  refine st_X (cc := cX0_giveBack) (maxL := 2) (ret := none) (by decide +kernel) rfl (Nat.le_of_ble_eq_true rfl) ?_
  intro p e s m below meth c A hx hb hr hts hown hml hlocks hK hP hD hA hS ls hl hT hex
  have hown : s.vm.findClass RX0 = some m.cls := hown
  have hl : lv_has ls 2 [(0, .ref h0), (1, .int x)] := hl
  refine lv_aload_n hx hb dX0_giveBack_0 rfl (lv_at hl 0 rfl) ?_
  exact k_XX hlocks hex (Nat.le_of_ble_eq_true rfl) (Nat.le_of_ble_eq_true rfl) (wr := []) hP hD hS hA (vx_runV (As := []) (rest := []) ⟨hx, hb, hml, hown, hts⟩ ((tX0_needPower_x hl0 bf pw hs lo lg rt nb fi fo en cu ma) _) (cwV 0 hts gX0_giveBack_X0_needPower rfl rfl rfl (by decide +kernel) ⟨Nat.le_of_ble_eq_true rfl, Nat.le_of_ble_eq_true rfl⟩) (pV_X hP hD hK hS hA hT (ci := 0) (q0 := 0) rfl rfl rfl [0, 1] rfl [0, 1, 2, 3, 4, 5, 6] rfl rfl) rfl rfl hl.1 rfl (lv_room (Nat.le_of_ble_eq_true rfl)) dX0_giveBack_1 ⟨Nat.le_of_ble_eq_true rfl, Nat.le_of_ble_eq_true rfl⟩) [0, 1, 2, 3, 4, 5, 6] [] rfl rfl rfl (by decide)
set_option maxHeartbeats 4000000 in
set_option maxRecDepth 100000 in
theorem tX0_setRoot_x0 {l : Launch} {D : va_G} {cI cZ : ClassId} {h0 a0 a1 a2 a3 a4 a5 : Nat} (hl0 : l.stackTraces = false) (bf pw hs lo lg rt : Nat → Int32) (nb : Int32) (fi fo en : Nat) (cu ma : Int32) (x y : Int32) : RX l yX0_setRoot wsX0_setRoot 8 D (tyC cI cZ) (wC h0 a0 a1 a2 a3 a4 a5 cI cZ bf pw hs lo lg rt nb (nI fi) (nI fo) (nI en) 0 cu ma) [.ref h0, .int x, .int y] xISE := by
  refine st_X (cc := cX0_setRoot) (maxL := 3) (ret := (some .boolean)) (by decide +kernel) rfl (Nat.le_of_ble_eq_true rfl) ?_
  intro p e s m below meth c A hx hb hr hts hown hml hlocks hK hP hD hA hS ls hl hT hex
  have hown : s.vm.findClass RX0 = some m.cls := hown
  have hl : lv_has ls 3 [(0, .ref h0), (1, .int x), (2, .int y)] := hl
  refine lv_aload_n hx hb dX0_setRoot_0 rfl (lv_at hl 0 rfl) ?_
  exact k_XX hlocks hex (Nat.le_of_ble_eq_true rfl) (Nat.le_of_ble_eq_true rfl) (wr := []) hP hD hS hA (vx_runV (As := []) (rest := []) ⟨hx, hb, hml, hown, hts⟩ ((tX0_needPower_x hl0 bf pw hs lo lg rt nb fi fo en cu ma) _) (cwV 0 hts gX0_setRoot_X0_needPower rfl rfl rfl (by decide +kernel) ⟨Nat.le_of_ble_eq_true rfl, Nat.le_of_ble_eq_true rfl⟩) (pV_X hP hD hK hS hA hT (ci := 0) (q0 := 0) rfl rfl rfl [0, 1] rfl [0, 1, 2, 3, 4, 5, 6] rfl rfl) rfl rfl hl.1 rfl (lv_room (Nat.le_of_ble_eq_true rfl)) dX0_setRoot_1 ⟨Nat.le_of_ble_eq_true rfl, Nat.le_of_ble_eq_true rfl⟩) [0, 1, 2, 3, 4, 5, 6] [] rfl rfl rfl (by decide)
set_option maxHeartbeats 4000000 in
set_option maxRecDepth 100000 in
theorem tX0_set_xb {l : Launch} {D : va_G} {cI cZ : ClassId} {h0 a0 a1 a2 a3 a4 a5 : Nat} (hl0 : l.stackTraces = false) (bf pw hs lo lg rt : Nat → Int32) (nb : Int32) (fi fo en : Nat) (cu ma : Int32) (x y : Int32) (h : x < 0 ∨ nI 64 ≤ x) : RX l yX0_set wsX0_set 8 D (tyC cI cZ) (wC h0 a0 a1 a2 a3 a4 a5 cI cZ bf pw hs lo lg rt nb (nI fi) (nI fo) (nI en) 1 cu ma) [.ref h0, .int x, .int y] xIOB := by
  refine st_X (cc := cX0_set) (maxL := 3) (ret := none) (by decide +kernel) rfl (Nat.le_of_ble_eq_true rfl) ?_
  intro p e s m below meth c A hx hb hr hts hown hml hlocks hK hP hD hA hS ls hl hT hex
  have hown : s.vm.findClass RX0 = some m.cls := hown
  have hl : lv_has ls 3 [(0, .ref h0), (1, .int x), (2, .int y)] := hl
  refine lv_aload_n hx hb dX0_set_0 rfl (lv_at hl 0 rfl) ?_
  refine k_V (wr := []) hP hD hS hA (va_runV (As := []) (rest := []) ⟨hx, hb, hml, hown, hts⟩ ((tX0_needPower_ok bf pw hs lo lg rt nb fi fo en cu ma) _) (cwV 0 hts gX0_set_X0_needPower rfl rfl rfl (by decide +kernel) ⟨Nat.le_of_ble_eq_true rfl, Nat.le_of_ble_eq_true rfl⟩) (pV_B hP hD hK (ci := 0) (q0 := 0) rfl rfl rfl [0, 1] rfl [0, 1, 2, 3, 4, 5, 6] rfl rfl) rfl rfl hl.1 rfl (lv_room (Nat.le_of_ble_eq_true rfl)) dX0_set_1 ⟨Nat.le_of_ble_eq_true rfl, Nat.le_of_ble_eq_true rfl⟩) [0, 1, 2, 3, 4, 5, 6] [] rfl rfl rfl (by decide) (fun H locs hP hD hS => ?_)
  have hP : va_P D vwCl (wC h0 a0 a1 a2 a3 a4 a5 cI cZ bf pw hs lo lg rt nb (nI fi) (nI fo) (nI en) 1 cu ma) H := hP
  have hD : va_D A (wC h0 a0 a1 a2 a3 a4 a5 cI cZ bf pw hs lo lg rt nb (nI fi) (nI fo) (nI en) 1 cu ma) := hD
  refine lv_iload_n hx hb dX0_set_4 rfl (lv_at hl 1 rfl) ?_
  refine lv_bipush (v := (nI 64)) hx hb dX0_set_5 (by decide) ?_
  exact k_XX hlocks hex (Nat.le_of_ble_eq_true rfl) (Nat.le_of_ble_eq_true rfl) (wr := wC h0 a0 a1 a2 a3 a4 a5 cI cZ bf pw hs lo lg rt nb (nI fi) (nI fo) (nI en) 1 cu ma) hP hD hS hA (vx_runS (As := [.int x, .int (nI 64)]) (rest := []) ⟨hx, hb, hml, hown, hts⟩ ((tX0_needIndex_x hl0 x 64 h) _) (va_cwS 2 hts gX0_set_X0_needIndex rfl rfl rfl (by decide +kernel) ⟨Nat.le_of_ble_eq_true rfl, Nat.le_of_ble_eq_true rfl⟩) (pS_X hP hD hK hS hA hT [] rfl [] rfl rfl) rfl rfl hl.1 rfl (lv_room (Nat.le_of_ble_eq_true rfl)) dX0_set_7 ⟨Nat.le_of_ble_eq_true rfl, Nat.le_of_ble_eq_true rfl⟩) [] [0, 1, 2, 3, 4, 5, 6] rfl rfl rfl (by decide)
set_option maxHeartbeats 4000000 in
set_option maxRecDepth 100000 in
theorem tX0_set_ok {l : Launch} {D : va_G} {cI cZ : ClassId} {h0 a0 a1 a2 a3 a4 a5 : Nat} (bf pw hs lo lg rt : Nat → Int32) (nb : Int32) (fi fo en : Nat) (cu ma : Int32) (k : Nat) (hk : k < 64) (y : Int32) : RV l yX0_set wsX0_set 8 0 0 D (tyC cI cZ) (wC h0 a0 a1 a2 a3 a4 a5 cI cZ bf pw hs lo lg rt nb (nI fi) (nI fo) (nI en) 1 cu ma) [.ref h0, .int (nI k), .int y] (wC h0 a0 a1 a2 a3 a4 a5 cI cZ (upd bf k y) pw hs lo lg rt nb (nI fi) (nI fo) (nI en) 1 cu ma) := by
  refine st_V (cc := cX0_set) (maxL := 3) (ret := none) (by decide +kernel) rfl (Nat.le_of_ble_eq_true rfl) ?_
  intro p e s m below meth c A hx hb hr hts hown hml hlocks hK hP hD hA hS ls hl
  have hown : s.vm.findClass RX0 = some m.cls := hown
  have hl : lv_has ls 3 [(0, .ref h0), (1, .int (nI k)), (2, .int y)] := hl
  refine lv_aload_n hx hb dX0_set_0 rfl (lv_at hl 0 rfl) ?_
  refine k_V (wr := []) hP hD hS hA (va_runV (As := []) (rest := []) ⟨hx, hb, hml, hown, hts⟩ ((tX0_needPower_ok bf pw hs lo lg rt nb fi fo en cu ma) _) (cwV 0 hts gX0_set_X0_needPower rfl rfl rfl (by decide +kernel) ⟨Nat.le_of_ble_eq_true rfl, Nat.le_of_ble_eq_true rfl⟩) (pV_B hP hD hK (ci := 0) (q0 := 0) rfl rfl rfl [0, 1] rfl [0, 1, 2, 3, 4, 5, 6] rfl rfl) rfl rfl hl.1 rfl (lv_room (Nat.le_of_ble_eq_true rfl)) dX0_set_1 ⟨Nat.le_of_ble_eq_true rfl, Nat.le_of_ble_eq_true rfl⟩) [0, 1, 2, 3, 4, 5, 6] [] rfl rfl rfl (by decide) (fun H locs hP hD hS => ?_)
  have hP : va_P D vwCl (wC h0 a0 a1 a2 a3 a4 a5 cI cZ bf pw hs lo lg rt nb (nI fi) (nI fo) (nI en) 1 cu ma) H := hP
  have hD : va_D A (wC h0 a0 a1 a2 a3 a4 a5 cI cZ bf pw hs lo lg rt nb (nI fi) (nI fo) (nI en) 1 cu ma) := hD
  refine lv_iload_n hx hb dX0_set_4 rfl (lv_at hl 1 rfl) ?_
  refine lv_bipush (v := (nI 64)) hx hb dX0_set_5 (by decide) ?_
  refine k_V (wr := wC h0 a0 a1 a2 a3 a4 a5 cI cZ bf pw hs lo lg rt nb (nI fi) (nI fo) (nI en) 1 cu ma) hP hD hS hA (va_runS (As := [.int (nI k), .int (nI 64)]) (rest := []) ⟨hx, hb, hml, hown, hts⟩ ((tX0_needIndex_ok k 64 (by omega) (by omega)) _) (va_cwS 2 hts gX0_set_X0_needIndex rfl rfl rfl (by decide +kernel) ⟨Nat.le_of_ble_eq_true rfl, Nat.le_of_ble_eq_true rfl⟩) (pS_B hP hD hK [] rfl [] rfl rfl) rfl rfl hl.1 rfl (lv_room (Nat.le_of_ble_eq_true rfl)) dX0_set_7 ⟨Nat.le_of_ble_eq_true rfl, Nat.le_of_ble_eq_true rfl⟩) [] [0, 1, 2, 3, 4, 5, 6] rfl rfl rfl (by decide) (fun H locs hP hD hS => ?_)
  have hP : va_P D vwCl (wC h0 a0 a1 a2 a3 a4 a5 cI cZ bf pw hs lo lg rt nb (nI fi) (nI fo) (nI en) 1 cu ma) H := hP
  have hD : va_D A (wC h0 a0 a1 a2 a3 a4 a5 cI cZ bf pw hs lo lg rt nb (nI fi) (nI fo) (nI en) 1 cu ma) := hD
  refine lv_aload_n hx hb dX0_set_10 rfl (lv_at hl 0 rfl) ?_
  refine va_get (ci := 0) (v := .ref a0) (C := RX0) (T := TX0) (N := 13) hx hb hts inX0_set hown hK hP 0 rfl rfl 0 (by decide) (hts _ flX0_set_9) (fun _ h9 => h9) rfl dX0_set_11 ?_
  refine lv_iload_n hx hb dX0_set_14 rfl (lv_at hl 1 rfl) ?_
  refine lv_iload_n hx hb dX0_set_15 rfl (lv_at hl 2 rfl) ?_
  refine n_iast hx hb hK hP hD hS 1 0 rfl rfl k (by omega) (by omega) dX0_set_16 (fun H locs hP hD hS => ?_)
  have hP : va_P D vwCl (wC h0 a0 a1 a2 a3 a4 a5 cI cZ (upd bf k y) pw hs lo lg rt nb (nI fi) (nI fo) (nI en) 1 cu ma) H := hP
  have hD : va_D A (wC h0 a0 a1 a2 a3 a4 a5 cI cZ (upd bf k y) pw hs lo lg rt nb (nI fi) (nI fo) (nI en) 1 cu ma) := hD
  exact e_V hx hb hr hlocks hP hD hS dX0_set_17
set_option maxHeartbeats 4000000 in
set_option maxRecDepth 100000 in
theorem tX0_fill_ok {l : Launch} {D : va_G} {cI cZ : ClassId} {h0 a0 a1 a2 a3 a4 a5 : Nat} (bf pw hs lo lg rt : Nat → Int32) (nb : Int32) (fi fo en : Nat) (cu ma : Int32) (x y : Int32) : RV l yX0_fill wsX0_fill 8 0 0 D (tyC cI cZ) (wC h0 a0 a1 a2 a3 a4 a5 cI cZ bf pw hs lo lg rt nb (nI fi) (nI fo) (nI en) 1 cu ma) [.ref h0, .int x, .int y] (wC h0 a0 a1 a2 a3 a4 a5 cI cZ (fl (fun j => x + nI j * y) 64 bf) pw hs lo lg rt nb (nI fi) (nI fo) (nI en) 1 cu ma) := by
  refine st_V (cc := cX0_fill) (maxL := 4) (ret := none) (by decide +kernel) rfl (Nat.le_of_ble_eq_true rfl) ?_
  intro p e s m below meth c A hx hb hr hts hown hml hlocks hK hP hD hA hS ls hl
  have hown : s.vm.findClass RX0 = some m.cls := hown
  have hl : lv_has ls 4 [(0, .ref h0), (1, .int x), (2, .int y)] := hl
  refine lv_aload_n hx hb dX0_fill_0 rfl (lv_at hl 0 rfl) ?_
  refine k_V (wr := []) hP hD hS hA (va_runV (As := []) (rest := []) ⟨hx, hb, hml, hown, hts⟩ ((tX0_needPower_ok bf pw hs lo lg rt nb fi fo en cu ma) _) (cwV 0 hts gX0_fill_X0_needPower rfl rfl rfl (by decide +kernel) ⟨Nat.le_of_ble_eq_true rfl, Nat.le_of_ble_eq_true rfl⟩) (pV_B hP hD hK (ci := 0) (q0 := 0) rfl rfl rfl [0, 1] rfl [0, 1, 2, 3, 4, 5, 6] rfl rfl) rfl rfl hl.1 rfl (lv_room (Nat.le_of_ble_eq_true rfl)) dX0_fill_1 ⟨Nat.le_of_ble_eq_true rfl, Nat.le_of_ble_eq_true rfl⟩) [0, 1, 2, 3, 4, 5, 6] [] rfl rfl rfl (by decide) (fun H locs hP hD hS => ?_)
  have hP : va_P D vwCl (wC h0 a0 a1 a2 a3 a4 a5 cI cZ bf pw hs lo lg rt nb (nI fi) (nI fo) (nI en) 1 cu ma) H := hP
  have hD : va_D A (wC h0 a0 a1 a2 a3 a4 a5 cI cZ bf pw hs lo lg rt nb (nI fi) (nI fo) (nI en) 1 cu ma) := hD
  refine lv_iconst (v := (nI 0)) hx hb dX0_fill_4 (by decide) ?_
  refine lv_istore_n (lv' := [(3, .int (nI 0)), (0, .ref h0), (1, .int x), (2, .int y)]) hx hb dX0_fill_5 rfl hl (by decide) rfl (fun ls hl => ?_)
  have lp_6 : ∀ (n9 i : Nat), i + n9 = 64 → ∀ (H : Heap) (locs : List Loc) (ls : Array Slot), va_P D vwCl (wC h0 a0 a1 a2 a3 a4 a5 cI cZ (fl (fun j => x + nI j * y) i bf) pw hs lo lg rt nb (nI fi) (nI fo) (nI en) 1 cu ma) H → va_D A (wC h0 a0 a1 a2 a3 a4 a5 cI cZ (fl (fun j => x + nI j * y) i bf) pw hs lo lg rt nb (nI fi) (nI fo) (nI en) 1 cu ma) → va_S A s.heap H locs → lv_has ls 4 [(0, .ref h0), (1, .int x), (2, .int y), (3, .int (nI i))] → W p l e (rmL 8 0 0) s m ([.ref h0, .int x, .int y] : List Value).toArray below meth c H locs 0 0 (MQ below (qcV D A (wC h0 a0 a1 a2 a3 a4 a5 cI cZ (fl (fun j => x + nI j * y) 64 bf) pw hs lo lg rt nb (nI fi) (nI fo) (nI en) 1 cu ma)) ([.ref h0, .int x, .int y] : List Value).toArray s 0 0 A) (F0 m 6 ls []) := by
    intro n9
    induction n9 with
    | zero =>
      intro i hi H locs ls hP hD hS hl
      obtain rfl : i = 64 := by omega
      refine lv_iload_n hx hb dX0_fill_6 rfl (lv_at hl 3 rfl) ?_
      refine lv_bipush (v := (nI 64)) hx hb dX0_fill_7 (by decide) ?_
      refine n_ge (tgt := 29) hx hb (by omega) (by omega) dX0_fill_9 (by decide) (fun c_9 => ?_) (fun c_9 => absurd c_9 (by omega))
      exact e_V hx hb hr hlocks hP hD hS dX0_fill_29
    | succ n9 ih =>
      intro i hi H locs ls hP hD hS hl
      refine lv_iload_n hx hb dX0_fill_6 rfl (lv_at hl 3 rfl) ?_
      refine lv_bipush (v := (nI 64)) hx hb dX0_fill_7 (by decide) ?_
      refine n_ge (tgt := 29) hx hb (by omega) (by omega) dX0_fill_9 (by decide) (fun c_9 => absurd c_9 (by omega)) (fun c_9 => ?_)
      refine lv_aload_n hx hb dX0_fill_12 rfl (lv_at hl 0 rfl) ?_
      refine va_get (ci := 0) (v := .ref a0) (C := RX0) (T := TX0) (N := 13) hx hb hts inX0_fill hown hK hP 0 rfl rfl 0 (by decide) (hts _ flX0_fill_9) (fun _ h9 => h9) rfl dX0_fill_13 ?_
      refine lv_iload_n hx hb dX0_fill_16 rfl (lv_at hl 3 rfl) ?_
      refine lv_iload_n hx hb dX0_fill_17 rfl (lv_at hl 1 rfl) ?_
      refine lv_iload_n hx hb dX0_fill_18 rfl (lv_at hl 3 rfl) ?_
      refine lv_iload_n hx hb dX0_fill_19 rfl (lv_at hl 2 rfl) ?_
      refine lv_imul hx hb dX0_fill_20 ?_
      refine lv_iadd hx hb dX0_fill_21 ?_
      refine n_iast hx hb hK hP hD hS 1 0 rfl rfl i (by omega) (by omega) dX0_fill_22 (fun H locs hP hD hS => ?_)
      have hP : va_P D vwCl (wC h0 a0 a1 a2 a3 a4 a5 cI cZ (upd (fl (fun j => x + nI j * y) i bf) i (x + ((nI i) * y))) pw hs lo lg rt nb (nI fi) (nI fo) (nI en) 1 cu ma) H := hP
      have hD : va_D A (wC h0 a0 a1 a2 a3 a4 a5 cI cZ (upd (fl (fun j => x + nI j * y) i bf) i (x + ((nI i) * y))) pw hs lo lg rt nb (nI fi) (nI fo) (nI en) 1 cu ma) := hD
      refine n_iinc (lv' := [(3, .int (nI (i + 1))), (0, .ref h0), (1, .int x), (2, .int y)]) hx hb dX0_fill_23 hl (k := 3) rfl (by decide) rfl (fun ls hl => ?_)
      refine lv_goto (tgt := 6) hx hb dX0_fill_26 (by decide) ?_
      have hP : va_P D vwCl (wC h0 a0 a1 a2 a3 a4 a5 cI cZ (fl (fun j => x + nI j * y) (i + 1) bf) pw hs lo lg rt nb (nI fi) (nI fo) (nI en) 1 cu ma) H := by rw [← fl_s]; exact hP
      have hD : va_D A (wC h0 a0 a1 a2 a3 a4 a5 cI cZ (fl (fun j => x + nI j * y) (i + 1) bf) pw hs lo lg rt nb (nI fi) (nI fo) (nI en) 1 cu ma) := by rw [← fl_s]; exact hD
      exact ih (i + 1) (by omega) _ _ _ hP hD hS (lv_sub hl [1, 2, 3, 0] rfl)
  have hP : va_P D vwCl (wC h0 a0 a1 a2 a3 a4 a5 cI cZ (fl (fun j => x + nI j * y) 0 bf) pw hs lo lg rt nb (nI fi) (nI fo) (nI en) 1 cu ma) H := by rw [fl_0]; exact hP
  have hD : va_D A (wC h0 a0 a1 a2 a3 a4 a5 cI cZ (fl (fun j => x + nI j * y) 0 bf) pw hs lo lg rt nb (nI fi) (nI fo) (nI en) 1 cu ma) := by rw [fl_0]; exact hD
  exact lp_6 64 0 (by omega) _ _ _ hP hD hS (lv_sub hl [1, 2, 3, 0] rfl)
set_option maxHeartbeats 4000000 in
set_option maxRecDepth 100000 in
theorem tX0_get_xb {l : Launch} {D : va_G} {cI cZ : ClassId} {h0 a0 a1 a2 a3 a4 a5 : Nat} (hl0 : l.stackTraces = false) (bf pw hs lo lg rt : Nat → Int32) (nb : Int32) (fi fo en : Nat) (on cu ma : Int32) (x : Int32) (h : x < 0 ∨ nI 64 ≤ x) : RX l yX0_get wsX0_get 8 D (tyC cI cZ) (wC h0 a0 a1 a2 a3 a4 a5 cI cZ bf pw hs lo lg rt nb (nI fi) (nI fo) (nI en) on cu ma) [.ref h0, .int x] xIOB := by
  refine st_X (cc := cX0_get) (maxL := 2) (ret := (some .int)) (by decide +kernel) rfl (Nat.le_of_ble_eq_true rfl) ?_
  intro p e s m below meth c A hx hb hr hts hown hml hlocks hK hP hD hA hS ls hl hT hex
  have hown : s.vm.findClass RX0 = some m.cls := hown
  have hl : lv_has ls 2 [(0, .ref h0), (1, .int x)] := hl
  refine lv_iload_n hx hb dX0_get_0 rfl (lv_at hl 1 rfl) ?_
  refine lv_bipush (v := (nI 64)) hx hb dX0_get_1 (by decide) ?_
  exact k_XX hlocks hex (Nat.le_of_ble_eq_true rfl) (Nat.le_of_ble_eq_true rfl) (wr := wC h0 a0 a1 a2 a3 a4 a5 cI cZ bf pw hs lo lg rt nb (nI fi) (nI fo) (nI en) on cu ma) hP hD hS hA (vx_runS (As := [.int x, .int (nI 64)]) (rest := []) ⟨hx, hb, hml, hown, hts⟩ ((tX0_needIndex_x hl0 x 64 h) _) (va_cwS 2 hts gX0_get_X0_needIndex rfl rfl rfl (by decide +kernel) ⟨Nat.le_of_ble_eq_true rfl, Nat.le_of_ble_eq_true rfl⟩) (pS_X hP hD hK hS hA hT [] rfl [] rfl rfl) rfl rfl hl.1 rfl (lv_room (Nat.le_of_ble_eq_true rfl)) dX0_get_3 ⟨Nat.le_of_ble_eq_true rfl, Nat.le_of_ble_eq_true rfl⟩) [] [0, 1, 2, 3, 4, 5, 6] rfl rfl rfl (by decide)
set_option maxHeartbeats 4000000 in
set_option maxRecDepth 100000 in
theorem tX0_get_ok {l : Launch} {D : va_G} {cI cZ : ClassId} {h0 a0 a1 a2 a3 a4 a5 : Nat} (bf pw hs lo lg rt : Nat → Int32) (nb : Int32) (fi fo en : Nat) (on cu ma : Int32) (k : Nat) (hk : k < 64) : RI l yX0_get wsX0_get 8 0 0 D (tyC cI cZ) (wC h0 a0 a1 a2 a3 a4 a5 cI cZ bf pw hs lo lg rt nb (nI fi) (nI fo) (nI en) on cu ma) [.ref h0, .int (nI k)] (bf k) (wC h0 a0 a1 a2 a3 a4 a5 cI cZ bf pw hs lo lg rt nb (nI fi) (nI fo) (nI en) on cu ma) := by
  refine st_I (cc := cX0_get) (maxL := 2) (ret := (some .int)) (by decide +kernel) rfl (Nat.le_of_ble_eq_true rfl) ?_
  intro p e s m below meth c A hx hb hr hts hown hml hlocks hK hP hD hA hS ls hl
  have hown : s.vm.findClass RX0 = some m.cls := hown
  have hl : lv_has ls 2 [(0, .ref h0), (1, .int (nI k))] := hl
  refine lv_iload_n hx hb dX0_get_0 rfl (lv_at hl 1 rfl) ?_
  refine lv_bipush (v := (nI 64)) hx hb dX0_get_1 (by decide) ?_
  refine k_V (wr := wC h0 a0 a1 a2 a3 a4 a5 cI cZ bf pw hs lo lg rt nb (nI fi) (nI fo) (nI en) on cu ma) hP hD hS hA (va_runS (As := [.int (nI k), .int (nI 64)]) (rest := []) ⟨hx, hb, hml, hown, hts⟩ ((tX0_needIndex_ok k 64 (by omega) (by omega)) _) (va_cwS 2 hts gX0_get_X0_needIndex rfl rfl rfl (by decide +kernel) ⟨Nat.le_of_ble_eq_true rfl, Nat.le_of_ble_eq_true rfl⟩) (pS_B hP hD hK [] rfl [] rfl rfl) rfl rfl hl.1 rfl (lv_room (Nat.le_of_ble_eq_true rfl)) dX0_get_3 ⟨Nat.le_of_ble_eq_true rfl, Nat.le_of_ble_eq_true rfl⟩) [] [0, 1, 2, 3, 4, 5, 6] rfl rfl rfl (by decide) (fun H locs hP hD hS => ?_)
  have hP : va_P D vwCl (wC h0 a0 a1 a2 a3 a4 a5 cI cZ bf pw hs lo lg rt nb (nI fi) (nI fo) (nI en) on cu ma) H := hP
  have hD : va_D A (wC h0 a0 a1 a2 a3 a4 a5 cI cZ bf pw hs lo lg rt nb (nI fi) (nI fo) (nI en) on cu ma) := hD
  refine lv_aload_n hx hb dX0_get_6 rfl (lv_at hl 0 rfl) ?_
  refine va_get (ci := 0) (v := .ref a0) (C := RX0) (T := TX0) (N := 13) hx hb hts inX0_get hown hK hP 0 rfl rfl 0 (by decide) (hts _ flX0_get_9) (fun _ h9 => h9) rfl dX0_get_7 ?_
  refine lv_iload_n hx hb dX0_get_10 rfl (lv_at hl 1 rfl) ?_
  refine n_iald hx hb hK hP 1 0 rfl rfl k (by omega) (by omega) dX0_get_11 ?_
  exact e_I hx hb hr hlocks hP hD hS rfl dX0_get_12
set_option maxHeartbeats 4000000 in
set_option maxRecDepth 100000 in
theorem tX0_sum_ok {l : Launch} {D : va_G} {cI cZ : ClassId} {h0 a0 a1 a2 a3 a4 a5 : Nat} (bf pw hs lo lg rt : Nat → Int32) (nb : Int32) (fi fo en : Nat) (on cu ma : Int32) : RI l yX0_sum wsX0_sum 8 0 0 D (tyC cI cZ) (wC h0 a0 a1 a2 a3 a4 a5 cI cZ bf pw hs lo lg rt nb (nI fi) (nI fo) (nI en) on cu ma) [.ref h0] (sp_sum bf 64) (wC h0 a0 a1 a2 a3 a4 a5 cI cZ bf pw hs lo lg rt nb (nI fi) (nI fo) (nI en) on cu ma) := by
  refine st_I (cc := cX0_sum) (maxL := 3) (ret := (some .int)) (by decide +kernel) rfl (Nat.le_of_ble_eq_true rfl) ?_
  intro p e s m below meth c A hx hb hr hts hown hml hlocks hK hP hD hA hS ls hl
  have hown : s.vm.findClass RX0 = some m.cls := hown
  have hl : lv_has ls 3 [(0, .ref h0)] := hl
  refine lv_iconst (v := (0)) hx hb dX0_sum_0 (by decide) ?_
  refine lv_istore_n (lv' := [(1, .int 0), (0, .ref h0)]) hx hb dX0_sum_1 rfl hl (by decide) rfl (fun ls hl => ?_)
  refine lv_iconst (v := (nI 0)) hx hb dX0_sum_2 (by decide) ?_
  refine lv_istore_n (lv' := [(2, .int (nI 0)), (1, .int 0), (0, .ref h0)]) hx hb dX0_sum_3 rfl hl (by decide) rfl (fun ls hl => ?_)
  have lp_4 : ∀ (n9 i : Nat), i + n9 = 64 → ∀ (H : Heap) (locs : List Loc) (ls : Array Slot), va_P D vwCl (wC h0 a0 a1 a2 a3 a4 a5 cI cZ bf pw hs lo lg rt nb (nI fi) (nI fo) (nI en) on cu ma) H → va_D A (wC h0 a0 a1 a2 a3 a4 a5 cI cZ bf pw hs lo lg rt nb (nI fi) (nI fo) (nI en) on cu ma) → va_S A s.heap H locs → lv_has ls 3 [(0, .ref h0), (1, .int (sp_sum bf i)), (2, .int (nI i))] → W p l e (rmL 8 0 0) s m ([.ref h0] : List Value).toArray below meth c H locs 0 0 (MQ below (qcI D A (sp_sum bf 64) (wC h0 a0 a1 a2 a3 a4 a5 cI cZ bf pw hs lo lg rt nb (nI fi) (nI fo) (nI en) on cu ma)) ([.ref h0] : List Value).toArray s 0 0 A) (F0 m 4 ls []) := by
    intro n9
    induction n9 with
    | zero =>
      intro i hi H locs ls hP hD hS hl
      obtain rfl : i = 64 := by omega
      refine lv_iload_n hx hb dX0_sum_4 rfl (lv_at hl 2 rfl) ?_
      refine lv_bipush (v := (nI 64)) hx hb dX0_sum_5 (by decide) ?_
      refine n_ge (tgt := 29) hx hb (by omega) (by omega) dX0_sum_7 (by decide) (fun c_7 => ?_) (fun c_7 => absurd c_7 (by omega))
      refine lv_iload_n hx hb dX0_sum_29 rfl (lv_at hl 1 rfl) ?_
      exact e_I hx hb hr hlocks hP hD hS rfl dX0_sum_30
    | succ n9 ih =>
      intro i hi H locs ls hP hD hS hl
      refine lv_iload_n hx hb dX0_sum_4 rfl (lv_at hl 2 rfl) ?_
      refine lv_bipush (v := (nI 64)) hx hb dX0_sum_5 (by decide) ?_
      refine n_ge (tgt := 29) hx hb (by omega) (by omega) dX0_sum_7 (by decide) (fun c_7 => absurd c_7 (by omega)) (fun c_7 => ?_)
      refine lv_iload_n hx hb dX0_sum_10 rfl (lv_at hl 1 rfl) ?_
      refine lv_aload_n hx hb dX0_sum_11 rfl (lv_at hl 0 rfl) ?_
      refine va_get (ci := 0) (v := .ref a0) (C := RX0) (T := TX0) (N := 13) hx hb hts inX0_sum hown hK hP 0 rfl rfl 0 (by decide) (hts _ flX0_sum_9) (fun _ h9 => h9) rfl dX0_sum_12 ?_
      refine lv_iload_n hx hb dX0_sum_15 rfl (lv_at hl 2 rfl) ?_
      refine n_iald hx hb hK hP 1 0 rfl rfl i (by omega) (by omega) dX0_sum_16 ?_
      refine lv_iload_n hx hb dX0_sum_17 rfl (lv_at hl 2 rfl) ?_
      refine lv_iconst (v := (nI 1)) hx hb dX0_sum_18 (by decide) ?_
      refine n_iadd hx hb dX0_sum_19 ?_
      refine lv_imul hx hb dX0_sum_20 ?_
      refine lv_iadd hx hb dX0_sum_21 ?_
      refine lv_istore_n (lv' := [(1, .int ((sp_sum bf i) + ((bf i) * (nI (i + 1))))), (0, .ref h0), (2, .int (nI i))]) hx hb dX0_sum_22 rfl hl (by decide) rfl (fun ls hl => ?_)
      refine n_iinc (lv' := [(2, .int (nI (i + 1))), (1, .int ((sp_sum bf i) + ((bf i) * (nI (i + 1))))), (0, .ref h0)]) hx hb dX0_sum_23 hl (k := 2) rfl (by decide) rfl (fun ls hl => ?_)
      refine lv_goto (tgt := 4) hx hb dX0_sum_26 (by decide) ?_
      have hP : va_P D vwCl (wC h0 a0 a1 a2 a3 a4 a5 cI cZ bf pw hs lo lg rt nb (nI fi) (nI fo) (nI en) on cu ma) H := by skip; exact hP
      have hD : va_D A (wC h0 a0 a1 a2 a3 a4 a5 cI cZ bf pw hs lo lg rt nb (nI fi) (nI fo) (nI en) on cu ma) := by skip; exact hD
      exact ih (i + 1) (by omega) _ _ _ hP hD hS (lv_sub hl [2, 1, 0] rfl)
  have hP : va_P D vwCl (wC h0 a0 a1 a2 a3 a4 a5 cI cZ bf pw hs lo lg rt nb (nI fi) (nI fo) (nI en) on cu ma) s.heap := by skip; exact hP
  have hD : va_D A (wC h0 a0 a1 a2 a3 a4 a5 cI cZ bf pw hs lo lg rt nb (nI fi) (nI fo) (nI en) on cu ma) := by skip; exact hD
  exact lp_4 64 0 (by omega) _ _ _ hP hD hS (lv_sub hl [2, 1, 0] rfl)
set_option maxHeartbeats 4000000 in
set_option maxRecDepth 100000 in
theorem tX0_write_xb {l : Launch} {D : va_G} {cI cZ : ClassId} {h0 a0 a1 a2 a3 a4 a5 : Nat} (hl0 : l.stackTraces = false) (bf pw hs lo lg rt : Nat → Int32) (nb : Int32) (fi fo en : Nat) (cu ma : Int32) (x y : Int32) (h : badP x y) : RX l yX0_write wsX0_write 8 D (tyC cI cZ) (wC h0 a0 a1 a2 a3 a4 a5 cI cZ bf pw hs lo lg rt nb (nI fi) (nI fo) (nI en) 1 cu ma) [.ref h0, .int x, .int y] xIOB := by
  refine st_X (cc := cX0_write) (maxL := 3) (ret := (some .int)) (by decide +kernel) rfl (Nat.le_of_ble_eq_true rfl) ?_
  intro p e s m below meth c A hx hb hr hts hown hml hlocks hK hP hD hA hS ls hl hT hex
  have hown : s.vm.findClass RX0 = some m.cls := hown
  have hl : lv_has ls 3 [(0, .ref h0), (1, .int x), (2, .int y)] := hl
  refine lv_aload_n hx hb dX0_write_0 rfl (lv_at hl 0 rfl) ?_
  refine k_V (wr := []) hP hD hS hA (va_runV (As := []) (rest := []) ⟨hx, hb, hml, hown, hts⟩ ((tX0_needPower_ok bf pw hs lo lg rt nb fi fo en cu ma) _) (cwV 0 hts gX0_write_X0_needPower rfl rfl rfl (by decide +kernel) ⟨Nat.le_of_ble_eq_true rfl, Nat.le_of_ble_eq_true rfl⟩) (pV_B hP hD hK (ci := 0) (q0 := 0) rfl rfl rfl [0, 1] rfl [0, 1, 2, 3, 4, 5, 6] rfl rfl) rfl rfl hl.1 rfl (lv_room (Nat.le_of_ble_eq_true rfl)) dX0_write_1 ⟨Nat.le_of_ble_eq_true rfl, Nat.le_of_ble_eq_true rfl⟩) [0, 1, 2, 3, 4, 5, 6] [] rfl rfl rfl (by decide) (fun H locs hP hD hS => ?_)
  have hP : va_P D vwCl (wC h0 a0 a1 a2 a3 a4 a5 cI cZ bf pw hs lo lg rt nb (nI fi) (nI fo) (nI en) 1 cu ma) H := hP
  have hD : va_D A (wC h0 a0 a1 a2 a3 a4 a5 cI cZ bf pw hs lo lg rt nb (nI fi) (nI fo) (nI en) 1 cu ma) := hD
  refine lv_aload_n hx hb dX0_write_4 rfl (lv_at hl 0 rfl) ?_
  refine lv_iload_n hx hb dX0_write_5 rfl (lv_at hl 1 rfl) ?_
  refine lv_iload_n hx hb dX0_write_6 rfl (lv_at hl 2 rfl) ?_
  rcases h with h | ⟨ar, h1, rfl, h⟩
  · exact k_XX hlocks hex (Nat.le_of_ble_eq_true rfl) (Nat.le_of_ble_eq_true rfl) (wr := []) hP hD hS hA (vx_runV (As := [.int x, .int y]) (rest := []) ⟨hx, hb, hml, hown, hts⟩ ((tX0_needPage_x1 hl0 bf pw hs lo lg rt nb fi fo en 1 cu ma x y h) _) (cwV 2 hts gX0_write_X0_needPage rfl rfl rfl (by decide +kernel) ⟨Nat.le_of_ble_eq_true rfl, Nat.le_of_ble_eq_true rfl⟩) (pV_X hP hD hK hS hA hT (ci := 0) (q0 := 0) rfl rfl rfl [0, 1] rfl [0, 1, 2, 3, 4, 5, 6] rfl rfl) rfl rfl hl.1 rfl (lv_room (Nat.le_of_ble_eq_true rfl)) dX0_write_7 ⟨Nat.le_of_ble_eq_true rfl, Nat.le_of_ble_eq_true rfl⟩) [0, 1, 2, 3, 4, 5, 6] [] rfl rfl rfl (by decide)
  · exact k_XX hlocks hex (Nat.le_of_ble_eq_true rfl) (Nat.le_of_ble_eq_true rfl) (wr := []) hP hD hS hA (vx_runV (As := [.int (nI ar), .int y]) (rest := []) ⟨hx, hb, hml, hown, hts⟩ ((tX0_needPage_x2 hl0 bf pw hs lo lg rt nb fi fo en 1 cu ma ar y h1 h) _) (cwV 2 hts gX0_write_X0_needPage rfl rfl rfl (by decide +kernel) ⟨Nat.le_of_ble_eq_true rfl, Nat.le_of_ble_eq_true rfl⟩) (pV_X hP hD hK hS hA hT (ci := 0) (q0 := 0) rfl rfl rfl [0, 1] rfl [0, 1, 2, 3, 4, 5, 6] rfl rfl) rfl rfl hl.1 rfl (lv_room (Nat.le_of_ble_eq_true rfl)) dX0_write_7 ⟨Nat.le_of_ble_eq_true rfl, Nat.le_of_ble_eq_true rfl⟩) [0, 1, 2, 3, 4, 5, 6] [] rfl rfl rfl (by decide)
set_option maxHeartbeats 4000000 in
set_option maxRecDepth 100000 in
theorem tX0_read_xb {l : Launch} {D : va_G} {cI cZ : ClassId} {h0 a0 a1 a2 a3 a4 a5 : Nat} (hl0 : l.stackTraces = false) (bf pw hs lo lg rt : Nat → Int32) (nb : Int32) (fi fo en : Nat) (cu ma : Int32) (x y : Int32) (h : badP x y) : RX l yX0_read wsX0_read 8 D (tyC cI cZ) (wC h0 a0 a1 a2 a3 a4 a5 cI cZ bf pw hs lo lg rt nb (nI fi) (nI fo) (nI en) 1 cu ma) [.ref h0, .int x, .int y] xIOB := by
  refine st_X (cc := cX0_read) (maxL := 5) (ret := (some .int)) (by decide +kernel) rfl (Nat.le_of_ble_eq_true rfl) ?_
  intro p e s m below meth c A hx hb hr hts hown hml hlocks hK hP hD hA hS ls hl hT hex
  have hown : s.vm.findClass RX0 = some m.cls := hown
  have hl : lv_has ls 5 [(0, .ref h0), (1, .int x), (2, .int y)] := hl
  refine lv_aload_n hx hb dX0_read_0 rfl (lv_at hl 0 rfl) ?_
  refine k_V (wr := []) hP hD hS hA (va_runV (As := []) (rest := []) ⟨hx, hb, hml, hown, hts⟩ ((tX0_needPower_ok bf pw hs lo lg rt nb fi fo en cu ma) _) (cwV 0 hts gX0_read_X0_needPower rfl rfl rfl (by decide +kernel) ⟨Nat.le_of_ble_eq_true rfl, Nat.le_of_ble_eq_true rfl⟩) (pV_B hP hD hK (ci := 0) (q0 := 0) rfl rfl rfl [0, 1] rfl [0, 1, 2, 3, 4, 5, 6] rfl rfl) rfl rfl hl.1 rfl (lv_room (Nat.le_of_ble_eq_true rfl)) dX0_read_1 ⟨Nat.le_of_ble_eq_true rfl, Nat.le_of_ble_eq_true rfl⟩) [0, 1, 2, 3, 4, 5, 6] [] rfl rfl rfl (by decide) (fun H locs hP hD hS => ?_)
  have hP : va_P D vwCl (wC h0 a0 a1 a2 a3 a4 a5 cI cZ bf pw hs lo lg rt nb (nI fi) (nI fo) (nI en) 1 cu ma) H := hP
  have hD : va_D A (wC h0 a0 a1 a2 a3 a4 a5 cI cZ bf pw hs lo lg rt nb (nI fi) (nI fo) (nI en) 1 cu ma) := hD
  refine lv_aload_n hx hb dX0_read_4 rfl (lv_at hl 0 rfl) ?_
  refine lv_iload_n hx hb dX0_read_5 rfl (lv_at hl 1 rfl) ?_
  refine lv_iload_n hx hb dX0_read_6 rfl (lv_at hl 2 rfl) ?_
  rcases h with h | ⟨ar, h1, rfl, h⟩
  · exact k_XX hlocks hex (Nat.le_of_ble_eq_true rfl) (Nat.le_of_ble_eq_true rfl) (wr := []) hP hD hS hA (vx_runV (As := [.int x, .int y]) (rest := []) ⟨hx, hb, hml, hown, hts⟩ ((tX0_needPage_x1 hl0 bf pw hs lo lg rt nb fi fo en 1 cu ma x y h) _) (cwV 2 hts gX0_read_X0_needPage rfl rfl rfl (by decide +kernel) ⟨Nat.le_of_ble_eq_true rfl, Nat.le_of_ble_eq_true rfl⟩) (pV_X hP hD hK hS hA hT (ci := 0) (q0 := 0) rfl rfl rfl [0, 1] rfl [0, 1, 2, 3, 4, 5, 6] rfl rfl) rfl rfl hl.1 rfl (lv_room (Nat.le_of_ble_eq_true rfl)) dX0_read_7 ⟨Nat.le_of_ble_eq_true rfl, Nat.le_of_ble_eq_true rfl⟩) [0, 1, 2, 3, 4, 5, 6] [] rfl rfl rfl (by decide)
  · exact k_XX hlocks hex (Nat.le_of_ble_eq_true rfl) (Nat.le_of_ble_eq_true rfl) (wr := []) hP hD hS hA (vx_runV (As := [.int (nI ar), .int y]) (rest := []) ⟨hx, hb, hml, hown, hts⟩ ((tX0_needPage_x2 hl0 bf pw hs lo lg rt nb fi fo en 1 cu ma ar y h1 h) _) (cwV 2 hts gX0_read_X0_needPage rfl rfl rfl (by decide +kernel) ⟨Nat.le_of_ble_eq_true rfl, Nat.le_of_ble_eq_true rfl⟩) (pV_X hP hD hK hS hA hT (ci := 0) (q0 := 0) rfl rfl rfl [0, 1] rfl [0, 1, 2, 3, 4, 5, 6] rfl rfl) rfl rfl hl.1 rfl (lv_room (Nat.le_of_ble_eq_true rfl)) dX0_read_7 ⟨Nat.le_of_ble_eq_true rfl, Nat.le_of_ble_eq_true rfl⟩) [0, 1, 2, 3, 4, 5, 6] [] rfl rfl rfl (by decide)
set_option maxHeartbeats 4000000 in
set_option maxRecDepth 100000 in
theorem tX0_copy_xb {l : Launch} {D : va_G} {cI cZ : ClassId} {h0 a0 a1 a2 a3 a4 a5 : Nat} (hl0 : l.stackTraces = false) (bf pw hs lo lg rt : Nat → Int32) (nb : Int32) (fi fo en : Nat) (cu ma : Int32) (x y : Int32) (h : badP x y) : RX l yX0_copy wsX0_copy 8 D (tyC cI cZ) (wC h0 a0 a1 a2 a3 a4 a5 cI cZ bf pw hs lo lg rt nb (nI fi) (nI fo) (nI en) 1 cu ma) [.ref h0, .int x, .int y] xIOB := by
  refine st_X (cc := cX0_copy) (maxL := 4) (ret := (some .int)) (by decide +kernel) rfl (Nat.le_of_ble_eq_true rfl) ?_
  intro p e s m below meth c A hx hb hr hts hown hml hlocks hK hP hD hA hS ls hl hT hex
  have hown : s.vm.findClass RX0 = some m.cls := hown
  have hl : lv_has ls 4 [(0, .ref h0), (1, .int x), (2, .int y)] := hl
  refine lv_aload_n hx hb dX0_copy_0 rfl (lv_at hl 0 rfl) ?_
  refine k_V (wr := []) hP hD hS hA (va_runV (As := []) (rest := []) ⟨hx, hb, hml, hown, hts⟩ ((tX0_needPower_ok bf pw hs lo lg rt nb fi fo en cu ma) _) (cwV 0 hts gX0_copy_X0_needPower rfl rfl rfl (by decide +kernel) ⟨Nat.le_of_ble_eq_true rfl, Nat.le_of_ble_eq_true rfl⟩) (pV_B hP hD hK (ci := 0) (q0 := 0) rfl rfl rfl [0, 1] rfl [0, 1, 2, 3, 4, 5, 6] rfl rfl) rfl rfl hl.1 rfl (lv_room (Nat.le_of_ble_eq_true rfl)) dX0_copy_1 ⟨Nat.le_of_ble_eq_true rfl, Nat.le_of_ble_eq_true rfl⟩) [0, 1, 2, 3, 4, 5, 6] [] rfl rfl rfl (by decide) (fun H locs hP hD hS => ?_)
  have hP : va_P D vwCl (wC h0 a0 a1 a2 a3 a4 a5 cI cZ bf pw hs lo lg rt nb (nI fi) (nI fo) (nI en) 1 cu ma) H := hP
  have hD : va_D A (wC h0 a0 a1 a2 a3 a4 a5 cI cZ bf pw hs lo lg rt nb (nI fi) (nI fo) (nI en) 1 cu ma) := hD
  refine lv_aload_n hx hb dX0_copy_4 rfl (lv_at hl 0 rfl) ?_
  refine lv_iload_n hx hb dX0_copy_5 rfl (lv_at hl 1 rfl) ?_
  refine lv_iload_n hx hb dX0_copy_6 rfl (lv_at hl 2 rfl) ?_
  rcases h with h | ⟨ar, h1, rfl, h⟩
  · exact k_XX hlocks hex (Nat.le_of_ble_eq_true rfl) (Nat.le_of_ble_eq_true rfl) (wr := []) hP hD hS hA (vx_runV (As := [.int x, .int y]) (rest := []) ⟨hx, hb, hml, hown, hts⟩ ((tX0_needPage_x1 hl0 bf pw hs lo lg rt nb fi fo en 1 cu ma x y h) _) (cwV 2 hts gX0_copy_X0_needPage rfl rfl rfl (by decide +kernel) ⟨Nat.le_of_ble_eq_true rfl, Nat.le_of_ble_eq_true rfl⟩) (pV_X hP hD hK hS hA hT (ci := 0) (q0 := 0) rfl rfl rfl [0, 1] rfl [0, 1, 2, 3, 4, 5, 6] rfl rfl) rfl rfl hl.1 rfl (lv_room (Nat.le_of_ble_eq_true rfl)) dX0_copy_7 ⟨Nat.le_of_ble_eq_true rfl, Nat.le_of_ble_eq_true rfl⟩) [0, 1, 2, 3, 4, 5, 6] [] rfl rfl rfl (by decide)
  · exact k_XX hlocks hex (Nat.le_of_ble_eq_true rfl) (Nat.le_of_ble_eq_true rfl) (wr := []) hP hD hS hA (vx_runV (As := [.int (nI ar), .int y]) (rest := []) ⟨hx, hb, hml, hown, hts⟩ ((tX0_needPage_x2 hl0 bf pw hs lo lg rt nb fi fo en 1 cu ma ar y h1 h) _) (cwV 2 hts gX0_copy_X0_needPage rfl rfl rfl (by decide +kernel) ⟨Nat.le_of_ble_eq_true rfl, Nat.le_of_ble_eq_true rfl⟩) (pV_X hP hD hK hS hA hT (ci := 0) (q0 := 0) rfl rfl rfl [0, 1] rfl [0, 1, 2, 3, 4, 5, 6] rfl rfl) rfl rfl hl.1 rfl (lv_room (Nat.le_of_ble_eq_true rfl)) dX0_copy_7 ⟨Nat.le_of_ble_eq_true rfl, Nat.le_of_ble_eq_true rfl⟩) [0, 1, 2, 3, 4, 5, 6] [] rfl rfl rfl (by decide)
set_option maxHeartbeats 4000000 in
set_option maxRecDepth 100000 in
theorem tX0_lose_xb {l : Launch} {D : va_G} {cI cZ : ClassId} {h0 a0 a1 a2 a3 a4 a5 : Nat} (hl0 : l.stackTraces = false) (bf pw hs lo lg rt : Nat → Int32) (nb : Int32) (fi fo en : Nat) (on cu ma : Int32) (x y : Int32) (h : badP x y) : RX l yX0_lose wsX0_lose 8 D (tyC cI cZ) (wC h0 a0 a1 a2 a3 a4 a5 cI cZ bf pw hs lo lg rt nb (nI fi) (nI fo) (nI en) on cu ma) [.ref h0, .int x, .int y] xIOB := by
  refine st_X (cc := cX0_lose) (maxL := 3) (ret := none) (by decide +kernel) rfl (Nat.le_of_ble_eq_true rfl) ?_
  intro p e s m below meth c A hx hb hr hts hown hml hlocks hK hP hD hA hS ls hl hT hex
  have hown : s.vm.findClass RX0 = some m.cls := hown
  have hl : lv_has ls 3 [(0, .ref h0), (1, .int x), (2, .int y)] := hl
  refine lv_aload_n hx hb dX0_lose_0 rfl (lv_at hl 0 rfl) ?_
  refine lv_iload_n hx hb dX0_lose_1 rfl (lv_at hl 1 rfl) ?_
  refine lv_iload_n hx hb dX0_lose_2 rfl (lv_at hl 2 rfl) ?_
  rcases h with h | ⟨ar, h1, rfl, h⟩
  · exact k_XX hlocks hex (Nat.le_of_ble_eq_true rfl) (Nat.le_of_ble_eq_true rfl) (wr := []) hP hD hS hA (vx_runV (As := [.int x, .int y]) (rest := []) ⟨hx, hb, hml, hown, hts⟩ ((tX0_needPage_x1 hl0 bf pw hs lo lg rt nb fi fo en on cu ma x y h) _) (cwV 2 hts gX0_lose_X0_needPage rfl rfl rfl (by decide +kernel) ⟨Nat.le_of_ble_eq_true rfl, Nat.le_of_ble_eq_true rfl⟩) (pV_X hP hD hK hS hA hT (ci := 0) (q0 := 0) rfl rfl rfl [0, 1] rfl [0, 1, 2, 3, 4, 5, 6] rfl rfl) rfl rfl hl.1 rfl (lv_room (Nat.le_of_ble_eq_true rfl)) dX0_lose_3 ⟨Nat.le_of_ble_eq_true rfl, Nat.le_of_ble_eq_true rfl⟩) [0, 1, 2, 3, 4, 5, 6] [] rfl rfl rfl (by decide)
  · exact k_XX hlocks hex (Nat.le_of_ble_eq_true rfl) (Nat.le_of_ble_eq_true rfl) (wr := []) hP hD hS hA (vx_runV (As := [.int (nI ar), .int y]) (rest := []) ⟨hx, hb, hml, hown, hts⟩ ((tX0_needPage_x2 hl0 bf pw hs lo lg rt nb fi fo en on cu ma ar y h1 h) _) (cwV 2 hts gX0_lose_X0_needPage rfl rfl rfl (by decide +kernel) ⟨Nat.le_of_ble_eq_true rfl, Nat.le_of_ble_eq_true rfl⟩) (pV_X hP hD hK hS hA hT (ci := 0) (q0 := 0) rfl rfl rfl [0, 1] rfl [0, 1, 2, 3, 4, 5, 6] rfl rfl) rfl rfl hl.1 rfl (lv_room (Nat.le_of_ble_eq_true rfl)) dX0_lose_3 ⟨Nat.le_of_ble_eq_true rfl, Nat.le_of_ble_eq_true rfl⟩) [0, 1, 2, 3, 4, 5, 6] [] rfl rfl rfl (by decide)
set_option maxHeartbeats 4000000 in
set_option maxRecDepth 100000 in
theorem tX0_write_ok0 {l : Launch} {D : va_G} {cI cZ : ClassId} {h0 a0 a1 a2 a3 a4 a5 : Nat} (bf pw hs lo lg rt : Nat → Int32) (nb : Int32) (fi fo en : Nat) (cu ma : Int32) (ar pg : Nat) (h1 : ar < 2) (h2 : pg < 256) (h : cu = 0) : RI l yX0_write wsX0_write 8 0 0 D (tyC cI cZ) (wC h0 a0 a1 a2 a3 a4 a5 cI cZ bf pw hs lo lg rt nb (nI fi) (nI fo) (nI en) 1 cu ma) [.ref h0, .int (nI ar), .int (nI pg)] (-1) (wC h0 a0 a1 a2 a3 a4 a5 cI cZ (zf bf) pw hs lo lg rt (nb + 1) (nI fi) (nI fo) (nI fo) 0 cu ma) := by
  refine st_I (cc := cX0_write) (maxL := 3) (ret := (some .int)) (by decide +kernel) rfl (Nat.le_of_ble_eq_true rfl) ?_
  intro p e s m below meth c A hx hb hr hts hown hml hlocks hK hP hD hA hS ls hl
  have hown : s.vm.findClass RX0 = some m.cls := hown
  have hl : lv_has ls 3 [(0, .ref h0), (1, .int (nI ar)), (2, .int (nI pg))] := hl
  refine lv_aload_n hx hb dX0_write_0 rfl (lv_at hl 0 rfl) ?_
  refine k_V (wr := []) hP hD hS hA (va_runV (As := []) (rest := []) ⟨hx, hb, hml, hown, hts⟩ ((tX0_needPower_ok bf pw hs lo lg rt nb fi fo en cu ma) _) (cwV 0 hts gX0_write_X0_needPower rfl rfl rfl (by decide +kernel) ⟨Nat.le_of_ble_eq_true rfl, Nat.le_of_ble_eq_true rfl⟩) (pV_B hP hD hK (ci := 0) (q0 := 0) rfl rfl rfl [0, 1] rfl [0, 1, 2, 3, 4, 5, 6] rfl rfl) rfl rfl hl.1 rfl (lv_room (Nat.le_of_ble_eq_true rfl)) dX0_write_1 ⟨Nat.le_of_ble_eq_true rfl, Nat.le_of_ble_eq_true rfl⟩) [0, 1, 2, 3, 4, 5, 6] [] rfl rfl rfl (by decide) (fun H locs hP hD hS => ?_)
  have hP : va_P D vwCl (wC h0 a0 a1 a2 a3 a4 a5 cI cZ bf pw hs lo lg rt nb (nI fi) (nI fo) (nI en) 1 cu ma) H := hP
  have hD : va_D A (wC h0 a0 a1 a2 a3 a4 a5 cI cZ bf pw hs lo lg rt nb (nI fi) (nI fo) (nI en) 1 cu ma) := hD
  refine lv_aload_n hx hb dX0_write_4 rfl (lv_at hl 0 rfl) ?_
  refine lv_iload_n hx hb dX0_write_5 rfl (lv_at hl 1 rfl) ?_
  refine lv_iload_n hx hb dX0_write_6 rfl (lv_at hl 2 rfl) ?_
  refine k_V (wr := []) hP hD hS hA (va_runV (As := [.int (nI ar), .int (nI pg)]) (rest := []) ⟨hx, hb, hml, hown, hts⟩ ((tX0_needPage_ok bf pw hs lo lg rt nb fi fo en 1 cu ma ar pg (by omega) (by omega)) _) (cwV 2 hts gX0_write_X0_needPage rfl rfl rfl (by decide +kernel) ⟨Nat.le_of_ble_eq_true rfl, Nat.le_of_ble_eq_true rfl⟩) (pV_B hP hD hK (ci := 0) (q0 := 0) rfl rfl rfl [0, 1] rfl [0, 1, 2, 3, 4, 5, 6] rfl rfl) rfl rfl hl.1 rfl (lv_room (Nat.le_of_ble_eq_true rfl)) dX0_write_7 ⟨Nat.le_of_ble_eq_true rfl, Nat.le_of_ble_eq_true rfl⟩) [0, 1, 2, 3, 4, 5, 6] [] rfl rfl rfl (by decide) (fun H locs hP hD hS => ?_)
  have hP : va_P D vwCl (wC h0 a0 a1 a2 a3 a4 a5 cI cZ bf pw hs lo lg rt nb (nI fi) (nI fo) (nI en) 1 cu ma) H := hP
  have hD : va_D A (wC h0 a0 a1 a2 a3 a4 a5 cI cZ bf pw hs lo lg rt nb (nI fi) (nI fo) (nI en) 1 cu ma) := hD
  refine lv_aload_n hx hb dX0_write_10 rfl (lv_at hl 0 rfl) ?_
  refine lv_iload_n hx hb dX0_write_11 rfl (lv_at hl 1 rfl) ?_
  refine lv_iload_n hx hb dX0_write_12 rfl (lv_at hl 2 rfl) ?_
  refine k_I (wr := wC h0 a0 a1 a2 a3 a4 a5 cI cZ bf pw hs lo lg rt nb (nI fi) (nI fo) (nI en) 1 cu ma) hP hD hS hA (va_runS (As := [.int (nI ar), .int (nI pg)]) (rest := [.ref h0]) ⟨hx, hb, hml, hown, hts⟩ ((tX0_pageIndex ar pg) _) (va_cwS 2 hts gX0_write_X0_pageIndex rfl rfl rfl (by decide +kernel) ⟨Nat.le_of_ble_eq_true rfl, Nat.le_of_ble_eq_true rfl⟩) (pS_B hP hD hK [] rfl [] rfl rfl) rfl rfl hl.1 rfl (lv_room (Nat.le_of_ble_eq_true rfl)) dX0_write_13 ⟨Nat.le_of_ble_eq_true rfl, Nat.le_of_ble_eq_true rfl⟩) [] [0, 1, 2, 3, 4, 5, 6] rfl rfl rfl (by decide) (fun H locs hP hD hS => ?_)
  have hP : va_P D vwCl (wC h0 a0 a1 a2 a3 a4 a5 cI cZ bf pw hs lo lg rt nb (nI fi) (nI fo) (nI en) 1 cu ma) H := hP
  have hD : va_D A (wC h0 a0 a1 a2 a3 a4 a5 cI cZ bf pw hs lo lg rt nb (nI fi) (nI fo) (nI en) 1 cu ma) := hD
  refine lv_aload_n hx hb dX0_write_16 rfl (lv_at hl 0 rfl) ?_
  refine va_get (ci := 0) (v := .ref a0) (C := RX0) (T := TX0) (N := 13) hx hb hts inX0_write hown hK hP 0 rfl rfl 0 (by decide) (hts _ flX0_write_9) (fun _ h9 => h9) rfl dX0_write_17 ?_
  refine lv_iconst (v := (nI 0)) hx hb dX0_write_20 (by decide) ?_
  refine k_I (wr := []) hP hD hS hA (va_runV (As := [.int (nI (ar * 256 + pg)), .ref a0, .int (nI 0)]) (rest := []) ⟨hx, hb, hml, hown, hts⟩ ((tX0_writePage_b0 bf pw hs lo lg rt nb fi fo en 1 cu ma (ar * 256 + pg) (by omega) h) _) (cwV 3 hts gX0_write_X0_writePage rfl rfl rfl (by decide +kernel) ⟨Nat.le_of_ble_eq_true rfl, Nat.le_of_ble_eq_true rfl⟩) (pV_B hP hD hK (ci := 0) (q0 := 0) rfl rfl rfl [0, 1] rfl [0, 1, 2, 3, 4, 5, 6] rfl rfl) rfl rfl hl.1 rfl (lv_room (Nat.le_of_ble_eq_true rfl)) dX0_write_21 ⟨Nat.le_of_ble_eq_true rfl, Nat.le_of_ble_eq_true rfl⟩) [0, 1, 2, 3, 4, 5, 6] [] rfl rfl rfl (by decide) (fun H locs hP hD hS => ?_)
  have hP : va_P D vwCl (wC h0 a0 a1 a2 a3 a4 a5 cI cZ (zf bf) pw hs lo lg rt (nb + 1) (nI fi) (nI fo) (nI fo) 0 cu ma) H := hP
  have hD : va_D A (wC h0 a0 a1 a2 a3 a4 a5 cI cZ (zf bf) pw hs lo lg rt (nb + 1) (nI fi) (nI fo) (nI fo) 0 cu ma) := hD
  exact e_I hx hb hr hlocks hP hD hS rfl dX0_write_24
set_option maxHeartbeats 4000000 in
set_option maxRecDepth 100000 in
theorem tX0_write_ok1 {l : Launch} {D : va_G} {cI cZ : ClassId} {h0 a0 a1 a2 a3 a4 a5 : Nat} (bf pw hs lo lg rt : Nat → Int32) (nb : Int32) (fi fo en : Nat) (cu ma : Int32) (ar pg : Nat) (h1 : ar < 2) (h2 : pg < 256) (h : ¬ cu = 0) (hd : dcu cu = 0) : RI l yX0_write wsX0_write 8 0 0 D (tyC cI cZ) (wC h0 a0 a1 a2 a3 a4 a5 cI cZ bf pw hs lo lg rt nb (nI fi) (nI fo) (nI en) 1 cu ma) [.ref h0, .int (nI ar), .int (nI pg)] (-1) (wC h0 a0 a1 a2 a3 a4 a5 cI cZ (zf bf) (va_cpy bf pw 0 ((ar * 256 + pg) * 64) 32) (upd hs ((ar * 256 + pg) * 2) (nb + 1)) lo lg rt (nb + 1) (nI fi) (nI fo) (nI fo) 0 (dcu cu) (ma + 1)) := by
  refine st_I (cc := cX0_write) (maxL := 3) (ret := (some .int)) (by decide +kernel) rfl (Nat.le_of_ble_eq_true rfl) ?_
  intro p e s m below meth c A hx hb hr hts hown hml hlocks hK hP hD hA hS ls hl
  have hown : s.vm.findClass RX0 = some m.cls := hown
  have hl : lv_has ls 3 [(0, .ref h0), (1, .int (nI ar)), (2, .int (nI pg))] := hl
  refine lv_aload_n hx hb dX0_write_0 rfl (lv_at hl 0 rfl) ?_
  refine k_V (wr := []) hP hD hS hA (va_runV (As := []) (rest := []) ⟨hx, hb, hml, hown, hts⟩ ((tX0_needPower_ok bf pw hs lo lg rt nb fi fo en cu ma) _) (cwV 0 hts gX0_write_X0_needPower rfl rfl rfl (by decide +kernel) ⟨Nat.le_of_ble_eq_true rfl, Nat.le_of_ble_eq_true rfl⟩) (pV_B hP hD hK (ci := 0) (q0 := 0) rfl rfl rfl [0, 1] rfl [0, 1, 2, 3, 4, 5, 6] rfl rfl) rfl rfl hl.1 rfl (lv_room (Nat.le_of_ble_eq_true rfl)) dX0_write_1 ⟨Nat.le_of_ble_eq_true rfl, Nat.le_of_ble_eq_true rfl⟩) [0, 1, 2, 3, 4, 5, 6] [] rfl rfl rfl (by decide) (fun H locs hP hD hS => ?_)
  have hP : va_P D vwCl (wC h0 a0 a1 a2 a3 a4 a5 cI cZ bf pw hs lo lg rt nb (nI fi) (nI fo) (nI en) 1 cu ma) H := hP
  have hD : va_D A (wC h0 a0 a1 a2 a3 a4 a5 cI cZ bf pw hs lo lg rt nb (nI fi) (nI fo) (nI en) 1 cu ma) := hD
  refine lv_aload_n hx hb dX0_write_4 rfl (lv_at hl 0 rfl) ?_
  refine lv_iload_n hx hb dX0_write_5 rfl (lv_at hl 1 rfl) ?_
  refine lv_iload_n hx hb dX0_write_6 rfl (lv_at hl 2 rfl) ?_
  refine k_V (wr := []) hP hD hS hA (va_runV (As := [.int (nI ar), .int (nI pg)]) (rest := []) ⟨hx, hb, hml, hown, hts⟩ ((tX0_needPage_ok bf pw hs lo lg rt nb fi fo en 1 cu ma ar pg (by omega) (by omega)) _) (cwV 2 hts gX0_write_X0_needPage rfl rfl rfl (by decide +kernel) ⟨Nat.le_of_ble_eq_true rfl, Nat.le_of_ble_eq_true rfl⟩) (pV_B hP hD hK (ci := 0) (q0 := 0) rfl rfl rfl [0, 1] rfl [0, 1, 2, 3, 4, 5, 6] rfl rfl) rfl rfl hl.1 rfl (lv_room (Nat.le_of_ble_eq_true rfl)) dX0_write_7 ⟨Nat.le_of_ble_eq_true rfl, Nat.le_of_ble_eq_true rfl⟩) [0, 1, 2, 3, 4, 5, 6] [] rfl rfl rfl (by decide) (fun H locs hP hD hS => ?_)
  have hP : va_P D vwCl (wC h0 a0 a1 a2 a3 a4 a5 cI cZ bf pw hs lo lg rt nb (nI fi) (nI fo) (nI en) 1 cu ma) H := hP
  have hD : va_D A (wC h0 a0 a1 a2 a3 a4 a5 cI cZ bf pw hs lo lg rt nb (nI fi) (nI fo) (nI en) 1 cu ma) := hD
  refine lv_aload_n hx hb dX0_write_10 rfl (lv_at hl 0 rfl) ?_
  refine lv_iload_n hx hb dX0_write_11 rfl (lv_at hl 1 rfl) ?_
  refine lv_iload_n hx hb dX0_write_12 rfl (lv_at hl 2 rfl) ?_
  refine k_I (wr := wC h0 a0 a1 a2 a3 a4 a5 cI cZ bf pw hs lo lg rt nb (nI fi) (nI fo) (nI en) 1 cu ma) hP hD hS hA (va_runS (As := [.int (nI ar), .int (nI pg)]) (rest := [.ref h0]) ⟨hx, hb, hml, hown, hts⟩ ((tX0_pageIndex ar pg) _) (va_cwS 2 hts gX0_write_X0_pageIndex rfl rfl rfl (by decide +kernel) ⟨Nat.le_of_ble_eq_true rfl, Nat.le_of_ble_eq_true rfl⟩) (pS_B hP hD hK [] rfl [] rfl rfl) rfl rfl hl.1 rfl (lv_room (Nat.le_of_ble_eq_true rfl)) dX0_write_13 ⟨Nat.le_of_ble_eq_true rfl, Nat.le_of_ble_eq_true rfl⟩) [] [0, 1, 2, 3, 4, 5, 6] rfl rfl rfl (by decide) (fun H locs hP hD hS => ?_)
  have hP : va_P D vwCl (wC h0 a0 a1 a2 a3 a4 a5 cI cZ bf pw hs lo lg rt nb (nI fi) (nI fo) (nI en) 1 cu ma) H := hP
  have hD : va_D A (wC h0 a0 a1 a2 a3 a4 a5 cI cZ bf pw hs lo lg rt nb (nI fi) (nI fo) (nI en) 1 cu ma) := hD
  refine lv_aload_n hx hb dX0_write_16 rfl (lv_at hl 0 rfl) ?_
  refine va_get (ci := 0) (v := .ref a0) (C := RX0) (T := TX0) (N := 13) hx hb hts inX0_write hown hK hP 0 rfl rfl 0 (by decide) (hts _ flX0_write_9) (fun _ h9 => h9) rfl dX0_write_17 ?_
  refine lv_iconst (v := (nI 0)) hx hb dX0_write_20 (by decide) ?_
  refine k_I (wr := []) hP hD hS hA (va_runV (As := [.int (nI (ar * 256 + pg)), .ref a0, .int (nI 0)]) (rest := []) ⟨hx, hb, hml, hown, hts⟩ ((tX0_writePage_b1 bf pw hs lo lg rt nb fi fo en 1 cu ma (ar * 256 + pg) (by omega) h hd) _) (cwV 3 hts gX0_write_X0_writePage rfl rfl rfl (by decide +kernel) ⟨Nat.le_of_ble_eq_true rfl, Nat.le_of_ble_eq_true rfl⟩) (pV_B hP hD hK (ci := 0) (q0 := 0) rfl rfl rfl [0, 1] rfl [0, 1, 2, 3, 4, 5, 6] rfl rfl) rfl rfl hl.1 rfl (lv_room (Nat.le_of_ble_eq_true rfl)) dX0_write_21 ⟨Nat.le_of_ble_eq_true rfl, Nat.le_of_ble_eq_true rfl⟩) [0, 1, 2, 3, 4, 5, 6] [] rfl rfl rfl (by decide) (fun H locs hP hD hS => ?_)
  have hP : va_P D vwCl (wC h0 a0 a1 a2 a3 a4 a5 cI cZ (zf bf) (va_cpy bf pw 0 ((ar * 256 + pg) * 64) 32) (upd hs ((ar * 256 + pg) * 2) (nb + 1)) lo lg rt (nb + 1) (nI fi) (nI fo) (nI fo) 0 (dcu cu) (ma + 1)) H := hP
  have hD : va_D A (wC h0 a0 a1 a2 a3 a4 a5 cI cZ (zf bf) (va_cpy bf pw 0 ((ar * 256 + pg) * 64) 32) (upd hs ((ar * 256 + pg) * 2) (nb + 1)) lo lg rt (nb + 1) (nI fi) (nI fo) (nI fo) 0 (dcu cu) (ma + 1)) := hD
  exact e_I hx hb hr hlocks hP hD hS rfl dX0_write_24
set_option maxHeartbeats 4000000 in
set_option maxRecDepth 100000 in
theorem tX0_write_ok2 {l : Launch} {D : va_G} {cI cZ : ClassId} {h0 a0 a1 a2 a3 a4 a5 : Nat} (bf pw hs lo lg rt : Nat → Int32) (nb : Int32) (fi fo en : Nat) (cu ma : Int32) (ar pg : Nat) (h1 : ar < 2) (h2 : pg < 256) (h : ¬ cu = 0) (hd : ¬ dcu cu = 0) : RI l yX0_write wsX0_write 8 0 0 D (tyC cI cZ) (wC h0 a0 a1 a2 a3 a4 a5 cI cZ bf pw hs lo lg rt nb (nI fi) (nI fo) (nI en) 1 cu ma) [.ref h0, .int (nI ar), .int (nI pg)] (nb + 1) (wC h0 a0 a1 a2 a3 a4 a5 cI cZ bf (va_cpy bf (va_cpy bf pw 0 ((ar * 256 + pg) * 64) 32) 32 ((ar * 256 + pg) * 64 + 32) 32) (upd (upd hs ((ar * 256 + pg) * 2) (nb + 1)) ((ar * 256 + pg) * 2 + 1) (nb + 1)) (upd lo (ar * 256 + pg) 0) lg rt (nb + 1) (nI fi) (nI fo) (nI en) 1 (dcu (dcu cu)) (ma + 1 + 1)) := by
  refine st_I (cc := cX0_write) (maxL := 3) (ret := (some .int)) (by decide +kernel) rfl (Nat.le_of_ble_eq_true rfl) ?_
  intro p e s m below meth c A hx hb hr hts hown hml hlocks hK hP hD hA hS ls hl
  have hown : s.vm.findClass RX0 = some m.cls := hown
  have hl : lv_has ls 3 [(0, .ref h0), (1, .int (nI ar)), (2, .int (nI pg))] := hl
  refine lv_aload_n hx hb dX0_write_0 rfl (lv_at hl 0 rfl) ?_
  refine k_V (wr := []) hP hD hS hA (va_runV (As := []) (rest := []) ⟨hx, hb, hml, hown, hts⟩ ((tX0_needPower_ok bf pw hs lo lg rt nb fi fo en cu ma) _) (cwV 0 hts gX0_write_X0_needPower rfl rfl rfl (by decide +kernel) ⟨Nat.le_of_ble_eq_true rfl, Nat.le_of_ble_eq_true rfl⟩) (pV_B hP hD hK (ci := 0) (q0 := 0) rfl rfl rfl [0, 1] rfl [0, 1, 2, 3, 4, 5, 6] rfl rfl) rfl rfl hl.1 rfl (lv_room (Nat.le_of_ble_eq_true rfl)) dX0_write_1 ⟨Nat.le_of_ble_eq_true rfl, Nat.le_of_ble_eq_true rfl⟩) [0, 1, 2, 3, 4, 5, 6] [] rfl rfl rfl (by decide) (fun H locs hP hD hS => ?_)
  have hP : va_P D vwCl (wC h0 a0 a1 a2 a3 a4 a5 cI cZ bf pw hs lo lg rt nb (nI fi) (nI fo) (nI en) 1 cu ma) H := hP
  have hD : va_D A (wC h0 a0 a1 a2 a3 a4 a5 cI cZ bf pw hs lo lg rt nb (nI fi) (nI fo) (nI en) 1 cu ma) := hD
  refine lv_aload_n hx hb dX0_write_4 rfl (lv_at hl 0 rfl) ?_
  refine lv_iload_n hx hb dX0_write_5 rfl (lv_at hl 1 rfl) ?_
  refine lv_iload_n hx hb dX0_write_6 rfl (lv_at hl 2 rfl) ?_
  refine k_V (wr := []) hP hD hS hA (va_runV (As := [.int (nI ar), .int (nI pg)]) (rest := []) ⟨hx, hb, hml, hown, hts⟩ ((tX0_needPage_ok bf pw hs lo lg rt nb fi fo en 1 cu ma ar pg (by omega) (by omega)) _) (cwV 2 hts gX0_write_X0_needPage rfl rfl rfl (by decide +kernel) ⟨Nat.le_of_ble_eq_true rfl, Nat.le_of_ble_eq_true rfl⟩) (pV_B hP hD hK (ci := 0) (q0 := 0) rfl rfl rfl [0, 1] rfl [0, 1, 2, 3, 4, 5, 6] rfl rfl) rfl rfl hl.1 rfl (lv_room (Nat.le_of_ble_eq_true rfl)) dX0_write_7 ⟨Nat.le_of_ble_eq_true rfl, Nat.le_of_ble_eq_true rfl⟩) [0, 1, 2, 3, 4, 5, 6] [] rfl rfl rfl (by decide) (fun H locs hP hD hS => ?_)
  have hP : va_P D vwCl (wC h0 a0 a1 a2 a3 a4 a5 cI cZ bf pw hs lo lg rt nb (nI fi) (nI fo) (nI en) 1 cu ma) H := hP
  have hD : va_D A (wC h0 a0 a1 a2 a3 a4 a5 cI cZ bf pw hs lo lg rt nb (nI fi) (nI fo) (nI en) 1 cu ma) := hD
  refine lv_aload_n hx hb dX0_write_10 rfl (lv_at hl 0 rfl) ?_
  refine lv_iload_n hx hb dX0_write_11 rfl (lv_at hl 1 rfl) ?_
  refine lv_iload_n hx hb dX0_write_12 rfl (lv_at hl 2 rfl) ?_
  refine k_I (wr := wC h0 a0 a1 a2 a3 a4 a5 cI cZ bf pw hs lo lg rt nb (nI fi) (nI fo) (nI en) 1 cu ma) hP hD hS hA (va_runS (As := [.int (nI ar), .int (nI pg)]) (rest := [.ref h0]) ⟨hx, hb, hml, hown, hts⟩ ((tX0_pageIndex ar pg) _) (va_cwS 2 hts gX0_write_X0_pageIndex rfl rfl rfl (by decide +kernel) ⟨Nat.le_of_ble_eq_true rfl, Nat.le_of_ble_eq_true rfl⟩) (pS_B hP hD hK [] rfl [] rfl rfl) rfl rfl hl.1 rfl (lv_room (Nat.le_of_ble_eq_true rfl)) dX0_write_13 ⟨Nat.le_of_ble_eq_true rfl, Nat.le_of_ble_eq_true rfl⟩) [] [0, 1, 2, 3, 4, 5, 6] rfl rfl rfl (by decide) (fun H locs hP hD hS => ?_)
  have hP : va_P D vwCl (wC h0 a0 a1 a2 a3 a4 a5 cI cZ bf pw hs lo lg rt nb (nI fi) (nI fo) (nI en) 1 cu ma) H := hP
  have hD : va_D A (wC h0 a0 a1 a2 a3 a4 a5 cI cZ bf pw hs lo lg rt nb (nI fi) (nI fo) (nI en) 1 cu ma) := hD
  refine lv_aload_n hx hb dX0_write_16 rfl (lv_at hl 0 rfl) ?_
  refine va_get (ci := 0) (v := .ref a0) (C := RX0) (T := TX0) (N := 13) hx hb hts inX0_write hown hK hP 0 rfl rfl 0 (by decide) (hts _ flX0_write_9) (fun _ h9 => h9) rfl dX0_write_17 ?_
  refine lv_iconst (v := (nI 0)) hx hb dX0_write_20 (by decide) ?_
  refine k_I (wr := []) hP hD hS hA (va_runV (As := [.int (nI (ar * 256 + pg)), .ref a0, .int (nI 0)]) (rest := []) ⟨hx, hb, hml, hown, hts⟩ ((tX0_writePage_b2 bf pw hs lo lg rt nb fi fo en 1 cu ma (ar * 256 + pg) (by omega) h hd) _) (cwV 3 hts gX0_write_X0_writePage rfl rfl rfl (by decide +kernel) ⟨Nat.le_of_ble_eq_true rfl, Nat.le_of_ble_eq_true rfl⟩) (pV_B hP hD hK (ci := 0) (q0 := 0) rfl rfl rfl [0, 1] rfl [0, 1, 2, 3, 4, 5, 6] rfl rfl) rfl rfl hl.1 rfl (lv_room (Nat.le_of_ble_eq_true rfl)) dX0_write_21 ⟨Nat.le_of_ble_eq_true rfl, Nat.le_of_ble_eq_true rfl⟩) [0, 1, 2, 3, 4, 5, 6] [] rfl rfl rfl (by decide) (fun H locs hP hD hS => ?_)
  have hP : va_P D vwCl (wC h0 a0 a1 a2 a3 a4 a5 cI cZ bf (va_cpy bf (va_cpy bf pw 0 ((ar * 256 + pg) * 64) 32) 32 ((ar * 256 + pg) * 64 + 32) 32) (upd (upd hs ((ar * 256 + pg) * 2) (nb + 1)) ((ar * 256 + pg) * 2 + 1) (nb + 1)) (upd lo (ar * 256 + pg) 0) lg rt (nb + 1) (nI fi) (nI fo) (nI en) 1 (dcu (dcu cu)) (ma + 1 + 1)) H := hP
  have hD : va_D A (wC h0 a0 a1 a2 a3 a4 a5 cI cZ bf (va_cpy bf (va_cpy bf pw 0 ((ar * 256 + pg) * 64) 32) 32 ((ar * 256 + pg) * 64 + 32) 32) (upd (upd hs ((ar * 256 + pg) * 2) (nb + 1)) ((ar * 256 + pg) * 2 + 1) (nb + 1)) (upd lo (ar * 256 + pg) 0) lg rt (nb + 1) (nI fi) (nI fo) (nI en) 1 (dcu (dcu cu)) (ma + 1 + 1)) := hD
  exact e_I hx hb hr hlocks hP hD hS rfl dX0_write_24
set_option maxHeartbeats 4000000 in
set_option maxRecDepth 100000 in
theorem tX0_read_okl {l : Launch} {D : va_G} {cI cZ : ClassId} {h0 a0 a1 a2 a3 a4 a5 : Nat} (bf pw hs lo lg rt : Nat → Int32) (nb : Int32) (fi fo en : Nat) (cu ma : Int32) (ar pg : Nat) (h1 : ar < 2) (h2 : pg < 256) (h : ¬ lo (ar * 256 + pg) = 0) : RI l yX0_read wsX0_read 8 0 0 D (tyC cI cZ) (wC h0 a0 a1 a2 a3 a4 a5 cI cZ bf pw hs lo lg rt nb (nI fi) (nI fo) (nI en) 1 cu ma) [.ref h0, .int (nI ar), .int (nI pg)] (sp_ps lo hs (ar * 256 + pg)) (wC h0 a0 a1 a2 a3 a4 a5 cI cZ (zf bf) pw hs lo lg rt nb (nI fi) (nI fo) (nI en) 1 cu ma) := by
  refine st_I (cc := cX0_read) (maxL := 5) (ret := (some .int)) (by decide +kernel) rfl (Nat.le_of_ble_eq_true rfl) ?_
  intro p e s m below meth c A hx hb hr hts hown hml hlocks hK hP hD hA hS ls hl
  have hown : s.vm.findClass RX0 = some m.cls := hown
  have hl : lv_has ls 5 [(0, .ref h0), (1, .int (nI ar)), (2, .int (nI pg))] := hl
  refine lv_aload_n hx hb dX0_read_0 rfl (lv_at hl 0 rfl) ?_
  refine k_V (wr := []) hP hD hS hA (va_runV (As := []) (rest := []) ⟨hx, hb, hml, hown, hts⟩ ((tX0_needPower_ok bf pw hs lo lg rt nb fi fo en cu ma) _) (cwV 0 hts gX0_read_X0_needPower rfl rfl rfl (by decide +kernel) ⟨Nat.le_of_ble_eq_true rfl, Nat.le_of_ble_eq_true rfl⟩) (pV_B hP hD hK (ci := 0) (q0 := 0) rfl rfl rfl [0, 1] rfl [0, 1, 2, 3, 4, 5, 6] rfl rfl) rfl rfl hl.1 rfl (lv_room (Nat.le_of_ble_eq_true rfl)) dX0_read_1 ⟨Nat.le_of_ble_eq_true rfl, Nat.le_of_ble_eq_true rfl⟩) [0, 1, 2, 3, 4, 5, 6] [] rfl rfl rfl (by decide) (fun H locs hP hD hS => ?_)
  have hP : va_P D vwCl (wC h0 a0 a1 a2 a3 a4 a5 cI cZ bf pw hs lo lg rt nb (nI fi) (nI fo) (nI en) 1 cu ma) H := hP
  have hD : va_D A (wC h0 a0 a1 a2 a3 a4 a5 cI cZ bf pw hs lo lg rt nb (nI fi) (nI fo) (nI en) 1 cu ma) := hD
  refine lv_aload_n hx hb dX0_read_4 rfl (lv_at hl 0 rfl) ?_
  refine lv_iload_n hx hb dX0_read_5 rfl (lv_at hl 1 rfl) ?_
  refine lv_iload_n hx hb dX0_read_6 rfl (lv_at hl 2 rfl) ?_
  refine k_V (wr := []) hP hD hS hA (va_runV (As := [.int (nI ar), .int (nI pg)]) (rest := []) ⟨hx, hb, hml, hown, hts⟩ ((tX0_needPage_ok bf pw hs lo lg rt nb fi fo en 1 cu ma ar pg (by omega) (by omega)) _) (cwV 2 hts gX0_read_X0_needPage rfl rfl rfl (by decide +kernel) ⟨Nat.le_of_ble_eq_true rfl, Nat.le_of_ble_eq_true rfl⟩) (pV_B hP hD hK (ci := 0) (q0 := 0) rfl rfl rfl [0, 1] rfl [0, 1, 2, 3, 4, 5, 6] rfl rfl) rfl rfl hl.1 rfl (lv_room (Nat.le_of_ble_eq_true rfl)) dX0_read_7 ⟨Nat.le_of_ble_eq_true rfl, Nat.le_of_ble_eq_true rfl⟩) [0, 1, 2, 3, 4, 5, 6] [] rfl rfl rfl (by decide) (fun H locs hP hD hS => ?_)
  have hP : va_P D vwCl (wC h0 a0 a1 a2 a3 a4 a5 cI cZ bf pw hs lo lg rt nb (nI fi) (nI fo) (nI en) 1 cu ma) H := hP
  have hD : va_D A (wC h0 a0 a1 a2 a3 a4 a5 cI cZ bf pw hs lo lg rt nb (nI fi) (nI fo) (nI en) 1 cu ma) := hD
  refine lv_iload_n hx hb dX0_read_10 rfl (lv_at hl 1 rfl) ?_
  refine lv_iload_n hx hb dX0_read_11 rfl (lv_at hl 2 rfl) ?_
  refine k_I (wr := wC h0 a0 a1 a2 a3 a4 a5 cI cZ bf pw hs lo lg rt nb (nI fi) (nI fo) (nI en) 1 cu ma) hP hD hS hA (va_runS (As := [.int (nI ar), .int (nI pg)]) (rest := []) ⟨hx, hb, hml, hown, hts⟩ ((tX0_pageIndex ar pg) _) (va_cwS 2 hts gX0_read_X0_pageIndex rfl rfl rfl (by decide +kernel) ⟨Nat.le_of_ble_eq_true rfl, Nat.le_of_ble_eq_true rfl⟩) (pS_B hP hD hK [] rfl [] rfl rfl) rfl rfl hl.1 rfl (lv_room (Nat.le_of_ble_eq_true rfl)) dX0_read_12 ⟨Nat.le_of_ble_eq_true rfl, Nat.le_of_ble_eq_true rfl⟩) [] [0, 1, 2, 3, 4, 5, 6] rfl rfl rfl (by decide) (fun H locs hP hD hS => ?_)
  have hP : va_P D vwCl (wC h0 a0 a1 a2 a3 a4 a5 cI cZ bf pw hs lo lg rt nb (nI fi) (nI fo) (nI en) 1 cu ma) H := hP
  have hD : va_D A (wC h0 a0 a1 a2 a3 a4 a5 cI cZ bf pw hs lo lg rt nb (nI fi) (nI fo) (nI en) 1 cu ma) := hD
  refine lv_istore_n (lv' := [(3, .int (nI (ar * 256 + pg))), (0, .ref h0), (1, .int (nI ar)), (2, .int (nI pg))]) hx hb dX0_read_15 rfl hl (by decide) rfl (fun ls hl => ?_)
  refine lv_aload_n hx hb dX0_read_16 rfl (lv_at hl 1 rfl) ?_
  refine lv_iload_n hx hb dX0_read_17 rfl (lv_at hl 0 rfl) ?_
  refine k_I (wr := []) hP hD hS hA (va_runV (As := [.int (nI (ar * 256 + pg))]) (rest := []) ⟨hx, hb, hml, hown, hts⟩ ((tX0_pageState bf pw hs lo lg rt nb fi fo en 1 cu ma (ar * 256 + pg) (by omega)) _) (cwV 1 hts gX0_read_X0_pageState rfl rfl rfl (by decide +kernel) ⟨Nat.le_of_ble_eq_true rfl, Nat.le_of_ble_eq_true rfl⟩) (pV_B hP hD hK (ci := 0) (q0 := 0) rfl rfl rfl [0, 1] rfl [0, 1, 2, 3, 4, 5, 6] rfl rfl) rfl rfl hl.1 rfl (lv_room (Nat.le_of_ble_eq_true rfl)) dX0_read_18 ⟨Nat.le_of_ble_eq_true rfl, Nat.le_of_ble_eq_true rfl⟩) [0, 1, 2, 3, 4, 5, 6] [] rfl rfl rfl (by decide) (fun H locs hP hD hS => ?_)
  have hP : va_P D vwCl (wC h0 a0 a1 a2 a3 a4 a5 cI cZ bf pw hs lo lg rt nb (nI fi) (nI fo) (nI en) 1 cu ma) H := hP
  have hD : va_D A (wC h0 a0 a1 a2 a3 a4 a5 cI cZ bf pw hs lo lg rt nb (nI fi) (nI fo) (nI en) 1 cu ma) := hD
  refine lv_istore (lv' := [(4, .int (sp_ps lo hs (ar * 256 + pg))), (3, .int (nI (ar * 256 + pg))), (0, .ref h0), (1, .int (nI ar)), (2, .int (nI pg))]) hx hb dX0_read_21 hl (by decide) rfl (fun ls hl => ?_)
  refine lv_iload hx hb dX0_read_23 (lv_at hl 0 rfl) ?_
  refine lv_iconst (v := (2)) hx hb dX0_read_25 (by decide) ?_
  refine lv_icmp_ne (tgt := 40) hx hb dX0_read_26 (by decide) (fun c_26 => absurd (by simp [sp_ps, h]) c_26) (fun c_26 => ?_)
  refine lv_aload_n hx hb dX0_read_29 rfl (lv_at hl 2 rfl) ?_
  refine va_get (ci := 0) (v := .ref a0) (C := RX0) (T := TX0) (N := 13) hx hb hts inX0_read hown hK hP 0 rfl rfl 0 (by decide) (hts _ flX0_read_9) (fun _ h9 => h9) rfl dX0_read_30 ?_
  refine lv_iconst (v := (0)) hx hb dX0_read_33 (by decide) ?_
  refine k_V (wr := List.eraseIdx (wC h0 a0 a1 a2 a3 a4 a5 cI cZ bf pw hs lo lg rt nb (nI fi) (nI fo) (nI en) 1 cu ma) 1) hP hD hS hA (va_runS (As := [.ref a0, .int 0]) (rest := []) ⟨hx, hb, hml, hown, hts⟩ (tJ7_fill 64 (by omega) bf 0 _) (va_cwS 2 hts gX0_read_J7_fill_53178 rfl rfl rfl (by decide +kernel) ⟨Nat.le_of_ble_eq_true rfl, Nat.le_of_ble_eq_true rfl⟩) (pS_B hP hD hK [0] rfl [1] rfl rfl) rfl rfl hl.1 rfl (lv_room (Nat.le_of_ble_eq_true rfl)) dX0_read_34 ⟨Nat.le_of_ble_eq_true rfl, Nat.le_of_ble_eq_true rfl⟩) [1] [0, 2, 3, 4, 5, 6] rfl rfl rfl (by decide) (fun H locs hP hD hS => ?_)
  have hP : va_P D vwCl (wC h0 a0 a1 a2 a3 a4 a5 cI cZ (zf bf) pw hs lo lg rt nb (nI fi) (nI fo) (nI en) 1 cu ma) H := hP.sub [0, 6, 1, 2, 3, 4, 5] rfl
  have hD : va_D A (wC h0 a0 a1 a2 a3 a4 a5 cI cZ (zf bf) pw hs lo lg rt nb (nI fi) (nI fo) (nI en) 1 cu ma) := hD.sub [0, 6, 1, 2, 3, 4, 5] (by decide) rfl
  refine lv_goto (tgt := 58) hx hb dX0_read_37 (by decide) ?_
  refine lv_iload hx hb dX0_read_58 (lv_at hl 0 rfl) ?_
  exact e_I hx hb hr hlocks hP hD hS rfl dX0_read_60
set_option maxHeartbeats 4000000 in
set_option maxRecDepth 100000 in
theorem tX0_read_okn {l : Launch} {D : va_G} {cI cZ : ClassId} {h0 a0 a1 a2 a3 a4 a5 : Nat} (bf pw hs lo lg rt : Nat → Int32) (nb : Int32) (fi fo en : Nat) (cu ma : Int32) (ar pg : Nat) (h1 : ar < 2) (h2 : pg < 256) (h : lo (ar * 256 + pg) = 0) : RI l yX0_read wsX0_read 8 0 0 D (tyC cI cZ) (wC h0 a0 a1 a2 a3 a4 a5 cI cZ bf pw hs lo lg rt nb (nI fi) (nI fo) (nI en) 1 cu ma) [.ref h0, .int (nI ar), .int (nI pg)] (sp_ps lo hs (ar * 256 + pg)) (wC h0 a0 a1 a2 a3 a4 a5 cI cZ (fl (fun j => pw ((ar * 256 + pg) * 64 + j)) 64 bf) pw hs lo lg rt nb (nI fi) (nI fo) (nI en) 1 cu ma) := by
  refine st_I (cc := cX0_read) (maxL := 5) (ret := (some .int)) (by decide +kernel) rfl (Nat.le_of_ble_eq_true rfl) ?_
  intro p e s m below meth c A hx hb hr hts hown hml hlocks hK hP hD hA hS ls hl
  have hown : s.vm.findClass RX0 = some m.cls := hown
  have hl : lv_has ls 5 [(0, .ref h0), (1, .int (nI ar)), (2, .int (nI pg))] := hl
  refine lv_aload_n hx hb dX0_read_0 rfl (lv_at hl 0 rfl) ?_
  refine k_V (wr := []) hP hD hS hA (va_runV (As := []) (rest := []) ⟨hx, hb, hml, hown, hts⟩ ((tX0_needPower_ok bf pw hs lo lg rt nb fi fo en cu ma) _) (cwV 0 hts gX0_read_X0_needPower rfl rfl rfl (by decide +kernel) ⟨Nat.le_of_ble_eq_true rfl, Nat.le_of_ble_eq_true rfl⟩) (pV_B hP hD hK (ci := 0) (q0 := 0) rfl rfl rfl [0, 1] rfl [0, 1, 2, 3, 4, 5, 6] rfl rfl) rfl rfl hl.1 rfl (lv_room (Nat.le_of_ble_eq_true rfl)) dX0_read_1 ⟨Nat.le_of_ble_eq_true rfl, Nat.le_of_ble_eq_true rfl⟩) [0, 1, 2, 3, 4, 5, 6] [] rfl rfl rfl (by decide) (fun H locs hP hD hS => ?_)
  have hP : va_P D vwCl (wC h0 a0 a1 a2 a3 a4 a5 cI cZ bf pw hs lo lg rt nb (nI fi) (nI fo) (nI en) 1 cu ma) H := hP
  have hD : va_D A (wC h0 a0 a1 a2 a3 a4 a5 cI cZ bf pw hs lo lg rt nb (nI fi) (nI fo) (nI en) 1 cu ma) := hD
  refine lv_aload_n hx hb dX0_read_4 rfl (lv_at hl 0 rfl) ?_
  refine lv_iload_n hx hb dX0_read_5 rfl (lv_at hl 1 rfl) ?_
  refine lv_iload_n hx hb dX0_read_6 rfl (lv_at hl 2 rfl) ?_
  refine k_V (wr := []) hP hD hS hA (va_runV (As := [.int (nI ar), .int (nI pg)]) (rest := []) ⟨hx, hb, hml, hown, hts⟩ ((tX0_needPage_ok bf pw hs lo lg rt nb fi fo en 1 cu ma ar pg (by omega) (by omega)) _) (cwV 2 hts gX0_read_X0_needPage rfl rfl rfl (by decide +kernel) ⟨Nat.le_of_ble_eq_true rfl, Nat.le_of_ble_eq_true rfl⟩) (pV_B hP hD hK (ci := 0) (q0 := 0) rfl rfl rfl [0, 1] rfl [0, 1, 2, 3, 4, 5, 6] rfl rfl) rfl rfl hl.1 rfl (lv_room (Nat.le_of_ble_eq_true rfl)) dX0_read_7 ⟨Nat.le_of_ble_eq_true rfl, Nat.le_of_ble_eq_true rfl⟩) [0, 1, 2, 3, 4, 5, 6] [] rfl rfl rfl (by decide) (fun H locs hP hD hS => ?_)
  have hP : va_P D vwCl (wC h0 a0 a1 a2 a3 a4 a5 cI cZ bf pw hs lo lg rt nb (nI fi) (nI fo) (nI en) 1 cu ma) H := hP
  have hD : va_D A (wC h0 a0 a1 a2 a3 a4 a5 cI cZ bf pw hs lo lg rt nb (nI fi) (nI fo) (nI en) 1 cu ma) := hD
  refine lv_iload_n hx hb dX0_read_10 rfl (lv_at hl 1 rfl) ?_
  refine lv_iload_n hx hb dX0_read_11 rfl (lv_at hl 2 rfl) ?_
  refine k_I (wr := wC h0 a0 a1 a2 a3 a4 a5 cI cZ bf pw hs lo lg rt nb (nI fi) (nI fo) (nI en) 1 cu ma) hP hD hS hA (va_runS (As := [.int (nI ar), .int (nI pg)]) (rest := []) ⟨hx, hb, hml, hown, hts⟩ ((tX0_pageIndex ar pg) _) (va_cwS 2 hts gX0_read_X0_pageIndex rfl rfl rfl (by decide +kernel) ⟨Nat.le_of_ble_eq_true rfl, Nat.le_of_ble_eq_true rfl⟩) (pS_B hP hD hK [] rfl [] rfl rfl) rfl rfl hl.1 rfl (lv_room (Nat.le_of_ble_eq_true rfl)) dX0_read_12 ⟨Nat.le_of_ble_eq_true rfl, Nat.le_of_ble_eq_true rfl⟩) [] [0, 1, 2, 3, 4, 5, 6] rfl rfl rfl (by decide) (fun H locs hP hD hS => ?_)
  have hP : va_P D vwCl (wC h0 a0 a1 a2 a3 a4 a5 cI cZ bf pw hs lo lg rt nb (nI fi) (nI fo) (nI en) 1 cu ma) H := hP
  have hD : va_D A (wC h0 a0 a1 a2 a3 a4 a5 cI cZ bf pw hs lo lg rt nb (nI fi) (nI fo) (nI en) 1 cu ma) := hD
  refine lv_istore_n (lv' := [(3, .int (nI (ar * 256 + pg))), (0, .ref h0), (1, .int (nI ar)), (2, .int (nI pg))]) hx hb dX0_read_15 rfl hl (by decide) rfl (fun ls hl => ?_)
  refine lv_aload_n hx hb dX0_read_16 rfl (lv_at hl 1 rfl) ?_
  refine lv_iload_n hx hb dX0_read_17 rfl (lv_at hl 0 rfl) ?_
  refine k_I (wr := []) hP hD hS hA (va_runV (As := [.int (nI (ar * 256 + pg))]) (rest := []) ⟨hx, hb, hml, hown, hts⟩ ((tX0_pageState bf pw hs lo lg rt nb fi fo en 1 cu ma (ar * 256 + pg) (by omega)) _) (cwV 1 hts gX0_read_X0_pageState rfl rfl rfl (by decide +kernel) ⟨Nat.le_of_ble_eq_true rfl, Nat.le_of_ble_eq_true rfl⟩) (pV_B hP hD hK (ci := 0) (q0 := 0) rfl rfl rfl [0, 1] rfl [0, 1, 2, 3, 4, 5, 6] rfl rfl) rfl rfl hl.1 rfl (lv_room (Nat.le_of_ble_eq_true rfl)) dX0_read_18 ⟨Nat.le_of_ble_eq_true rfl, Nat.le_of_ble_eq_true rfl⟩) [0, 1, 2, 3, 4, 5, 6] [] rfl rfl rfl (by decide) (fun H locs hP hD hS => ?_)
  have hP : va_P D vwCl (wC h0 a0 a1 a2 a3 a4 a5 cI cZ bf pw hs lo lg rt nb (nI fi) (nI fo) (nI en) 1 cu ma) H := hP
  have hD : va_D A (wC h0 a0 a1 a2 a3 a4 a5 cI cZ bf pw hs lo lg rt nb (nI fi) (nI fo) (nI en) 1 cu ma) := hD
  refine lv_istore (lv' := [(4, .int (sp_ps lo hs (ar * 256 + pg))), (3, .int (nI (ar * 256 + pg))), (0, .ref h0), (1, .int (nI ar)), (2, .int (nI pg))]) hx hb dX0_read_21 hl (by decide) rfl (fun ls hl => ?_)
  refine lv_iload hx hb dX0_read_23 (lv_at hl 0 rfl) ?_
  refine lv_iconst (v := (2)) hx hb dX0_read_25 (by decide) ?_
  refine lv_icmp_ne (tgt := 40) hx hb dX0_read_26 (by decide) (fun c_26 => ?_) (fun c_26 => absurd c_26 (sp_ps_n2 h))
  refine lv_aload_n hx hb dX0_read_40 rfl (lv_at hl 2 rfl) ?_
  refine va_get (ci := 0) (v := .ref a1) (C := RX0) (T := TX0) (N := 13) hx hb hts inX0_read hown hK hP 0 rfl rfl 1 (by decide) (hts _ flX0_read_14) (fun _ h9 => h9) rfl dX0_read_41 ?_
  refine lv_iload_n hx hb dX0_read_44 rfl (lv_at hl 1 rfl) ?_
  refine lv_bipush (v := (nI 64)) hx hb dX0_read_45 (by decide) ?_
  refine n_imul hx hb dX0_read_47 ?_
  refine lv_aload_n hx hb dX0_read_48 rfl (lv_at hl 2 rfl) ?_
  refine va_get (ci := 0) (v := .ref a0) (C := RX0) (T := TX0) (N := 13) hx hb hts inX0_read hown hK hP 0 rfl rfl 0 (by decide) (hts _ flX0_read_9) (fun _ h9 => h9) rfl dX0_read_49 ?_
  refine lv_iconst (v := (nI 0)) hx hb dX0_read_52 (by decide) ?_
  refine lv_bipush (v := (nI 64)) hx hb dX0_read_53 (by decide) ?_
  refine n_copyi hx hb hl.1 hml hown acX0_read hts hK hP hD hS 2 1 0 rfl rfl rfl ((ar * 256 + pg) * 64) 0 64 (by omega) (by omega) (by omega) (by omega) (by omega) (Nat.le_of_ble_eq_true rfl) (Nat.le_of_ble_eq_true rfl) dX0_read_55 (fun H locs hP hD hS => ?_)
  have hP : va_P D vwCl (wC h0 a0 a1 a2 a3 a4 a5 cI cZ (va_cpy pw bf ((ar * 256 + pg) * 64) 0 64) pw hs lo lg rt nb (nI fi) (nI fo) (nI en) 1 cu ma) H := hP
  have hD : va_D A (wC h0 a0 a1 a2 a3 a4 a5 cI cZ (va_cpy pw bf ((ar * 256 + pg) * 64) 0 64) pw hs lo lg rt nb (nI fi) (nI fo) (nI en) 1 cu ma) := hD
  have hP : va_P D vwCl (wC h0 a0 a1 a2 a3 a4 a5 cI cZ (fl (fun j => pw ((ar * 256 + pg) * 64 + j)) 64 bf) pw hs lo lg rt nb (nI fi) (nI fo) (nI en) 1 cu ma) H := by rw [← fl_cpy]; exact hP
  have hD : va_D A (wC h0 a0 a1 a2 a3 a4 a5 cI cZ (fl (fun j => pw ((ar * 256 + pg) * 64 + j)) 64 bf) pw hs lo lg rt nb (nI fi) (nI fo) (nI en) 1 cu ma) := by rw [← fl_cpy]; exact hD
  refine lv_iload hx hb dX0_read_58 (lv_at hl 0 rfl) ?_
  exact e_I hx hb hr hlocks hP hD hS rfl dX0_read_60
set_option maxHeartbeats 4000000 in
set_option maxRecDepth 100000 in
theorem tX0_copy_xt {l : Launch} {D : va_G} {cI cZ : ClassId} {h0 a0 a1 a2 a3 a4 a5 : Nat} (hl0 : l.stackTraces = false) (bf pw hs lo lg rt : Nat → Int32) (nb : Int32) (fi fo en : Nat) (cu ma : Int32) (ar pg : Nat) (h1 : ar < 2) (h2 : pg < 256) (h : ¬ sp_ps lo hs (ar * 256 + pg) = 0) : RX l yX0_copy wsX0_copy 8 D (tyC cI cZ) (wC h0 a0 a1 a2 a3 a4 a5 cI cZ bf pw hs lo lg rt nb (nI fi) (nI fo) (nI en) 1 cu ma) [.ref h0, .int (nI ar), .int (nI pg)] xISE := by
  refine st_X (cc := cX0_copy) (maxL := 4) (ret := (some .int)) (by decide +kernel) rfl (Nat.le_of_ble_eq_true rfl) ?_
  intro p e s m below meth c A hx hb hr hts hown hml hlocks hK hP hD hA hS ls hl hT hex
  have hown : s.vm.findClass RX0 = some m.cls := hown
  have hl : lv_has ls 4 [(0, .ref h0), (1, .int (nI ar)), (2, .int (nI pg))] := hl
  refine lv_aload_n hx hb dX0_copy_0 rfl (lv_at hl 0 rfl) ?_
  refine k_V (wr := []) hP hD hS hA (va_runV (As := []) (rest := []) ⟨hx, hb, hml, hown, hts⟩ ((tX0_needPower_ok bf pw hs lo lg rt nb fi fo en cu ma) _) (cwV 0 hts gX0_copy_X0_needPower rfl rfl rfl (by decide +kernel) ⟨Nat.le_of_ble_eq_true rfl, Nat.le_of_ble_eq_true rfl⟩) (pV_B hP hD hK (ci := 0) (q0 := 0) rfl rfl rfl [0, 1] rfl [0, 1, 2, 3, 4, 5, 6] rfl rfl) rfl rfl hl.1 rfl (lv_room (Nat.le_of_ble_eq_true rfl)) dX0_copy_1 ⟨Nat.le_of_ble_eq_true rfl, Nat.le_of_ble_eq_true rfl⟩) [0, 1, 2, 3, 4, 5, 6] [] rfl rfl rfl (by decide) (fun H locs hP hD hS => ?_)
  have hP : va_P D vwCl (wC h0 a0 a1 a2 a3 a4 a5 cI cZ bf pw hs lo lg rt nb (nI fi) (nI fo) (nI en) 1 cu ma) H := hP
  have hD : va_D A (wC h0 a0 a1 a2 a3 a4 a5 cI cZ bf pw hs lo lg rt nb (nI fi) (nI fo) (nI en) 1 cu ma) := hD
  refine lv_aload_n hx hb dX0_copy_4 rfl (lv_at hl 0 rfl) ?_
  refine lv_iload_n hx hb dX0_copy_5 rfl (lv_at hl 1 rfl) ?_
  refine lv_iload_n hx hb dX0_copy_6 rfl (lv_at hl 2 rfl) ?_
  refine k_V (wr := []) hP hD hS hA (va_runV (As := [.int (nI ar), .int (nI pg)]) (rest := []) ⟨hx, hb, hml, hown, hts⟩ ((tX0_needPage_ok bf pw hs lo lg rt nb fi fo en 1 cu ma ar pg (by omega) (by omega)) _) (cwV 2 hts gX0_copy_X0_needPage rfl rfl rfl (by decide +kernel) ⟨Nat.le_of_ble_eq_true rfl, Nat.le_of_ble_eq_true rfl⟩) (pV_B hP hD hK (ci := 0) (q0 := 0) rfl rfl rfl [0, 1] rfl [0, 1, 2, 3, 4, 5, 6] rfl rfl) rfl rfl hl.1 rfl (lv_room (Nat.le_of_ble_eq_true rfl)) dX0_copy_7 ⟨Nat.le_of_ble_eq_true rfl, Nat.le_of_ble_eq_true rfl⟩) [0, 1, 2, 3, 4, 5, 6] [] rfl rfl rfl (by decide) (fun H locs hP hD hS => ?_)
  have hP : va_P D vwCl (wC h0 a0 a1 a2 a3 a4 a5 cI cZ bf pw hs lo lg rt nb (nI fi) (nI fo) (nI en) 1 cu ma) H := hP
  have hD : va_D A (wC h0 a0 a1 a2 a3 a4 a5 cI cZ bf pw hs lo lg rt nb (nI fi) (nI fo) (nI en) 1 cu ma) := hD
  refine lv_iload_n hx hb dX0_copy_10 rfl (lv_at hl 1 rfl) ?_
  refine lv_iload_n hx hb dX0_copy_11 rfl (lv_at hl 2 rfl) ?_
  refine k_I (wr := wC h0 a0 a1 a2 a3 a4 a5 cI cZ bf pw hs lo lg rt nb (nI fi) (nI fo) (nI en) 1 cu ma) hP hD hS hA (va_runS (As := [.int (nI ar), .int (nI pg)]) (rest := []) ⟨hx, hb, hml, hown, hts⟩ ((tX0_pageIndex ar pg) _) (va_cwS 2 hts gX0_copy_X0_pageIndex rfl rfl rfl (by decide +kernel) ⟨Nat.le_of_ble_eq_true rfl, Nat.le_of_ble_eq_true rfl⟩) (pS_B hP hD hK [] rfl [] rfl rfl) rfl rfl hl.1 rfl (lv_room (Nat.le_of_ble_eq_true rfl)) dX0_copy_12 ⟨Nat.le_of_ble_eq_true rfl, Nat.le_of_ble_eq_true rfl⟩) [] [0, 1, 2, 3, 4, 5, 6] rfl rfl rfl (by decide) (fun H locs hP hD hS => ?_)
  have hP : va_P D vwCl (wC h0 a0 a1 a2 a3 a4 a5 cI cZ bf pw hs lo lg rt nb (nI fi) (nI fo) (nI en) 1 cu ma) H := hP
  have hD : va_D A (wC h0 a0 a1 a2 a3 a4 a5 cI cZ bf pw hs lo lg rt nb (nI fi) (nI fo) (nI en) 1 cu ma) := hD
  refine lv_istore_n (lv' := [(3, .int (nI (ar * 256 + pg))), (0, .ref h0), (1, .int (nI ar)), (2, .int (nI pg))]) hx hb dX0_copy_15 rfl hl (by decide) rfl (fun ls hl => ?_)
  refine lv_aload_n hx hb dX0_copy_16 rfl (lv_at hl 1 rfl) ?_
  refine lv_iload_n hx hb dX0_copy_17 rfl (lv_at hl 0 rfl) ?_
  refine k_I (wr := []) hP hD hS hA (va_runV (As := [.int (nI (ar * 256 + pg))]) (rest := []) ⟨hx, hb, hml, hown, hts⟩ ((tX0_pageState bf pw hs lo lg rt nb fi fo en 1 cu ma (ar * 256 + pg) (by omega)) _) (cwV 1 hts gX0_copy_X0_pageState rfl rfl rfl (by decide +kernel) ⟨Nat.le_of_ble_eq_true rfl, Nat.le_of_ble_eq_true rfl⟩) (pV_B hP hD hK (ci := 0) (q0 := 0) rfl rfl rfl [0, 1] rfl [0, 1, 2, 3, 4, 5, 6] rfl rfl) rfl rfl hl.1 rfl (lv_room (Nat.le_of_ble_eq_true rfl)) dX0_copy_18 ⟨Nat.le_of_ble_eq_true rfl, Nat.le_of_ble_eq_true rfl⟩) [0, 1, 2, 3, 4, 5, 6] [] rfl rfl rfl (by decide) (fun H locs hP hD hS => ?_)
  have hP : va_P D vwCl (wC h0 a0 a1 a2 a3 a4 a5 cI cZ bf pw hs lo lg rt nb (nI fi) (nI fo) (nI en) 1 cu ma) H := hP
  have hD : va_D A (wC h0 a0 a1 a2 a3 a4 a5 cI cZ bf pw hs lo lg rt nb (nI fi) (nI fo) (nI en) 1 cu ma) := hD
  refine lv_if_eq (tgt := 34) hx hb dX0_copy_21 (by decide) (fun c_21 => absurd c_21 (h)) (fun c_21 => ?_)
  exact e_X (text := "the page is torn or lost") hx hb hl0 hown rfl hts (by decide +kernel) thX0_copy_k thX0_copy_i thX0_copy_g xNg_xISE xGd_xISE (by decide) hT hlocks hex hP hD hS hl.1 hml dX0_copy_24 dX0_copy_27 dX0_copy_28 dX0_copy_30 dX0_copy_33 (Nat.le_of_ble_eq_true rfl) (Nat.le_of_ble_eq_true rfl) (Nat.le_of_ble_eq_true rfl) (Nat.le_of_ble_eq_true rfl) (Nat.le_of_ble_eq_true rfl) (Nat.le_of_ble_eq_true rfl)
set_option maxHeartbeats 4000000 in
set_option maxRecDepth 100000 in
theorem tX0_copy_ok0 {l : Launch} {D : va_G} {cI cZ : ClassId} {h0 a0 a1 a2 a3 a4 a5 : Nat} (bf pw hs lo lg rt : Nat → Int32) (nb : Int32) (fi fo en : Nat) (cu ma : Int32) (ar pg : Nat) (h1 : ar < 2) (h2 : pg < 256) (hw : sp_ps lo hs (ar * 256 + pg) = 0) (h : cu = 0) : RI l yX0_copy wsX0_copy 8 0 0 D (tyC cI cZ) (wC h0 a0 a1 a2 a3 a4 a5 cI cZ bf pw hs lo lg rt nb (nI fi) (nI fo) (nI en) 1 cu ma) [.ref h0, .int (nI ar), .int (nI pg)] (-1) (wC h0 a0 a1 a2 a3 a4 a5 cI cZ (zf bf) pw hs lo lg rt (nb + 1) (nI fi) (nI fo) (nI fo) 0 cu ma) := by
  refine st_I (cc := cX0_copy) (maxL := 4) (ret := (some .int)) (by decide +kernel) rfl (Nat.le_of_ble_eq_true rfl) ?_
  intro p e s m below meth c A hx hb hr hts hown hml hlocks hK hP hD hA hS ls hl
  have hown : s.vm.findClass RX0 = some m.cls := hown
  have hl : lv_has ls 4 [(0, .ref h0), (1, .int (nI ar)), (2, .int (nI pg))] := hl
  refine lv_aload_n hx hb dX0_copy_0 rfl (lv_at hl 0 rfl) ?_
  refine k_V (wr := []) hP hD hS hA (va_runV (As := []) (rest := []) ⟨hx, hb, hml, hown, hts⟩ ((tX0_needPower_ok bf pw hs lo lg rt nb fi fo en cu ma) _) (cwV 0 hts gX0_copy_X0_needPower rfl rfl rfl (by decide +kernel) ⟨Nat.le_of_ble_eq_true rfl, Nat.le_of_ble_eq_true rfl⟩) (pV_B hP hD hK (ci := 0) (q0 := 0) rfl rfl rfl [0, 1] rfl [0, 1, 2, 3, 4, 5, 6] rfl rfl) rfl rfl hl.1 rfl (lv_room (Nat.le_of_ble_eq_true rfl)) dX0_copy_1 ⟨Nat.le_of_ble_eq_true rfl, Nat.le_of_ble_eq_true rfl⟩) [0, 1, 2, 3, 4, 5, 6] [] rfl rfl rfl (by decide) (fun H locs hP hD hS => ?_)
  have hP : va_P D vwCl (wC h0 a0 a1 a2 a3 a4 a5 cI cZ bf pw hs lo lg rt nb (nI fi) (nI fo) (nI en) 1 cu ma) H := hP
  have hD : va_D A (wC h0 a0 a1 a2 a3 a4 a5 cI cZ bf pw hs lo lg rt nb (nI fi) (nI fo) (nI en) 1 cu ma) := hD
  refine lv_aload_n hx hb dX0_copy_4 rfl (lv_at hl 0 rfl) ?_
  refine lv_iload_n hx hb dX0_copy_5 rfl (lv_at hl 1 rfl) ?_
  refine lv_iload_n hx hb dX0_copy_6 rfl (lv_at hl 2 rfl) ?_
  refine k_V (wr := []) hP hD hS hA (va_runV (As := [.int (nI ar), .int (nI pg)]) (rest := []) ⟨hx, hb, hml, hown, hts⟩ ((tX0_needPage_ok bf pw hs lo lg rt nb fi fo en 1 cu ma ar pg (by omega) (by omega)) _) (cwV 2 hts gX0_copy_X0_needPage rfl rfl rfl (by decide +kernel) ⟨Nat.le_of_ble_eq_true rfl, Nat.le_of_ble_eq_true rfl⟩) (pV_B hP hD hK (ci := 0) (q0 := 0) rfl rfl rfl [0, 1] rfl [0, 1, 2, 3, 4, 5, 6] rfl rfl) rfl rfl hl.1 rfl (lv_room (Nat.le_of_ble_eq_true rfl)) dX0_copy_7 ⟨Nat.le_of_ble_eq_true rfl, Nat.le_of_ble_eq_true rfl⟩) [0, 1, 2, 3, 4, 5, 6] [] rfl rfl rfl (by decide) (fun H locs hP hD hS => ?_)
  have hP : va_P D vwCl (wC h0 a0 a1 a2 a3 a4 a5 cI cZ bf pw hs lo lg rt nb (nI fi) (nI fo) (nI en) 1 cu ma) H := hP
  have hD : va_D A (wC h0 a0 a1 a2 a3 a4 a5 cI cZ bf pw hs lo lg rt nb (nI fi) (nI fo) (nI en) 1 cu ma) := hD
  refine lv_iload_n hx hb dX0_copy_10 rfl (lv_at hl 1 rfl) ?_
  refine lv_iload_n hx hb dX0_copy_11 rfl (lv_at hl 2 rfl) ?_
  refine k_I (wr := wC h0 a0 a1 a2 a3 a4 a5 cI cZ bf pw hs lo lg rt nb (nI fi) (nI fo) (nI en) 1 cu ma) hP hD hS hA (va_runS (As := [.int (nI ar), .int (nI pg)]) (rest := []) ⟨hx, hb, hml, hown, hts⟩ ((tX0_pageIndex ar pg) _) (va_cwS 2 hts gX0_copy_X0_pageIndex rfl rfl rfl (by decide +kernel) ⟨Nat.le_of_ble_eq_true rfl, Nat.le_of_ble_eq_true rfl⟩) (pS_B hP hD hK [] rfl [] rfl rfl) rfl rfl hl.1 rfl (lv_room (Nat.le_of_ble_eq_true rfl)) dX0_copy_12 ⟨Nat.le_of_ble_eq_true rfl, Nat.le_of_ble_eq_true rfl⟩) [] [0, 1, 2, 3, 4, 5, 6] rfl rfl rfl (by decide) (fun H locs hP hD hS => ?_)
  have hP : va_P D vwCl (wC h0 a0 a1 a2 a3 a4 a5 cI cZ bf pw hs lo lg rt nb (nI fi) (nI fo) (nI en) 1 cu ma) H := hP
  have hD : va_D A (wC h0 a0 a1 a2 a3 a4 a5 cI cZ bf pw hs lo lg rt nb (nI fi) (nI fo) (nI en) 1 cu ma) := hD
  refine lv_istore_n (lv' := [(3, .int (nI (ar * 256 + pg))), (0, .ref h0), (1, .int (nI ar)), (2, .int (nI pg))]) hx hb dX0_copy_15 rfl hl (by decide) rfl (fun ls hl => ?_)
  refine lv_aload_n hx hb dX0_copy_16 rfl (lv_at hl 1 rfl) ?_
  refine lv_iload_n hx hb dX0_copy_17 rfl (lv_at hl 0 rfl) ?_
  refine k_I (wr := []) hP hD hS hA (va_runV (As := [.int (nI (ar * 256 + pg))]) (rest := []) ⟨hx, hb, hml, hown, hts⟩ ((tX0_pageState bf pw hs lo lg rt nb fi fo en 1 cu ma (ar * 256 + pg) (by omega)) _) (cwV 1 hts gX0_copy_X0_pageState rfl rfl rfl (by decide +kernel) ⟨Nat.le_of_ble_eq_true rfl, Nat.le_of_ble_eq_true rfl⟩) (pV_B hP hD hK (ci := 0) (q0 := 0) rfl rfl rfl [0, 1] rfl [0, 1, 2, 3, 4, 5, 6] rfl rfl) rfl rfl hl.1 rfl (lv_room (Nat.le_of_ble_eq_true rfl)) dX0_copy_18 ⟨Nat.le_of_ble_eq_true rfl, Nat.le_of_ble_eq_true rfl⟩) [0, 1, 2, 3, 4, 5, 6] [] rfl rfl rfl (by decide) (fun H locs hP hD hS => ?_)
  have hP : va_P D vwCl (wC h0 a0 a1 a2 a3 a4 a5 cI cZ bf pw hs lo lg rt nb (nI fi) (nI fo) (nI en) 1 cu ma) H := hP
  have hD : va_D A (wC h0 a0 a1 a2 a3 a4 a5 cI cZ bf pw hs lo lg rt nb (nI fi) (nI fo) (nI en) 1 cu ma) := hD
  refine lv_if_eq (tgt := 34) hx hb dX0_copy_21 (by decide) (fun c_21 => ?_) (fun c_21 => absurd (hw) c_21)
  refine lv_aload_n hx hb dX0_copy_34 rfl (lv_at hl 1 rfl) ?_
  refine lv_iconst (v := (nI 1)) hx hb dX0_copy_35 (by decide) ?_
  refine lv_iload_n hx hb dX0_copy_36 rfl (lv_at hl 2 rfl) ?_
  refine n_isub hx hb (by omega) dX0_copy_37 ?_
  refine lv_iload_n hx hb dX0_copy_38 rfl (lv_at hl 3 rfl) ?_
  refine k_I (wr := wC h0 a0 a1 a2 a3 a4 a5 cI cZ bf pw hs lo lg rt nb (nI fi) (nI fo) (nI en) 1 cu ma) hP hD hS hA (va_runS (As := [.int (nI (1 - ar)), .int (nI pg)]) (rest := [.ref h0]) ⟨hx, hb, hml, hown, hts⟩ ((tX0_pageIndex (1 - ar) pg) _) (va_cwS 2 hts gX0_copy_X0_pageIndex rfl rfl rfl (by decide +kernel) ⟨Nat.le_of_ble_eq_true rfl, Nat.le_of_ble_eq_true rfl⟩) (pS_B hP hD hK [] rfl [] rfl rfl) rfl rfl hl.1 rfl (lv_room (Nat.le_of_ble_eq_true rfl)) dX0_copy_39 ⟨Nat.le_of_ble_eq_true rfl, Nat.le_of_ble_eq_true rfl⟩) [] [0, 1, 2, 3, 4, 5, 6] rfl rfl rfl (by decide) (fun H locs hP hD hS => ?_)
  have hP : va_P D vwCl (wC h0 a0 a1 a2 a3 a4 a5 cI cZ bf pw hs lo lg rt nb (nI fi) (nI fo) (nI en) 1 cu ma) H := hP
  have hD : va_D A (wC h0 a0 a1 a2 a3 a4 a5 cI cZ bf pw hs lo lg rt nb (nI fi) (nI fo) (nI en) 1 cu ma) := hD
  refine lv_aload_n hx hb dX0_copy_42 rfl (lv_at hl 1 rfl) ?_
  refine va_get (ci := 0) (v := .ref a1) (C := RX0) (T := TX0) (N := 13) hx hb hts inX0_copy hown hK hP 0 rfl rfl 1 (by decide) (hts _ flX0_copy_14) (fun _ h9 => h9) rfl dX0_copy_43 ?_
  refine lv_iload_n hx hb dX0_copy_46 rfl (lv_at hl 0 rfl) ?_
  refine lv_bipush (v := (nI 64)) hx hb dX0_copy_47 (by decide) ?_
  refine n_imul hx hb dX0_copy_49 ?_
  refine k_I (wr := []) hP hD hS hA (va_runV (As := [.int (nI ((1 - ar) * 256 + pg)), .ref a1, .int (nI ((ar * 256 + pg) * 64))]) (rest := []) ⟨hx, hb, hml, hown, hts⟩ ((tX0_writePage_p0 bf pw hs lo lg rt nb fi fo en 1 cu ma ((1 - ar) * 256 + pg) (by omega) ((ar * 256 + pg) * 64) (by omega) h) _) (cwV 3 hts gX0_copy_X0_writePage rfl rfl rfl (by decide +kernel) ⟨Nat.le_of_ble_eq_true rfl, Nat.le_of_ble_eq_true rfl⟩) (pV_B hP hD hK (ci := 0) (q0 := 0) rfl rfl rfl [0, 1] rfl [0, 1, 2, 3, 4, 5, 6] rfl rfl) rfl rfl hl.1 rfl (lv_room (Nat.le_of_ble_eq_true rfl)) dX0_copy_50 ⟨Nat.le_of_ble_eq_true rfl, Nat.le_of_ble_eq_true rfl⟩) [0, 1, 2, 3, 4, 5, 6] [] rfl rfl rfl (by decide) (fun H locs hP hD hS => ?_)
  have hP : va_P D vwCl (wC h0 a0 a1 a2 a3 a4 a5 cI cZ (zf bf) pw hs lo lg rt (nb + 1) (nI fi) (nI fo) (nI fo) 0 cu ma) H := hP
  have hD : va_D A (wC h0 a0 a1 a2 a3 a4 a5 cI cZ (zf bf) pw hs lo lg rt (nb + 1) (nI fi) (nI fo) (nI fo) 0 cu ma) := hD
  exact e_I hx hb hr hlocks hP hD hS rfl dX0_copy_53
set_option maxHeartbeats 4000000 in
set_option maxRecDepth 100000 in
theorem tX0_copy_ok1 {l : Launch} {D : va_G} {cI cZ : ClassId} {h0 a0 a1 a2 a3 a4 a5 : Nat} (bf pw hs lo lg rt : Nat → Int32) (nb : Int32) (fi fo en : Nat) (cu ma : Int32) (ar pg : Nat) (h1 : ar < 2) (h2 : pg < 256) (hw : sp_ps lo hs (ar * 256 + pg) = 0) (h : ¬ cu = 0) (hd : dcu cu = 0) : RI l yX0_copy wsX0_copy 8 0 0 D (tyC cI cZ) (wC h0 a0 a1 a2 a3 a4 a5 cI cZ bf pw hs lo lg rt nb (nI fi) (nI fo) (nI en) 1 cu ma) [.ref h0, .int (nI ar), .int (nI pg)] (-1) (wC h0 a0 a1 a2 a3 a4 a5 cI cZ (zf bf) (va_cpy pw pw ((ar * 256 + pg) * 64) (((1 - ar) * 256 + pg) * 64) 32) (upd hs (((1 - ar) * 256 + pg) * 2) (nb + 1)) lo lg rt (nb + 1) (nI fi) (nI fo) (nI fo) 0 (dcu cu) (ma + 1)) := by
  refine st_I (cc := cX0_copy) (maxL := 4) (ret := (some .int)) (by decide +kernel) rfl (Nat.le_of_ble_eq_true rfl) ?_
  intro p e s m below meth c A hx hb hr hts hown hml hlocks hK hP hD hA hS ls hl
  have hown : s.vm.findClass RX0 = some m.cls := hown
  have hl : lv_has ls 4 [(0, .ref h0), (1, .int (nI ar)), (2, .int (nI pg))] := hl
  refine lv_aload_n hx hb dX0_copy_0 rfl (lv_at hl 0 rfl) ?_
  refine k_V (wr := []) hP hD hS hA (va_runV (As := []) (rest := []) ⟨hx, hb, hml, hown, hts⟩ ((tX0_needPower_ok bf pw hs lo lg rt nb fi fo en cu ma) _) (cwV 0 hts gX0_copy_X0_needPower rfl rfl rfl (by decide +kernel) ⟨Nat.le_of_ble_eq_true rfl, Nat.le_of_ble_eq_true rfl⟩) (pV_B hP hD hK (ci := 0) (q0 := 0) rfl rfl rfl [0, 1] rfl [0, 1, 2, 3, 4, 5, 6] rfl rfl) rfl rfl hl.1 rfl (lv_room (Nat.le_of_ble_eq_true rfl)) dX0_copy_1 ⟨Nat.le_of_ble_eq_true rfl, Nat.le_of_ble_eq_true rfl⟩) [0, 1, 2, 3, 4, 5, 6] [] rfl rfl rfl (by decide) (fun H locs hP hD hS => ?_)
  have hP : va_P D vwCl (wC h0 a0 a1 a2 a3 a4 a5 cI cZ bf pw hs lo lg rt nb (nI fi) (nI fo) (nI en) 1 cu ma) H := hP
  have hD : va_D A (wC h0 a0 a1 a2 a3 a4 a5 cI cZ bf pw hs lo lg rt nb (nI fi) (nI fo) (nI en) 1 cu ma) := hD
  refine lv_aload_n hx hb dX0_copy_4 rfl (lv_at hl 0 rfl) ?_
  refine lv_iload_n hx hb dX0_copy_5 rfl (lv_at hl 1 rfl) ?_
  refine lv_iload_n hx hb dX0_copy_6 rfl (lv_at hl 2 rfl) ?_
  refine k_V (wr := []) hP hD hS hA (va_runV (As := [.int (nI ar), .int (nI pg)]) (rest := []) ⟨hx, hb, hml, hown, hts⟩ ((tX0_needPage_ok bf pw hs lo lg rt nb fi fo en 1 cu ma ar pg (by omega) (by omega)) _) (cwV 2 hts gX0_copy_X0_needPage rfl rfl rfl (by decide +kernel) ⟨Nat.le_of_ble_eq_true rfl, Nat.le_of_ble_eq_true rfl⟩) (pV_B hP hD hK (ci := 0) (q0 := 0) rfl rfl rfl [0, 1] rfl [0, 1, 2, 3, 4, 5, 6] rfl rfl) rfl rfl hl.1 rfl (lv_room (Nat.le_of_ble_eq_true rfl)) dX0_copy_7 ⟨Nat.le_of_ble_eq_true rfl, Nat.le_of_ble_eq_true rfl⟩) [0, 1, 2, 3, 4, 5, 6] [] rfl rfl rfl (by decide) (fun H locs hP hD hS => ?_)
  have hP : va_P D vwCl (wC h0 a0 a1 a2 a3 a4 a5 cI cZ bf pw hs lo lg rt nb (nI fi) (nI fo) (nI en) 1 cu ma) H := hP
  have hD : va_D A (wC h0 a0 a1 a2 a3 a4 a5 cI cZ bf pw hs lo lg rt nb (nI fi) (nI fo) (nI en) 1 cu ma) := hD
  refine lv_iload_n hx hb dX0_copy_10 rfl (lv_at hl 1 rfl) ?_
  refine lv_iload_n hx hb dX0_copy_11 rfl (lv_at hl 2 rfl) ?_
  refine k_I (wr := wC h0 a0 a1 a2 a3 a4 a5 cI cZ bf pw hs lo lg rt nb (nI fi) (nI fo) (nI en) 1 cu ma) hP hD hS hA (va_runS (As := [.int (nI ar), .int (nI pg)]) (rest := []) ⟨hx, hb, hml, hown, hts⟩ ((tX0_pageIndex ar pg) _) (va_cwS 2 hts gX0_copy_X0_pageIndex rfl rfl rfl (by decide +kernel) ⟨Nat.le_of_ble_eq_true rfl, Nat.le_of_ble_eq_true rfl⟩) (pS_B hP hD hK [] rfl [] rfl rfl) rfl rfl hl.1 rfl (lv_room (Nat.le_of_ble_eq_true rfl)) dX0_copy_12 ⟨Nat.le_of_ble_eq_true rfl, Nat.le_of_ble_eq_true rfl⟩) [] [0, 1, 2, 3, 4, 5, 6] rfl rfl rfl (by decide) (fun H locs hP hD hS => ?_)
  have hP : va_P D vwCl (wC h0 a0 a1 a2 a3 a4 a5 cI cZ bf pw hs lo lg rt nb (nI fi) (nI fo) (nI en) 1 cu ma) H := hP
  have hD : va_D A (wC h0 a0 a1 a2 a3 a4 a5 cI cZ bf pw hs lo lg rt nb (nI fi) (nI fo) (nI en) 1 cu ma) := hD
  refine lv_istore_n (lv' := [(3, .int (nI (ar * 256 + pg))), (0, .ref h0), (1, .int (nI ar)), (2, .int (nI pg))]) hx hb dX0_copy_15 rfl hl (by decide) rfl (fun ls hl => ?_)
  refine lv_aload_n hx hb dX0_copy_16 rfl (lv_at hl 1 rfl) ?_
  refine lv_iload_n hx hb dX0_copy_17 rfl (lv_at hl 0 rfl) ?_
  refine k_I (wr := []) hP hD hS hA (va_runV (As := [.int (nI (ar * 256 + pg))]) (rest := []) ⟨hx, hb, hml, hown, hts⟩ ((tX0_pageState bf pw hs lo lg rt nb fi fo en 1 cu ma (ar * 256 + pg) (by omega)) _) (cwV 1 hts gX0_copy_X0_pageState rfl rfl rfl (by decide +kernel) ⟨Nat.le_of_ble_eq_true rfl, Nat.le_of_ble_eq_true rfl⟩) (pV_B hP hD hK (ci := 0) (q0 := 0) rfl rfl rfl [0, 1] rfl [0, 1, 2, 3, 4, 5, 6] rfl rfl) rfl rfl hl.1 rfl (lv_room (Nat.le_of_ble_eq_true rfl)) dX0_copy_18 ⟨Nat.le_of_ble_eq_true rfl, Nat.le_of_ble_eq_true rfl⟩) [0, 1, 2, 3, 4, 5, 6] [] rfl rfl rfl (by decide) (fun H locs hP hD hS => ?_)
  have hP : va_P D vwCl (wC h0 a0 a1 a2 a3 a4 a5 cI cZ bf pw hs lo lg rt nb (nI fi) (nI fo) (nI en) 1 cu ma) H := hP
  have hD : va_D A (wC h0 a0 a1 a2 a3 a4 a5 cI cZ bf pw hs lo lg rt nb (nI fi) (nI fo) (nI en) 1 cu ma) := hD
  refine lv_if_eq (tgt := 34) hx hb dX0_copy_21 (by decide) (fun c_21 => ?_) (fun c_21 => absurd (hw) c_21)
  refine lv_aload_n hx hb dX0_copy_34 rfl (lv_at hl 1 rfl) ?_
  refine lv_iconst (v := (nI 1)) hx hb dX0_copy_35 (by decide) ?_
  refine lv_iload_n hx hb dX0_copy_36 rfl (lv_at hl 2 rfl) ?_
  refine n_isub hx hb (by omega) dX0_copy_37 ?_
  refine lv_iload_n hx hb dX0_copy_38 rfl (lv_at hl 3 rfl) ?_
  refine k_I (wr := wC h0 a0 a1 a2 a3 a4 a5 cI cZ bf pw hs lo lg rt nb (nI fi) (nI fo) (nI en) 1 cu ma) hP hD hS hA (va_runS (As := [.int (nI (1 - ar)), .int (nI pg)]) (rest := [.ref h0]) ⟨hx, hb, hml, hown, hts⟩ ((tX0_pageIndex (1 - ar) pg) _) (va_cwS 2 hts gX0_copy_X0_pageIndex rfl rfl rfl (by decide +kernel) ⟨Nat.le_of_ble_eq_true rfl, Nat.le_of_ble_eq_true rfl⟩) (pS_B hP hD hK [] rfl [] rfl rfl) rfl rfl hl.1 rfl (lv_room (Nat.le_of_ble_eq_true rfl)) dX0_copy_39 ⟨Nat.le_of_ble_eq_true rfl, Nat.le_of_ble_eq_true rfl⟩) [] [0, 1, 2, 3, 4, 5, 6] rfl rfl rfl (by decide) (fun H locs hP hD hS => ?_)
  have hP : va_P D vwCl (wC h0 a0 a1 a2 a3 a4 a5 cI cZ bf pw hs lo lg rt nb (nI fi) (nI fo) (nI en) 1 cu ma) H := hP
  have hD : va_D A (wC h0 a0 a1 a2 a3 a4 a5 cI cZ bf pw hs lo lg rt nb (nI fi) (nI fo) (nI en) 1 cu ma) := hD
  refine lv_aload_n hx hb dX0_copy_42 rfl (lv_at hl 1 rfl) ?_
  refine va_get (ci := 0) (v := .ref a1) (C := RX0) (T := TX0) (N := 13) hx hb hts inX0_copy hown hK hP 0 rfl rfl 1 (by decide) (hts _ flX0_copy_14) (fun _ h9 => h9) rfl dX0_copy_43 ?_
  refine lv_iload_n hx hb dX0_copy_46 rfl (lv_at hl 0 rfl) ?_
  refine lv_bipush (v := (nI 64)) hx hb dX0_copy_47 (by decide) ?_
  refine n_imul hx hb dX0_copy_49 ?_
  refine k_I (wr := []) hP hD hS hA (va_runV (As := [.int (nI ((1 - ar) * 256 + pg)), .ref a1, .int (nI ((ar * 256 + pg) * 64))]) (rest := []) ⟨hx, hb, hml, hown, hts⟩ ((tX0_writePage_p1 bf pw hs lo lg rt nb fi fo en 1 cu ma ((1 - ar) * 256 + pg) (by omega) ((ar * 256 + pg) * 64) (by omega) h hd) _) (cwV 3 hts gX0_copy_X0_writePage rfl rfl rfl (by decide +kernel) ⟨Nat.le_of_ble_eq_true rfl, Nat.le_of_ble_eq_true rfl⟩) (pV_B hP hD hK (ci := 0) (q0 := 0) rfl rfl rfl [0, 1] rfl [0, 1, 2, 3, 4, 5, 6] rfl rfl) rfl rfl hl.1 rfl (lv_room (Nat.le_of_ble_eq_true rfl)) dX0_copy_50 ⟨Nat.le_of_ble_eq_true rfl, Nat.le_of_ble_eq_true rfl⟩) [0, 1, 2, 3, 4, 5, 6] [] rfl rfl rfl (by decide) (fun H locs hP hD hS => ?_)
  have hP : va_P D vwCl (wC h0 a0 a1 a2 a3 a4 a5 cI cZ (zf bf) (va_cpy pw pw ((ar * 256 + pg) * 64) (((1 - ar) * 256 + pg) * 64) 32) (upd hs (((1 - ar) * 256 + pg) * 2) (nb + 1)) lo lg rt (nb + 1) (nI fi) (nI fo) (nI fo) 0 (dcu cu) (ma + 1)) H := hP
  have hD : va_D A (wC h0 a0 a1 a2 a3 a4 a5 cI cZ (zf bf) (va_cpy pw pw ((ar * 256 + pg) * 64) (((1 - ar) * 256 + pg) * 64) 32) (upd hs (((1 - ar) * 256 + pg) * 2) (nb + 1)) lo lg rt (nb + 1) (nI fi) (nI fo) (nI fo) 0 (dcu cu) (ma + 1)) := hD
  exact e_I hx hb hr hlocks hP hD hS rfl dX0_copy_53
set_option maxHeartbeats 4000000 in
set_option maxRecDepth 100000 in
theorem tX0_copy_ok2 {l : Launch} {D : va_G} {cI cZ : ClassId} {h0 a0 a1 a2 a3 a4 a5 : Nat} (bf pw hs lo lg rt : Nat → Int32) (nb : Int32) (fi fo en : Nat) (cu ma : Int32) (ar pg : Nat) (h1 : ar < 2) (h2 : pg < 256) (hw : sp_ps lo hs (ar * 256 + pg) = 0) (h : ¬ cu = 0) (hd : ¬ dcu cu = 0) : RI l yX0_copy wsX0_copy 8 0 0 D (tyC cI cZ) (wC h0 a0 a1 a2 a3 a4 a5 cI cZ bf pw hs lo lg rt nb (nI fi) (nI fo) (nI en) 1 cu ma) [.ref h0, .int (nI ar), .int (nI pg)] (nb + 1) (wC h0 a0 a1 a2 a3 a4 a5 cI cZ bf (va_cpy (va_cpy pw pw ((ar * 256 + pg) * 64) (((1 - ar) * 256 + pg) * 64) 32) (va_cpy pw pw ((ar * 256 + pg) * 64) (((1 - ar) * 256 + pg) * 64) 32) (((ar * 256 + pg) * 64) + 32) (((1 - ar) * 256 + pg) * 64 + 32) 32) (upd (upd hs (((1 - ar) * 256 + pg) * 2) (nb + 1)) (((1 - ar) * 256 + pg) * 2 + 1) (nb + 1)) (upd lo ((1 - ar) * 256 + pg) 0) lg rt (nb + 1) (nI fi) (nI fo) (nI en) 1 (dcu (dcu cu)) (ma + 1 + 1)) := by
  refine st_I (cc := cX0_copy) (maxL := 4) (ret := (some .int)) (by decide +kernel) rfl (Nat.le_of_ble_eq_true rfl) ?_
  intro p e s m below meth c A hx hb hr hts hown hml hlocks hK hP hD hA hS ls hl
  have hown : s.vm.findClass RX0 = some m.cls := hown
  have hl : lv_has ls 4 [(0, .ref h0), (1, .int (nI ar)), (2, .int (nI pg))] := hl
  refine lv_aload_n hx hb dX0_copy_0 rfl (lv_at hl 0 rfl) ?_
  refine k_V (wr := []) hP hD hS hA (va_runV (As := []) (rest := []) ⟨hx, hb, hml, hown, hts⟩ ((tX0_needPower_ok bf pw hs lo lg rt nb fi fo en cu ma) _) (cwV 0 hts gX0_copy_X0_needPower rfl rfl rfl (by decide +kernel) ⟨Nat.le_of_ble_eq_true rfl, Nat.le_of_ble_eq_true rfl⟩) (pV_B hP hD hK (ci := 0) (q0 := 0) rfl rfl rfl [0, 1] rfl [0, 1, 2, 3, 4, 5, 6] rfl rfl) rfl rfl hl.1 rfl (lv_room (Nat.le_of_ble_eq_true rfl)) dX0_copy_1 ⟨Nat.le_of_ble_eq_true rfl, Nat.le_of_ble_eq_true rfl⟩) [0, 1, 2, 3, 4, 5, 6] [] rfl rfl rfl (by decide) (fun H locs hP hD hS => ?_)
  have hP : va_P D vwCl (wC h0 a0 a1 a2 a3 a4 a5 cI cZ bf pw hs lo lg rt nb (nI fi) (nI fo) (nI en) 1 cu ma) H := hP
  have hD : va_D A (wC h0 a0 a1 a2 a3 a4 a5 cI cZ bf pw hs lo lg rt nb (nI fi) (nI fo) (nI en) 1 cu ma) := hD
  refine lv_aload_n hx hb dX0_copy_4 rfl (lv_at hl 0 rfl) ?_
  refine lv_iload_n hx hb dX0_copy_5 rfl (lv_at hl 1 rfl) ?_
  refine lv_iload_n hx hb dX0_copy_6 rfl (lv_at hl 2 rfl) ?_
  refine k_V (wr := []) hP hD hS hA (va_runV (As := [.int (nI ar), .int (nI pg)]) (rest := []) ⟨hx, hb, hml, hown, hts⟩ ((tX0_needPage_ok bf pw hs lo lg rt nb fi fo en 1 cu ma ar pg (by omega) (by omega)) _) (cwV 2 hts gX0_copy_X0_needPage rfl rfl rfl (by decide +kernel) ⟨Nat.le_of_ble_eq_true rfl, Nat.le_of_ble_eq_true rfl⟩) (pV_B hP hD hK (ci := 0) (q0 := 0) rfl rfl rfl [0, 1] rfl [0, 1, 2, 3, 4, 5, 6] rfl rfl) rfl rfl hl.1 rfl (lv_room (Nat.le_of_ble_eq_true rfl)) dX0_copy_7 ⟨Nat.le_of_ble_eq_true rfl, Nat.le_of_ble_eq_true rfl⟩) [0, 1, 2, 3, 4, 5, 6] [] rfl rfl rfl (by decide) (fun H locs hP hD hS => ?_)
  have hP : va_P D vwCl (wC h0 a0 a1 a2 a3 a4 a5 cI cZ bf pw hs lo lg rt nb (nI fi) (nI fo) (nI en) 1 cu ma) H := hP
  have hD : va_D A (wC h0 a0 a1 a2 a3 a4 a5 cI cZ bf pw hs lo lg rt nb (nI fi) (nI fo) (nI en) 1 cu ma) := hD
  refine lv_iload_n hx hb dX0_copy_10 rfl (lv_at hl 1 rfl) ?_
  refine lv_iload_n hx hb dX0_copy_11 rfl (lv_at hl 2 rfl) ?_
  refine k_I (wr := wC h0 a0 a1 a2 a3 a4 a5 cI cZ bf pw hs lo lg rt nb (nI fi) (nI fo) (nI en) 1 cu ma) hP hD hS hA (va_runS (As := [.int (nI ar), .int (nI pg)]) (rest := []) ⟨hx, hb, hml, hown, hts⟩ ((tX0_pageIndex ar pg) _) (va_cwS 2 hts gX0_copy_X0_pageIndex rfl rfl rfl (by decide +kernel) ⟨Nat.le_of_ble_eq_true rfl, Nat.le_of_ble_eq_true rfl⟩) (pS_B hP hD hK [] rfl [] rfl rfl) rfl rfl hl.1 rfl (lv_room (Nat.le_of_ble_eq_true rfl)) dX0_copy_12 ⟨Nat.le_of_ble_eq_true rfl, Nat.le_of_ble_eq_true rfl⟩) [] [0, 1, 2, 3, 4, 5, 6] rfl rfl rfl (by decide) (fun H locs hP hD hS => ?_)
  have hP : va_P D vwCl (wC h0 a0 a1 a2 a3 a4 a5 cI cZ bf pw hs lo lg rt nb (nI fi) (nI fo) (nI en) 1 cu ma) H := hP
  have hD : va_D A (wC h0 a0 a1 a2 a3 a4 a5 cI cZ bf pw hs lo lg rt nb (nI fi) (nI fo) (nI en) 1 cu ma) := hD
  refine lv_istore_n (lv' := [(3, .int (nI (ar * 256 + pg))), (0, .ref h0), (1, .int (nI ar)), (2, .int (nI pg))]) hx hb dX0_copy_15 rfl hl (by decide) rfl (fun ls hl => ?_)
  refine lv_aload_n hx hb dX0_copy_16 rfl (lv_at hl 1 rfl) ?_
  refine lv_iload_n hx hb dX0_copy_17 rfl (lv_at hl 0 rfl) ?_
  refine k_I (wr := []) hP hD hS hA (va_runV (As := [.int (nI (ar * 256 + pg))]) (rest := []) ⟨hx, hb, hml, hown, hts⟩ ((tX0_pageState bf pw hs lo lg rt nb fi fo en 1 cu ma (ar * 256 + pg) (by omega)) _) (cwV 1 hts gX0_copy_X0_pageState rfl rfl rfl (by decide +kernel) ⟨Nat.le_of_ble_eq_true rfl, Nat.le_of_ble_eq_true rfl⟩) (pV_B hP hD hK (ci := 0) (q0 := 0) rfl rfl rfl [0, 1] rfl [0, 1, 2, 3, 4, 5, 6] rfl rfl) rfl rfl hl.1 rfl (lv_room (Nat.le_of_ble_eq_true rfl)) dX0_copy_18 ⟨Nat.le_of_ble_eq_true rfl, Nat.le_of_ble_eq_true rfl⟩) [0, 1, 2, 3, 4, 5, 6] [] rfl rfl rfl (by decide) (fun H locs hP hD hS => ?_)
  have hP : va_P D vwCl (wC h0 a0 a1 a2 a3 a4 a5 cI cZ bf pw hs lo lg rt nb (nI fi) (nI fo) (nI en) 1 cu ma) H := hP
  have hD : va_D A (wC h0 a0 a1 a2 a3 a4 a5 cI cZ bf pw hs lo lg rt nb (nI fi) (nI fo) (nI en) 1 cu ma) := hD
  refine lv_if_eq (tgt := 34) hx hb dX0_copy_21 (by decide) (fun c_21 => ?_) (fun c_21 => absurd (hw) c_21)
  refine lv_aload_n hx hb dX0_copy_34 rfl (lv_at hl 1 rfl) ?_
  refine lv_iconst (v := (nI 1)) hx hb dX0_copy_35 (by decide) ?_
  refine lv_iload_n hx hb dX0_copy_36 rfl (lv_at hl 2 rfl) ?_
  refine n_isub hx hb (by omega) dX0_copy_37 ?_
  refine lv_iload_n hx hb dX0_copy_38 rfl (lv_at hl 3 rfl) ?_
  refine k_I (wr := wC h0 a0 a1 a2 a3 a4 a5 cI cZ bf pw hs lo lg rt nb (nI fi) (nI fo) (nI en) 1 cu ma) hP hD hS hA (va_runS (As := [.int (nI (1 - ar)), .int (nI pg)]) (rest := [.ref h0]) ⟨hx, hb, hml, hown, hts⟩ ((tX0_pageIndex (1 - ar) pg) _) (va_cwS 2 hts gX0_copy_X0_pageIndex rfl rfl rfl (by decide +kernel) ⟨Nat.le_of_ble_eq_true rfl, Nat.le_of_ble_eq_true rfl⟩) (pS_B hP hD hK [] rfl [] rfl rfl) rfl rfl hl.1 rfl (lv_room (Nat.le_of_ble_eq_true rfl)) dX0_copy_39 ⟨Nat.le_of_ble_eq_true rfl, Nat.le_of_ble_eq_true rfl⟩) [] [0, 1, 2, 3, 4, 5, 6] rfl rfl rfl (by decide) (fun H locs hP hD hS => ?_)
  have hP : va_P D vwCl (wC h0 a0 a1 a2 a3 a4 a5 cI cZ bf pw hs lo lg rt nb (nI fi) (nI fo) (nI en) 1 cu ma) H := hP
  have hD : va_D A (wC h0 a0 a1 a2 a3 a4 a5 cI cZ bf pw hs lo lg rt nb (nI fi) (nI fo) (nI en) 1 cu ma) := hD
  refine lv_aload_n hx hb dX0_copy_42 rfl (lv_at hl 1 rfl) ?_
  refine va_get (ci := 0) (v := .ref a1) (C := RX0) (T := TX0) (N := 13) hx hb hts inX0_copy hown hK hP 0 rfl rfl 1 (by decide) (hts _ flX0_copy_14) (fun _ h9 => h9) rfl dX0_copy_43 ?_
  refine lv_iload_n hx hb dX0_copy_46 rfl (lv_at hl 0 rfl) ?_
  refine lv_bipush (v := (nI 64)) hx hb dX0_copy_47 (by decide) ?_
  refine n_imul hx hb dX0_copy_49 ?_
  refine k_I (wr := []) hP hD hS hA (va_runV (As := [.int (nI ((1 - ar) * 256 + pg)), .ref a1, .int (nI ((ar * 256 + pg) * 64))]) (rest := []) ⟨hx, hb, hml, hown, hts⟩ ((tX0_writePage_p2 bf pw hs lo lg rt nb fi fo en 1 cu ma ((1 - ar) * 256 + pg) (by omega) ((ar * 256 + pg) * 64) (by omega) h hd) _) (cwV 3 hts gX0_copy_X0_writePage rfl rfl rfl (by decide +kernel) ⟨Nat.le_of_ble_eq_true rfl, Nat.le_of_ble_eq_true rfl⟩) (pV_B hP hD hK (ci := 0) (q0 := 0) rfl rfl rfl [0, 1] rfl [0, 1, 2, 3, 4, 5, 6] rfl rfl) rfl rfl hl.1 rfl (lv_room (Nat.le_of_ble_eq_true rfl)) dX0_copy_50 ⟨Nat.le_of_ble_eq_true rfl, Nat.le_of_ble_eq_true rfl⟩) [0, 1, 2, 3, 4, 5, 6] [] rfl rfl rfl (by decide) (fun H locs hP hD hS => ?_)
  have hP : va_P D vwCl (wC h0 a0 a1 a2 a3 a4 a5 cI cZ bf (va_cpy (va_cpy pw pw ((ar * 256 + pg) * 64) (((1 - ar) * 256 + pg) * 64) 32) (va_cpy pw pw ((ar * 256 + pg) * 64) (((1 - ar) * 256 + pg) * 64) 32) (((ar * 256 + pg) * 64) + 32) (((1 - ar) * 256 + pg) * 64 + 32) 32) (upd (upd hs (((1 - ar) * 256 + pg) * 2) (nb + 1)) (((1 - ar) * 256 + pg) * 2 + 1) (nb + 1)) (upd lo ((1 - ar) * 256 + pg) 0) lg rt (nb + 1) (nI fi) (nI fo) (nI en) 1 (dcu (dcu cu)) (ma + 1 + 1)) H := hP
  have hD : va_D A (wC h0 a0 a1 a2 a3 a4 a5 cI cZ bf (va_cpy (va_cpy pw pw ((ar * 256 + pg) * 64) (((1 - ar) * 256 + pg) * 64) 32) (va_cpy pw pw ((ar * 256 + pg) * 64) (((1 - ar) * 256 + pg) * 64) 32) (((ar * 256 + pg) * 64) + 32) (((1 - ar) * 256 + pg) * 64 + 32) 32) (upd (upd hs (((1 - ar) * 256 + pg) * 2) (nb + 1)) (((1 - ar) * 256 + pg) * 2 + 1) (nb + 1)) (upd lo ((1 - ar) * 256 + pg) 0) lg rt (nb + 1) (nI fi) (nI fo) (nI en) 1 (dcu (dcu cu)) (ma + 1 + 1)) := hD
  exact e_I hx hb hr hlocks hP hD hS rfl dX0_copy_53
set_option maxHeartbeats 4000000 in
set_option maxRecDepth 100000 in
theorem tX0_lose_ok {l : Launch} {D : va_G} {cI cZ : ClassId} {h0 a0 a1 a2 a3 a4 a5 : Nat} (bf pw hs lo lg rt : Nat → Int32) (nb : Int32) (fi fo en : Nat) (on cu ma : Int32) (ar pg : Nat) (h1 : ar < 2) (h2 : pg < 256) : RV l yX0_lose wsX0_lose 8 0 0 D (tyC cI cZ) (wC h0 a0 a1 a2 a3 a4 a5 cI cZ bf pw hs lo lg rt nb (nI fi) (nI fo) (nI en) on cu ma) [.ref h0, .int (nI ar), .int (nI pg)] (wC h0 a0 a1 a2 a3 a4 a5 cI cZ bf pw hs (upd lo (ar * 256 + pg) 1) lg rt nb (nI fi) (nI fo) (nI en) on cu ma) := by
  refine st_V (cc := cX0_lose) (maxL := 3) (ret := none) (by decide +kernel) rfl (Nat.le_of_ble_eq_true rfl) ?_
  intro p e s m below meth c A hx hb hr hts hown hml hlocks hK hP hD hA hS ls hl
  have hown : s.vm.findClass RX0 = some m.cls := hown
  have hl : lv_has ls 3 [(0, .ref h0), (1, .int (nI ar)), (2, .int (nI pg))] := hl
  refine lv_aload_n hx hb dX0_lose_0 rfl (lv_at hl 0 rfl) ?_
  refine lv_iload_n hx hb dX0_lose_1 rfl (lv_at hl 1 rfl) ?_
  refine lv_iload_n hx hb dX0_lose_2 rfl (lv_at hl 2 rfl) ?_
  refine k_V (wr := []) hP hD hS hA (va_runV (As := [.int (nI ar), .int (nI pg)]) (rest := []) ⟨hx, hb, hml, hown, hts⟩ ((tX0_needPage_ok bf pw hs lo lg rt nb fi fo en on cu ma ar pg (by omega) (by omega)) _) (cwV 2 hts gX0_lose_X0_needPage rfl rfl rfl (by decide +kernel) ⟨Nat.le_of_ble_eq_true rfl, Nat.le_of_ble_eq_true rfl⟩) (pV_B hP hD hK (ci := 0) (q0 := 0) rfl rfl rfl [0, 1] rfl [0, 1, 2, 3, 4, 5, 6] rfl rfl) rfl rfl hl.1 rfl (lv_room (Nat.le_of_ble_eq_true rfl)) dX0_lose_3 ⟨Nat.le_of_ble_eq_true rfl, Nat.le_of_ble_eq_true rfl⟩) [0, 1, 2, 3, 4, 5, 6] [] rfl rfl rfl (by decide) (fun H locs hP hD hS => ?_)
  have hP : va_P D vwCl (wC h0 a0 a1 a2 a3 a4 a5 cI cZ bf pw hs lo lg rt nb (nI fi) (nI fo) (nI en) on cu ma) H := hP
  have hD : va_D A (wC h0 a0 a1 a2 a3 a4 a5 cI cZ bf pw hs lo lg rt nb (nI fi) (nI fo) (nI en) on cu ma) := hD
  refine lv_aload_n hx hb dX0_lose_6 rfl (lv_at hl 0 rfl) ?_
  refine va_get (ci := 0) (v := .ref a3) (C := RX0) (T := TX0) (N := 13) hx hb hts inX0_lose hown hK hP 0 rfl rfl 3 (by decide) (hts _ flX0_lose_20) (fun _ h9 => h9) rfl dX0_lose_7 ?_
  refine lv_iload_n hx hb dX0_lose_10 rfl (lv_at hl 1 rfl) ?_
  refine lv_iload_n hx hb dX0_lose_11 rfl (lv_at hl 2 rfl) ?_
  refine k_I (wr := wC h0 a0 a1 a2 a3 a4 a5 cI cZ bf pw hs lo lg rt nb (nI fi) (nI fo) (nI en) on cu ma) hP hD hS hA (va_runS (As := [.int (nI ar), .int (nI pg)]) (rest := [.ref a3]) ⟨hx, hb, hml, hown, hts⟩ ((tX0_pageIndex ar pg) _) (va_cwS 2 hts gX0_lose_X0_pageIndex rfl rfl rfl (by decide +kernel) ⟨Nat.le_of_ble_eq_true rfl, Nat.le_of_ble_eq_true rfl⟩) (pS_B hP hD hK [] rfl [] rfl rfl) rfl rfl hl.1 rfl (lv_room (Nat.le_of_ble_eq_true rfl)) dX0_lose_12 ⟨Nat.le_of_ble_eq_true rfl, Nat.le_of_ble_eq_true rfl⟩) [] [0, 1, 2, 3, 4, 5, 6] rfl rfl rfl (by decide) (fun H locs hP hD hS => ?_)
  have hP : va_P D vwCl (wC h0 a0 a1 a2 a3 a4 a5 cI cZ bf pw hs lo lg rt nb (nI fi) (nI fo) (nI en) on cu ma) H := hP
  have hD : va_D A (wC h0 a0 a1 a2 a3 a4 a5 cI cZ bf pw hs lo lg rt nb (nI fi) (nI fo) (nI en) on cu ma) := hD
  refine lv_iconst (v := (1)) hx hb dX0_lose_15 (by decide) ?_
  refine n_zast hx hb hK hP hD hS 4 1 rfl rfl (ar * 256 + pg) (by omega) (by omega) (by decide) dX0_lose_16 (fun H locs hP hD hS => ?_)
  have hP : va_P D vwCl (wC h0 a0 a1 a2 a3 a4 a5 cI cZ bf pw hs (upd lo (ar * 256 + pg) 1) lg rt nb (nI fi) (nI fo) (nI en) on cu ma) H := hP
  have hD : va_D A (wC h0 a0 a1 a2 a3 a4 a5 cI cZ bf pw hs (upd lo (ar * 256 + pg) 1) lg rt nb (nI fi) (nI fo) (nI en) on cu ma) := hD
  exact e_V hx hb hr hlocks hP hD hS dX0_lose_17
set_option maxHeartbeats 4000000 in
set_option maxRecDepth 100000 in
theorem tX0_stamp_xb {l : Launch} {D : va_G} {cI cZ : ClassId} {h0 a0 a1 a2 a3 a4 a5 : Nat} (hl0 : l.stackTraces = false) (bf pw hs lo lg rt : Nat → Int32) (nb : Int32) (fi fo en : Nat) (on cu ma : Int32) (x y z : Int32) (h : badS x y z) : RX l yX0_stamp wsX0_stamp 8 D (tyC cI cZ) (wC h0 a0 a1 a2 a3 a4 a5 cI cZ bf pw hs lo lg rt nb (nI fi) (nI fo) (nI en) on cu ma) [.ref h0, .int x, .int y, .int z] xIOB := by
  refine st_X (cc := cX0_stamp) (maxL := 4) (ret := (some .int)) (by decide +kernel) rfl (Nat.le_of_ble_eq_true rfl) ?_
  intro p e s m below meth c A hx hb hr hts hown hml hlocks hK hP hD hA hS ls hl hT hex
  have hown : s.vm.findClass RX0 = some m.cls := hown
  have hl : lv_has ls 4 [(0, .ref h0), (1, .int x), (2, .int y), (3, .int z)] := hl
  rcases h with h | ⟨ar, pg, h1, h2, rfl, rfl, h⟩
  · refine lv_aload_n hx hb dX0_stamp_0 rfl (lv_at hl 0 rfl) ?_
    refine lv_iload_n hx hb dX0_stamp_1 rfl (lv_at hl 1 rfl) ?_
    refine lv_iload_n hx hb dX0_stamp_2 rfl (lv_at hl 2 rfl) ?_
    rcases h with h | ⟨ar, h1, rfl, h⟩
    · exact k_XX hlocks hex (Nat.le_of_ble_eq_true rfl) (Nat.le_of_ble_eq_true rfl) (wr := []) hP hD hS hA (vx_runV (As := [.int x, .int y]) (rest := []) ⟨hx, hb, hml, hown, hts⟩ ((tX0_needPage_x1 hl0 bf pw hs lo lg rt nb fi fo en on cu ma x y h) _) (cwV 2 hts gX0_stamp_X0_needPage rfl rfl rfl (by decide +kernel) ⟨Nat.le_of_ble_eq_true rfl, Nat.le_of_ble_eq_true rfl⟩) (pV_X hP hD hK hS hA hT (ci := 0) (q0 := 0) rfl rfl rfl [0, 1] rfl [0, 1, 2, 3, 4, 5, 6] rfl rfl) rfl rfl hl.1 rfl (lv_room (Nat.le_of_ble_eq_true rfl)) dX0_stamp_3 ⟨Nat.le_of_ble_eq_true rfl, Nat.le_of_ble_eq_true rfl⟩) [0, 1, 2, 3, 4, 5, 6] [] rfl rfl rfl (by decide)
    · exact k_XX hlocks hex (Nat.le_of_ble_eq_true rfl) (Nat.le_of_ble_eq_true rfl) (wr := []) hP hD hS hA (vx_runV (As := [.int (nI ar), .int y]) (rest := []) ⟨hx, hb, hml, hown, hts⟩ ((tX0_needPage_x2 hl0 bf pw hs lo lg rt nb fi fo en on cu ma ar y h1 h) _) (cwV 2 hts gX0_stamp_X0_needPage rfl rfl rfl (by decide +kernel) ⟨Nat.le_of_ble_eq_true rfl, Nat.le_of_ble_eq_true rfl⟩) (pV_X hP hD hK hS hA hT (ci := 0) (q0 := 0) rfl rfl rfl [0, 1] rfl [0, 1, 2, 3, 4, 5, 6] rfl rfl) rfl rfl hl.1 rfl (lv_room (Nat.le_of_ble_eq_true rfl)) dX0_stamp_3 ⟨Nat.le_of_ble_eq_true rfl, Nat.le_of_ble_eq_true rfl⟩) [0, 1, 2, 3, 4, 5, 6] [] rfl rfl rfl (by decide)
  · refine lv_aload_n hx hb dX0_stamp_0 rfl (lv_at hl 0 rfl) ?_
    refine lv_iload_n hx hb dX0_stamp_1 rfl (lv_at hl 1 rfl) ?_
    refine lv_iload_n hx hb dX0_stamp_2 rfl (lv_at hl 2 rfl) ?_
    refine k_V (wr := []) hP hD hS hA (va_runV (As := [.int (nI ar), .int (nI pg)]) (rest := []) ⟨hx, hb, hml, hown, hts⟩ ((tX0_needPage_ok bf pw hs lo lg rt nb fi fo en on cu ma ar pg (by omega) (by omega)) _) (cwV 2 hts gX0_stamp_X0_needPage rfl rfl rfl (by decide +kernel) ⟨Nat.le_of_ble_eq_true rfl, Nat.le_of_ble_eq_true rfl⟩) (pV_B hP hD hK (ci := 0) (q0 := 0) rfl rfl rfl [0, 1] rfl [0, 1, 2, 3, 4, 5, 6] rfl rfl) rfl rfl hl.1 rfl (lv_room (Nat.le_of_ble_eq_true rfl)) dX0_stamp_3 ⟨Nat.le_of_ble_eq_true rfl, Nat.le_of_ble_eq_true rfl⟩) [0, 1, 2, 3, 4, 5, 6] [] rfl rfl rfl (by decide) (fun H locs hP hD hS => ?_)
    have hP : va_P D vwCl (wC h0 a0 a1 a2 a3 a4 a5 cI cZ bf pw hs lo lg rt nb (nI fi) (nI fo) (nI en) on cu ma) H := hP
    have hD : va_D A (wC h0 a0 a1 a2 a3 a4 a5 cI cZ bf pw hs lo lg rt nb (nI fi) (nI fo) (nI en) on cu ma) := hD
    refine lv_iload_n hx hb dX0_stamp_6 rfl (lv_at hl 3 rfl) ?_
    refine lv_iconst (v := (nI 2)) hx hb dX0_stamp_7 (by decide) ?_
    exact k_XX hlocks hex (Nat.le_of_ble_eq_true rfl) (Nat.le_of_ble_eq_true rfl) (wr := wC h0 a0 a1 a2 a3 a4 a5 cI cZ bf pw hs lo lg rt nb (nI fi) (nI fo) (nI en) on cu ma) hP hD hS hA (vx_runS (As := [.int z, .int (nI 2)]) (rest := []) ⟨hx, hb, hml, hown, hts⟩ ((tX0_needIndex_x hl0 z 2 h) _) (va_cwS 2 hts gX0_stamp_X0_needIndex rfl rfl rfl (by decide +kernel) ⟨Nat.le_of_ble_eq_true rfl, Nat.le_of_ble_eq_true rfl⟩) (pS_X hP hD hK hS hA hT [] rfl [] rfl rfl) rfl rfl hl.1 rfl (lv_room (Nat.le_of_ble_eq_true rfl)) dX0_stamp_8 ⟨Nat.le_of_ble_eq_true rfl, Nat.le_of_ble_eq_true rfl⟩) [] [0, 1, 2, 3, 4, 5, 6] rfl rfl rfl (by decide)
set_option maxHeartbeats 4000000 in
set_option maxRecDepth 100000 in
theorem tX0_stamp_ok {l : Launch} {D : va_G} {cI cZ : ClassId} {h0 a0 a1 a2 a3 a4 a5 : Nat} (bf pw hs lo lg rt : Nat → Int32) (nb : Int32) (fi fo en : Nat) (on cu ma : Int32) (ar pg : Nat) (h1 : ar < 2) (h2 : pg < 256) (hf : Nat) (h3 : hf < 2) : RI l yX0_stamp wsX0_stamp 8 0 0 D (tyC cI cZ) (wC h0 a0 a1 a2 a3 a4 a5 cI cZ bf pw hs lo lg rt nb (nI fi) (nI fo) (nI en) on cu ma) [.ref h0, .int (nI ar), .int (nI pg), .int (nI hf)] (hs ((ar * 256 + pg) * 2 + hf)) (wC h0 a0 a1 a2 a3 a4 a5 cI cZ bf pw hs lo lg rt nb (nI fi) (nI fo) (nI en) on cu ma) := by
  refine st_I (cc := cX0_stamp) (maxL := 4) (ret := (some .int)) (by decide +kernel) rfl (Nat.le_of_ble_eq_true rfl) ?_
  intro p e s m below meth c A hx hb hr hts hown hml hlocks hK hP hD hA hS ls hl
  have hown : s.vm.findClass RX0 = some m.cls := hown
  have hl : lv_has ls 4 [(0, .ref h0), (1, .int (nI ar)), (2, .int (nI pg)), (3, .int (nI hf))] := hl
  refine lv_aload_n hx hb dX0_stamp_0 rfl (lv_at hl 0 rfl) ?_
  refine lv_iload_n hx hb dX0_stamp_1 rfl (lv_at hl 1 rfl) ?_
  refine lv_iload_n hx hb dX0_stamp_2 rfl (lv_at hl 2 rfl) ?_
  refine k_V (wr := []) hP hD hS hA (va_runV (As := [.int (nI ar), .int (nI pg)]) (rest := []) ⟨hx, hb, hml, hown, hts⟩ ((tX0_needPage_ok bf pw hs lo lg rt nb fi fo en on cu ma ar pg (by omega) (by omega)) _) (cwV 2 hts gX0_stamp_X0_needPage rfl rfl rfl (by decide +kernel) ⟨Nat.le_of_ble_eq_true rfl, Nat.le_of_ble_eq_true rfl⟩) (pV_B hP hD hK (ci := 0) (q0 := 0) rfl rfl rfl [0, 1] rfl [0, 1, 2, 3, 4, 5, 6] rfl rfl) rfl rfl hl.1 rfl (lv_room (Nat.le_of_ble_eq_true rfl)) dX0_stamp_3 ⟨Nat.le_of_ble_eq_true rfl, Nat.le_of_ble_eq_true rfl⟩) [0, 1, 2, 3, 4, 5, 6] [] rfl rfl rfl (by decide) (fun H locs hP hD hS => ?_)
  have hP : va_P D vwCl (wC h0 a0 a1 a2 a3 a4 a5 cI cZ bf pw hs lo lg rt nb (nI fi) (nI fo) (nI en) on cu ma) H := hP
  have hD : va_D A (wC h0 a0 a1 a2 a3 a4 a5 cI cZ bf pw hs lo lg rt nb (nI fi) (nI fo) (nI en) on cu ma) := hD
  refine lv_iload_n hx hb dX0_stamp_6 rfl (lv_at hl 3 rfl) ?_
  refine lv_iconst (v := (nI 2)) hx hb dX0_stamp_7 (by decide) ?_
  refine k_V (wr := wC h0 a0 a1 a2 a3 a4 a5 cI cZ bf pw hs lo lg rt nb (nI fi) (nI fo) (nI en) on cu ma) hP hD hS hA (va_runS (As := [.int (nI hf), .int (nI 2)]) (rest := []) ⟨hx, hb, hml, hown, hts⟩ ((tX0_needIndex_ok hf 2 (by omega) (by omega)) _) (va_cwS 2 hts gX0_stamp_X0_needIndex rfl rfl rfl (by decide +kernel) ⟨Nat.le_of_ble_eq_true rfl, Nat.le_of_ble_eq_true rfl⟩) (pS_B hP hD hK [] rfl [] rfl rfl) rfl rfl hl.1 rfl (lv_room (Nat.le_of_ble_eq_true rfl)) dX0_stamp_8 ⟨Nat.le_of_ble_eq_true rfl, Nat.le_of_ble_eq_true rfl⟩) [] [0, 1, 2, 3, 4, 5, 6] rfl rfl rfl (by decide) (fun H locs hP hD hS => ?_)
  have hP : va_P D vwCl (wC h0 a0 a1 a2 a3 a4 a5 cI cZ bf pw hs lo lg rt nb (nI fi) (nI fo) (nI en) on cu ma) H := hP
  have hD : va_D A (wC h0 a0 a1 a2 a3 a4 a5 cI cZ bf pw hs lo lg rt nb (nI fi) (nI fo) (nI en) on cu ma) := hD
  refine lv_aload_n hx hb dX0_stamp_11 rfl (lv_at hl 0 rfl) ?_
  refine va_get (ci := 0) (v := .ref a2) (C := RX0) (T := TX0) (N := 13) hx hb hts inX0_stamp hown hK hP 0 rfl rfl 2 (by decide) (hts _ flX0_stamp_17) (fun _ h9 => h9) rfl dX0_stamp_12 ?_
  refine lv_iload_n hx hb dX0_stamp_15 rfl (lv_at hl 1 rfl) ?_
  refine lv_iload_n hx hb dX0_stamp_16 rfl (lv_at hl 2 rfl) ?_
  refine k_I (wr := wC h0 a0 a1 a2 a3 a4 a5 cI cZ bf pw hs lo lg rt nb (nI fi) (nI fo) (nI en) on cu ma) hP hD hS hA (va_runS (As := [.int (nI ar), .int (nI pg)]) (rest := [.ref a2]) ⟨hx, hb, hml, hown, hts⟩ ((tX0_pageIndex ar pg) _) (va_cwS 2 hts gX0_stamp_X0_pageIndex rfl rfl rfl (by decide +kernel) ⟨Nat.le_of_ble_eq_true rfl, Nat.le_of_ble_eq_true rfl⟩) (pS_B hP hD hK [] rfl [] rfl rfl) rfl rfl hl.1 rfl (lv_room (Nat.le_of_ble_eq_true rfl)) dX0_stamp_17 ⟨Nat.le_of_ble_eq_true rfl, Nat.le_of_ble_eq_true rfl⟩) [] [0, 1, 2, 3, 4, 5, 6] rfl rfl rfl (by decide) (fun H locs hP hD hS => ?_)
  have hP : va_P D vwCl (wC h0 a0 a1 a2 a3 a4 a5 cI cZ bf pw hs lo lg rt nb (nI fi) (nI fo) (nI en) on cu ma) H := hP
  have hD : va_D A (wC h0 a0 a1 a2 a3 a4 a5 cI cZ bf pw hs lo lg rt nb (nI fi) (nI fo) (nI en) on cu ma) := hD
  refine lv_iconst (v := (nI 2)) hx hb dX0_stamp_20 (by decide) ?_
  refine n_imul hx hb dX0_stamp_21 ?_
  refine lv_iload_n hx hb dX0_stamp_22 rfl (lv_at hl 3 rfl) ?_
  refine n_iadd hx hb dX0_stamp_23 ?_
  refine n_iald hx hb hK hP 3 0 rfl rfl (((ar * 256 + pg) * 2) + hf) (by omega) (by omega) dX0_stamp_24 ?_
  exact e_I hx hb hr hlocks hP hD hS rfl dX0_stamp_25
set_option maxHeartbeats 4000000 in
set_option maxRecDepth 100000 in
theorem tX0_count_xb {l : Launch} {D : va_G} {cI cZ : ClassId} {h0 a0 a1 a2 a3 a4 a5 : Nat} (hl0 : l.stackTraces = false) (bf pw hs lo lg rt : Nat → Int32) (nb : Int32) (fi fo en : Nat) (on cu ma : Int32) (x y : Int32) (h : badC x y) : RX l yX0_count wsX0_count 8 D (tyC cI cZ) (wC h0 a0 a1 a2 a3 a4 a5 cI cZ bf pw hs lo lg rt nb (nI fi) (nI fo) (nI en) on cu ma) [.ref h0, .int x, .int y] xIOB := by
  refine st_X (cc := cX0_count) (maxL := 5) (ret := (some .int)) (by decide +kernel) rfl (Nat.le_of_ble_eq_true rfl) ?_
  intro p e s m below meth c A hx hb hr hts hown hml hlocks hK hP hD hA hS ls hl hT hex
  have hown : s.vm.findClass RX0 = some m.cls := hown
  have hl : lv_has ls 5 [(0, .ref h0), (1, .int x), (2, .int y)] := hl
  rcases h with h | ⟨ar, h1, rfl, h⟩
  · refine lv_iload_n hx hb dX0_count_0 rfl (lv_at hl 1 rfl) ?_
    refine lv_iconst (v := (nI 2)) hx hb dX0_count_1 (by decide) ?_
    exact k_XX hlocks hex (Nat.le_of_ble_eq_true rfl) (Nat.le_of_ble_eq_true rfl) (wr := wC h0 a0 a1 a2 a3 a4 a5 cI cZ bf pw hs lo lg rt nb (nI fi) (nI fo) (nI en) on cu ma) hP hD hS hA (vx_runS (As := [.int x, .int (nI 2)]) (rest := []) ⟨hx, hb, hml, hown, hts⟩ ((tX0_needIndex_x hl0 x 2 h) _) (va_cwS 2 hts gX0_count_X0_needIndex rfl rfl rfl (by decide +kernel) ⟨Nat.le_of_ble_eq_true rfl, Nat.le_of_ble_eq_true rfl⟩) (pS_X hP hD hK hS hA hT [] rfl [] rfl rfl) rfl rfl hl.1 rfl (lv_room (Nat.le_of_ble_eq_true rfl)) dX0_count_2 ⟨Nat.le_of_ble_eq_true rfl, Nat.le_of_ble_eq_true rfl⟩) [] [0, 1, 2, 3, 4, 5, 6] rfl rfl rfl (by decide)
  · refine lv_iload_n hx hb dX0_count_0 rfl (lv_at hl 1 rfl) ?_
    refine lv_iconst (v := (nI 2)) hx hb dX0_count_1 (by decide) ?_
    refine k_V (wr := wC h0 a0 a1 a2 a3 a4 a5 cI cZ bf pw hs lo lg rt nb (nI fi) (nI fo) (nI en) on cu ma) hP hD hS hA (va_runS (As := [.int (nI ar), .int (nI 2)]) (rest := []) ⟨hx, hb, hml, hown, hts⟩ ((tX0_needIndex_ok ar 2 (by omega) (by omega)) _) (va_cwS 2 hts gX0_count_X0_needIndex rfl rfl rfl (by decide +kernel) ⟨Nat.le_of_ble_eq_true rfl, Nat.le_of_ble_eq_true rfl⟩) (pS_B hP hD hK [] rfl [] rfl rfl) rfl rfl hl.1 rfl (lv_room (Nat.le_of_ble_eq_true rfl)) dX0_count_2 ⟨Nat.le_of_ble_eq_true rfl, Nat.le_of_ble_eq_true rfl⟩) [] [0, 1, 2, 3, 4, 5, 6] rfl rfl rfl (by decide) (fun H locs hP hD hS => ?_)
    have hP : va_P D vwCl (wC h0 a0 a1 a2 a3 a4 a5 cI cZ bf pw hs lo lg rt nb (nI fi) (nI fo) (nI en) on cu ma) H := hP
    have hD : va_D A (wC h0 a0 a1 a2 a3 a4 a5 cI cZ bf pw hs lo lg rt nb (nI fi) (nI fo) (nI en) on cu ma) := hD
    refine lv_iload_n hx hb dX0_count_5 rfl (lv_at hl 2 rfl) ?_
    refine lv_iconst (v := (nI 3)) hx hb dX0_count_6 (by decide) ?_
    exact k_XX hlocks hex (Nat.le_of_ble_eq_true rfl) (Nat.le_of_ble_eq_true rfl) (wr := wC h0 a0 a1 a2 a3 a4 a5 cI cZ bf pw hs lo lg rt nb (nI fi) (nI fo) (nI en) on cu ma) hP hD hS hA (vx_runS (As := [.int y, .int (nI 3)]) (rest := []) ⟨hx, hb, hml, hown, hts⟩ ((tX0_needIndex_x hl0 y 3 h) _) (va_cwS 2 hts gX0_count_X0_needIndex rfl rfl rfl (by decide +kernel) ⟨Nat.le_of_ble_eq_true rfl, Nat.le_of_ble_eq_true rfl⟩) (pS_X hP hD hK hS hA hT [] rfl [] rfl rfl) rfl rfl hl.1 rfl (lv_room (Nat.le_of_ble_eq_true rfl)) dX0_count_7 ⟨Nat.le_of_ble_eq_true rfl, Nat.le_of_ble_eq_true rfl⟩) [] [0, 1, 2, 3, 4, 5, 6] rfl rfl rfl (by decide)
set_option maxHeartbeats 4000000 in
set_option maxRecDepth 100000 in
theorem tX0_count_ok {l : Launch} {D : va_G} {cI cZ : ClassId} {h0 a0 a1 a2 a3 a4 a5 : Nat} (bf pw hs lo lg rt : Nat → Int32) (nb : Int32) (fi fo en : Nat) (on cu ma : Int32) (ar st : Nat) (h1 : ar < 2) (h2 : st < 3) : RI l yX0_count wsX0_count 8 0 0 D (tyC cI cZ) (wC h0 a0 a1 a2 a3 a4 a5 cI cZ bf pw hs lo lg rt nb (nI fi) (nI fo) (nI en) on cu ma) [.ref h0, .int (nI ar), .int (nI st)] (sp_ct lo hs ar (nI st) 256) (wC h0 a0 a1 a2 a3 a4 a5 cI cZ bf pw hs lo lg rt nb (nI fi) (nI fo) (nI en) on cu ma) := by
  refine st_I (cc := cX0_count) (maxL := 5) (ret := (some .int)) (by decide +kernel) rfl (Nat.le_of_ble_eq_true rfl) ?_
  intro p e s m below meth c A hx hb hr hts hown hml hlocks hK hP hD hA hS ls hl
  have hown : s.vm.findClass RX0 = some m.cls := hown
  have hl : lv_has ls 5 [(0, .ref h0), (1, .int (nI ar)), (2, .int (nI st))] := hl
  refine lv_iload_n hx hb dX0_count_0 rfl (lv_at hl 1 rfl) ?_
  refine lv_iconst (v := (nI 2)) hx hb dX0_count_1 (by decide) ?_
  refine k_V (wr := wC h0 a0 a1 a2 a3 a4 a5 cI cZ bf pw hs lo lg rt nb (nI fi) (nI fo) (nI en) on cu ma) hP hD hS hA (va_runS (As := [.int (nI ar), .int (nI 2)]) (rest := []) ⟨hx, hb, hml, hown, hts⟩ ((tX0_needIndex_ok ar 2 (by omega) (by omega)) _) (va_cwS 2 hts gX0_count_X0_needIndex rfl rfl rfl (by decide +kernel) ⟨Nat.le_of_ble_eq_true rfl, Nat.le_of_ble_eq_true rfl⟩) (pS_B hP hD hK [] rfl [] rfl rfl) rfl rfl hl.1 rfl (lv_room (Nat.le_of_ble_eq_true rfl)) dX0_count_2 ⟨Nat.le_of_ble_eq_true rfl, Nat.le_of_ble_eq_true rfl⟩) [] [0, 1, 2, 3, 4, 5, 6] rfl rfl rfl (by decide) (fun H locs hP hD hS => ?_)
  have hP : va_P D vwCl (wC h0 a0 a1 a2 a3 a4 a5 cI cZ bf pw hs lo lg rt nb (nI fi) (nI fo) (nI en) on cu ma) H := hP
  have hD : va_D A (wC h0 a0 a1 a2 a3 a4 a5 cI cZ bf pw hs lo lg rt nb (nI fi) (nI fo) (nI en) on cu ma) := hD
  refine lv_iload_n hx hb dX0_count_5 rfl (lv_at hl 2 rfl) ?_
  refine lv_iconst (v := (nI 3)) hx hb dX0_count_6 (by decide) ?_
  refine k_V (wr := wC h0 a0 a1 a2 a3 a4 a5 cI cZ bf pw hs lo lg rt nb (nI fi) (nI fo) (nI en) on cu ma) hP hD hS hA (va_runS (As := [.int (nI st), .int (nI 3)]) (rest := []) ⟨hx, hb, hml, hown, hts⟩ ((tX0_needIndex_ok st 3 (by omega) (by omega)) _) (va_cwS 2 hts gX0_count_X0_needIndex rfl rfl rfl (by decide +kernel) ⟨Nat.le_of_ble_eq_true rfl, Nat.le_of_ble_eq_true rfl⟩) (pS_B hP hD hK [] rfl [] rfl rfl) rfl rfl hl.1 rfl (lv_room (Nat.le_of_ble_eq_true rfl)) dX0_count_7 ⟨Nat.le_of_ble_eq_true rfl, Nat.le_of_ble_eq_true rfl⟩) [] [0, 1, 2, 3, 4, 5, 6] rfl rfl rfl (by decide) (fun H locs hP hD hS => ?_)
  have hP : va_P D vwCl (wC h0 a0 a1 a2 a3 a4 a5 cI cZ bf pw hs lo lg rt nb (nI fi) (nI fo) (nI en) on cu ma) H := hP
  have hD : va_D A (wC h0 a0 a1 a2 a3 a4 a5 cI cZ bf pw hs lo lg rt nb (nI fi) (nI fo) (nI en) on cu ma) := hD
  refine lv_iconst (v := (0)) hx hb dX0_count_10 (by decide) ?_
  refine lv_istore_n (lv' := [(3, .int 0), (0, .ref h0), (1, .int (nI ar)), (2, .int (nI st))]) hx hb dX0_count_11 rfl hl (by decide) rfl (fun ls hl => ?_)
  refine lv_iconst (v := (nI 0)) hx hb dX0_count_12 (by decide) ?_
  refine lv_istore (lv' := [(4, .int (nI 0)), (3, .int 0), (0, .ref h0), (1, .int (nI ar)), (2, .int (nI st))]) hx hb dX0_count_13 hl (by decide) rfl (fun ls hl => ?_)
  have lp_15 : ∀ (n9 i : Nat), i + n9 = 256 → ∀ (H : Heap) (locs : List Loc) (ls : Array Slot), va_P D vwCl (wC h0 a0 a1 a2 a3 a4 a5 cI cZ bf pw hs lo lg rt nb (nI fi) (nI fo) (nI en) on cu ma) H → va_D A (wC h0 a0 a1 a2 a3 a4 a5 cI cZ bf pw hs lo lg rt nb (nI fi) (nI fo) (nI en) on cu ma) → va_S A s.heap H locs → lv_has ls 5 [(0, .ref h0), (1, .int (nI ar)), (2, .int (nI st)), (3, .int (sp_ct lo hs ar (nI st) i)), (4, .int (nI i))] → W p l e (rmL 8 0 0) s m ([.ref h0, .int (nI ar), .int (nI st)] : List Value).toArray below meth c H locs 0 0 (MQ below (qcI D A (sp_ct lo hs ar (nI st) 256) (wC h0 a0 a1 a2 a3 a4 a5 cI cZ bf pw hs lo lg rt nb (nI fi) (nI fo) (nI en) on cu ma)) ([.ref h0, .int (nI ar), .int (nI st)] : List Value).toArray s 0 0 A) (F0 m 15 ls []) := by
    intro n9
    induction n9 with
    | zero =>
      intro i hi H locs ls hP hD hS hl
      obtain rfl : i = 256 := by omega
      refine lv_iload hx hb dX0_count_15 (lv_at hl 4 rfl) ?_
      refine lv_sipush (v := (nI 256)) hx hb dX0_count_17 (by decide) ?_
      refine n_ge (tgt := 46) hx hb (by omega) (by omega) dX0_count_20 (by decide) (fun c_20 => ?_) (fun c_20 => absurd c_20 (by omega))
      refine lv_iload_n hx hb dX0_count_46 rfl (lv_at hl 3 rfl) ?_
      exact e_I hx hb hr hlocks hP hD hS rfl dX0_count_47
    | succ n9 ih =>
      intro i hi H locs ls hP hD hS hl
      refine lv_iload hx hb dX0_count_15 (lv_at hl 4 rfl) ?_
      refine lv_sipush (v := (nI 256)) hx hb dX0_count_17 (by decide) ?_
      refine n_ge (tgt := 46) hx hb (by omega) (by omega) dX0_count_20 (by decide) (fun c_20 => absurd c_20 (by omega)) (fun c_20 => ?_)
      refine lv_aload_n hx hb dX0_count_23 rfl (lv_at hl 0 rfl) ?_
      refine lv_iload_n hx hb dX0_count_24 rfl (lv_at hl 1 rfl) ?_
      refine lv_iload hx hb dX0_count_25 (lv_at hl 4 rfl) ?_
      refine k_I (wr := wC h0 a0 a1 a2 a3 a4 a5 cI cZ bf pw hs lo lg rt nb (nI fi) (nI fo) (nI en) on cu ma) hP hD hS hA (va_runS (As := [.int (nI ar), .int (nI i)]) (rest := [.ref h0]) ⟨hx, hb, hml, hown, hts⟩ ((tX0_pageIndex ar i) _) (va_cwS 2 hts gX0_count_X0_pageIndex rfl rfl rfl (by decide +kernel) ⟨Nat.le_of_ble_eq_true rfl, Nat.le_of_ble_eq_true rfl⟩) (pS_B hP hD hK [] rfl [] rfl rfl) rfl rfl hl.1 rfl (lv_room (Nat.le_of_ble_eq_true rfl)) dX0_count_27 ⟨Nat.le_of_ble_eq_true rfl, Nat.le_of_ble_eq_true rfl⟩) [] [0, 1, 2, 3, 4, 5, 6] rfl rfl rfl (by decide) (fun H locs hP hD hS => ?_)
      have hP : va_P D vwCl (wC h0 a0 a1 a2 a3 a4 a5 cI cZ bf pw hs lo lg rt nb (nI fi) (nI fo) (nI en) on cu ma) H := hP
      have hD : va_D A (wC h0 a0 a1 a2 a3 a4 a5 cI cZ bf pw hs lo lg rt nb (nI fi) (nI fo) (nI en) on cu ma) := hD
      refine k_I (wr := []) hP hD hS hA (va_runV (As := [.int (nI (ar * 256 + i))]) (rest := []) ⟨hx, hb, hml, hown, hts⟩ ((tX0_pageState bf pw hs lo lg rt nb fi fo en on cu ma (ar * 256 + i) (by omega)) _) (cwV 1 hts gX0_count_X0_pageState rfl rfl rfl (by decide +kernel) ⟨Nat.le_of_ble_eq_true rfl, Nat.le_of_ble_eq_true rfl⟩) (pV_B hP hD hK (ci := 0) (q0 := 0) rfl rfl rfl [0, 1] rfl [0, 1, 2, 3, 4, 5, 6] rfl rfl) rfl rfl hl.1 rfl (lv_room (Nat.le_of_ble_eq_true rfl)) dX0_count_30 ⟨Nat.le_of_ble_eq_true rfl, Nat.le_of_ble_eq_true rfl⟩) [0, 1, 2, 3, 4, 5, 6] [] rfl rfl rfl (by decide) (fun H locs hP hD hS => ?_)
      have hP : va_P D vwCl (wC h0 a0 a1 a2 a3 a4 a5 cI cZ bf pw hs lo lg rt nb (nI fi) (nI fo) (nI en) on cu ma) H := hP
      have hD : va_D A (wC h0 a0 a1 a2 a3 a4 a5 cI cZ bf pw hs lo lg rt nb (nI fi) (nI fo) (nI en) on cu ma) := hD
      refine lv_iload_n hx hb dX0_count_33 rfl (lv_at hl 2 rfl) ?_
      refine lv_icmp_ne (tgt := 40) hx hb dX0_count_34 (by decide) (fun c_34 => ?_) (fun c_34 => ?_)
      · refine n_iinc (lv' := [(4, .int (nI (i + 1))), (0, .ref h0), (1, .int (nI ar)), (2, .int (nI st)), (3, .int (sp_ct lo hs ar (nI st) i))]) hx hb dX0_count_40 hl (k := 4) rfl (by decide) rfl (fun ls hl => ?_)
        refine lv_goto (tgt := 15) hx hb dX0_count_43 (by decide) ?_
        have e9 : sp_ct lo hs ar (nI st) (i + 1) = sp_ct lo hs ar (nI st) i := by simp [sp_ct, c_34]
        rw [← e9] at hl
        have hP : va_P D vwCl (wC h0 a0 a1 a2 a3 a4 a5 cI cZ bf pw hs lo lg rt nb (nI fi) (nI fo) (nI en) on cu ma) H := by skip; exact hP
        have hD : va_D A (wC h0 a0 a1 a2 a3 a4 a5 cI cZ bf pw hs lo lg rt nb (nI fi) (nI fo) (nI en) on cu ma) := by skip; exact hD
        exact ih (i + 1) (by omega) _ _ _ hP hD hS (lv_sub hl [1, 2, 3, 4, 0] rfl)
      · refine lv_iinc (v := (sp_ct lo hs ar (nI st) i) + 1) (lv' := [(3, .int ((sp_ct lo hs ar (nI st) i) + 1)), (0, .ref h0), (1, .int (nI ar)), (2, .int (nI st)), (4, .int (nI i))]) hx hb dX0_count_37 hl (k := 3) rfl rfl (by decide) rfl (fun ls hl => ?_)
        refine n_iinc (lv' := [(4, .int (nI (i + 1))), (3, .int ((sp_ct lo hs ar (nI st) i) + 1)), (0, .ref h0), (1, .int (nI ar)), (2, .int (nI st))]) hx hb dX0_count_40 hl (k := 4) rfl (by decide) rfl (fun ls hl => ?_)
        refine lv_goto (tgt := 15) hx hb dX0_count_43 (by decide) ?_
        have e9 : sp_ct lo hs ar (nI st) (i + 1) = (sp_ct lo hs ar (nI st) i) + 1 := by simp [sp_ct, c_34]
        rw [← e9] at hl
        have hP : va_P D vwCl (wC h0 a0 a1 a2 a3 a4 a5 cI cZ bf pw hs lo lg rt nb (nI fi) (nI fo) (nI en) on cu ma) H := by skip; exact hP
        have hD : va_D A (wC h0 a0 a1 a2 a3 a4 a5 cI cZ bf pw hs lo lg rt nb (nI fi) (nI fo) (nI en) on cu ma) := by skip; exact hD
        exact ih (i + 1) (by omega) _ _ _ hP hD hS (lv_sub hl [2, 3, 4, 1, 0] rfl)
  have hP : va_P D vwCl (wC h0 a0 a1 a2 a3 a4 a5 cI cZ bf pw hs lo lg rt nb (nI fi) (nI fo) (nI en) on cu ma) H := by skip; exact hP
  have hD : va_D A (wC h0 a0 a1 a2 a3 a4 a5 cI cZ bf pw hs lo lg rt nb (nI fi) (nI fo) (nI en) on cu ma) := by skip; exact hD
  exact lp_15 256 0 (by omega) _ _ _ hP hD hS (lv_sub hl [2, 3, 4, 1, 0] rfl)
