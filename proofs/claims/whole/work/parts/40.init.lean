/-! OWN ROWS, by program: the two constructors -/
theorem arr_0i (cA : ClassId) (n : Nat) : vp_cell cA (n, .inl (fun _ => 0)) = arrV cA n (fun _ => defaultValue .int) := rfl
theorem arr_0z (cA : ClassId) (n : Nat) : vp_cell cA (n, .inl (fun _ => 0)) = arrV cA n (fun _ => defaultValue .boolean) := rfl
set_option maxHeartbeats 4000000 in
set_option maxRecDepth 100000 in
/-- the constructor: six new rows, all 0 -/
theorem tX0_init {l : Launch} {D : va_G} {h0 : Nat} (sz : Nat) : Met l yX0_init wsX0_init (rmL 3 6 99908) (va_Pc [.ref h0] (pcB D [] ([(h0, .inr (0, [.null, .null, .null, .null, .int 0, .null, .int 0, .int 0, .int 0, .null, .int 0, .int 0, .int 0]))]) sz)) (va_Qv (fun (_ : Nat × Nat × Nat × Nat × Nat × Nat × ClassId × ClassId) => True) (fun u t => pcE D (wC h0 u.1 u.2.1 u.2.2.1 u.2.2.2.1 u.2.2.2.2.1 u.2.2.2.2.2.1 u.2.2.2.2.2.2.1 u.2.2.2.2.2.2.2 (fun _ => 0) (fun _ => 0) (fun _ => 0) (fun _ => 0) (fun _ => 0) (fun _ => 0) 0 (nI 0) (nI 0) (nI 0) 1 (-1) 0) (va_A ([(h0, .inr (0, [.null, .null, .null, .null, .int 0, .null, .int 0, .int 0, .int 0, .null, .int 0, .int 0, .int 0]))]) sz) t ∧ va_K D vwCl (tyC u.2.2.2.2.2.2.1 u.2.2.2.2.2.2.2) t) (va_A ([(h0, .inr (0, [.null, .null, .null, .null, .int 0, .null, .int 0, .int 0, .int 0, .null, .int 0, .int 0, .int 0]))]) sz)) 6 99908 (va_A ([(h0, .inr (0, [.null, .null, .null, .null, .int 0, .null, .int 0, .int 0, .int 0, .null, .int 0, .int 0, .int 0]))]) sz) := by
  refine Met.ofW (cc := cX0_init) (maxL := 1) (ret := none) (by decide +kernel) rfl ?_
  intro p e s m args below meth c s₁ B hml hv
  obtain ⟨rfl, hsz, hP, hK, hD0⟩ := hv
  have hx := B.exec
  have hb := B.bytes
  have hr := B.returns
  have hts := atoms_spec (ws := wsX0_init) B.pre
  have hown : s.vm.findClass RX0 = some m.cls := findClass_of_methodNamed B.named
  have hlocks := B.notSynchronized
  have hin : meth.name = "<init>" := (name_of_methodNamed B.named B.method).1
  have in9 : ∀ w ∈ wsX00, w ∈ wsX0_init := by decide +kernel
  subst hsz
  have hD := hD0.self (sz := s.heap.size)
  generalize hAe : va_A ([(h0, .inr (0, [.null, .null, .null, .null, .int 0, .null, .int 0, .int 0, .int 0, .null, .int 0, .int 0, .int 0]))]) s.heap.size = A at hD ⊢
  have hA : ∀ q : Nat, s.heap.size ≤ q → A q := fun q h => by rw [← hAe]; exact Or.inr h
  have hS : va_S A s.heap s.heap [] := va_S.rf
  have hP : va_P D vwCl ([(h0, .inr (0, [.null, .null, .null, .null, .int 0, .null, .int 0, .int 0, .int 0, .null, .int 0, .int 0, .int 0]))]) s.heap := hP
  have hl := lv_entry ([.ref h0]) (n := 1) (Nat.le_of_ble_eq_true rfl)
  rw [lg_entry_eq]
  generalize (lg_sl ([.ref h0]) ++ List.replicate (1 - (lg_sl ([.ref h0])).length) Slot.unset).toArray = ls at hl ⊢
  have hl : lv_has ls 1 [(0, .ref h0)] := hl
  refine lv_aload_n hx hb dX0_init_0 rfl (lv_at hl 0 rfl) ?_
  refine W.objInit hx hb hown (hts (.methodLink RX0 1 objectInit) (by decide +kernel)) (hts (.instanceMethod objectInit) (by decide +kernel)) (hts (.code objectInit ⟨#[0xb1]⟩ 1 none) (List.mem_of_getElem? (i := 3) rfl)) rfl (by rw [hml]; exact hl.1) rfl dX0_init_1 (Nat.le_of_ble_eq_true rfl) (Nat.le_of_ble_eq_true rfl) ?_
  refine W.eq (g2 := F0 m 4 ls []) rfl ?_
  refine lv_aload_n hx hb dX0_init_4 rfl (lv_at hl 0 rfl) ?_
  refine lv_bipush (v := nI 64) hx hb dX0_init_5 (by decide) ?_
  refine va_newa (atype := .int) (ty := .int) (a0 := (64, .inl (fun _ => 0))) (N' := 64) hx hb (hts (.arrayClass .int) (by decide +kernel)) rfl hK hP hD hS hA (fun cA => arr_0i cA 64) (nI_pos (by omega)) (nI_clamp (by omega)) (Nat.le_of_ble_eq_true rfl) (Nat.le_of_ble_eq_true rfl) (Nat.le_of_ble_eq_true rfl) dX0_init_7 (fun a0 cI H hK hP hD hS => ?_)
  refine W.widen (k := 1) (n := 64) (Nat.le_of_ble_eq_true rfl) (Nat.le_of_ble_eq_true rfl) ?_
  have hP : va_P D vwCl ([(h0, .inr (0, [.null, .null, .null, .null, .int 0, .null, .int 0, .int 0, .int 0, .null, .int 0, .int 0, .int 0])), (a0, .inl (cI, 64, .inl (fun _ => 0)))]) H := hP
  have hD : va_D A ([(h0, .inr (0, [.null, .null, .null, .null, .int 0, .null, .int 0, .int 0, .int 0, .null, .int 0, .int 0, .int 0])), (a0, .inl (cI, 64, .inl (fun _ => 0)))]) := hD
  refine va_putF (ci := 0) (v := .ref a0) (ty := .array .int) (C := RX0) (T := TX0) (N := 13) hx hb hts in9 tyX0 tyX0_ok nmX0 hown hK hP hD hS 0 rfl rfl 0 (by decide) (hts (.fieldLink RX0 9 "WordMedium" "buffer" "[I") (by decide +kernel)) (fun _ h9 => h9) rfl hin rfl (by decide +kernel) rfl rfl (Nat.le_of_ble_eq_true rfl) dX0_init_9 (fun H locs hP hD hS => ?_)
  have hP : va_P D vwCl ([(h0, .inr (0, [.ref a0, .null, .null, .null, .int 0, .null, .int 0, .int 0, .int 0, .null, .int 0, .int 0, .int 0])), (a0, .inl (cI, 64, .inl (fun _ => 0)))]) H := hP
  have hD : va_D A ([(h0, .inr (0, [.ref a0, .null, .null, .null, .int 0, .null, .int 0, .int 0, .int 0, .null, .int 0, .int 0, .int 0])), (a0, .inl (cI, 64, .inl (fun _ => 0)))]) := hD
  refine lv_aload_n hx hb dX0_init_12 rfl (lv_at hl 0 rfl) ?_
  refine lv_ldc (v := nI 32768) hx hb hown (hts (.constant RX0 13 (32768)) (by decide +kernel)) dX0_init_13 ?_
  refine va_newa (atype := .int) (ty := .int) (a0 := (32768, .inl (fun _ => 0))) (N' := 32768) hx hb (hts (.arrayClass .int) (by decide +kernel)) rfl hK hP hD hS hA (fun cA => arr_0i cA 32768) (nI_pos (by omega)) (nI_clamp (by omega)) (Nat.le_of_ble_eq_true rfl) (Nat.le_of_ble_eq_true rfl) (Nat.le_of_ble_eq_true rfl) dX0_init_15 (fun a1 c1 H hK hP hD hS => ?_)
  refine W.widen (k := 2) (n := 32832) (Nat.le_of_ble_eq_true rfl) (Nat.le_of_ble_eq_true rfl) ?_
  have r0 : s.vm.findClass ("[" ++ FieldType.int.toString) = some cI := (hK.2 0 (cI, .int) rfl).2
  have r1 : s.vm.findClass ("[" ++ FieldType.int.toString) = some c1 := (hK.2 1 (c1, .int) rfl).2
  obtain rfl : cI = c1 := Option.some.inj (r0.symm.trans r1)
  have hK := hK.sub (tys' := [(cI, .int)]) [0] rfl
  have hP : va_P D vwCl ([(h0, .inr (0, [.ref a0, .null, .null, .null, .int 0, .null, .int 0, .int 0, .int 0, .null, .int 0, .int 0, .int 0])), (a0, .inl (cI, 64, .inl (fun _ => 0))), (a1, .inl (cI, 32768, .inl (fun _ => 0)))]) H := hP
  have hD : va_D A ([(h0, .inr (0, [.ref a0, .null, .null, .null, .int 0, .null, .int 0, .int 0, .int 0, .null, .int 0, .int 0, .int 0])), (a0, .inl (cI, 64, .inl (fun _ => 0))), (a1, .inl (cI, 32768, .inl (fun _ => 0)))]) := hD
  refine va_putF (ci := 0) (v := .ref a1) (ty := .array .int) (C := RX0) (T := TX0) (N := 13) hx hb hts in9 tyX0 tyX0_ok nmX0 hown hK hP hD hS 0 rfl rfl 1 (by decide) (hts (.fieldLink RX0 14 "WordMedium" "pageWords" "[I") (by decide +kernel)) (fun _ h9 => h9) rfl hin rfl (by decide +kernel) rfl rfl (Nat.le_of_ble_eq_true rfl) dX0_init_17 (fun H locs hP hD hS => ?_)
  have hP : va_P D vwCl ([(h0, .inr (0, [.ref a0, .ref a1, .null, .null, .int 0, .null, .int 0, .int 0, .int 0, .null, .int 0, .int 0, .int 0])), (a0, .inl (cI, 64, .inl (fun _ => 0))), (a1, .inl (cI, 32768, .inl (fun _ => 0)))]) H := hP
  have hD : va_D A ([(h0, .inr (0, [.ref a0, .ref a1, .null, .null, .int 0, .null, .int 0, .int 0, .int 0, .null, .int 0, .int 0, .int 0])), (a0, .inl (cI, 64, .inl (fun _ => 0))), (a1, .inl (cI, 32768, .inl (fun _ => 0)))]) := hD
  refine lv_aload_n hx hb dX0_init_20 rfl (lv_at hl 0 rfl) ?_
  refine lv_sipush (v := nI 1024) hx hb dX0_init_21 (by decide) ?_
  refine va_newa (atype := .int) (ty := .int) (a0 := (1024, .inl (fun _ => 0))) (N' := 1024) hx hb (hts (.arrayClass .int) (by decide +kernel)) rfl hK hP hD hS hA (fun cA => arr_0i cA 1024) (nI_pos (by omega)) (nI_clamp (by omega)) (Nat.le_of_ble_eq_true rfl) (Nat.le_of_ble_eq_true rfl) (Nat.le_of_ble_eq_true rfl) dX0_init_24 (fun a2 c2 H hK hP hD hS => ?_)
  refine W.widen (k := 3) (n := 33856) (Nat.le_of_ble_eq_true rfl) (Nat.le_of_ble_eq_true rfl) ?_
  have r0 : s.vm.findClass ("[" ++ FieldType.int.toString) = some cI := (hK.2 0 (cI, .int) rfl).2
  have r1 : s.vm.findClass ("[" ++ FieldType.int.toString) = some c2 := (hK.2 1 (c2, .int) rfl).2
  obtain rfl : cI = c2 := Option.some.inj (r0.symm.trans r1)
  have hK := hK.sub (tys' := [(cI, .int)]) [0] rfl
  have hP : va_P D vwCl ([(h0, .inr (0, [.ref a0, .ref a1, .null, .null, .int 0, .null, .int 0, .int 0, .int 0, .null, .int 0, .int 0, .int 0])), (a0, .inl (cI, 64, .inl (fun _ => 0))), (a1, .inl (cI, 32768, .inl (fun _ => 0))), (a2, .inl (cI, 1024, .inl (fun _ => 0)))]) H := hP
  have hD : va_D A ([(h0, .inr (0, [.ref a0, .ref a1, .null, .null, .int 0, .null, .int 0, .int 0, .int 0, .null, .int 0, .int 0, .int 0])), (a0, .inl (cI, 64, .inl (fun _ => 0))), (a1, .inl (cI, 32768, .inl (fun _ => 0))), (a2, .inl (cI, 1024, .inl (fun _ => 0)))]) := hD
  refine va_putF (ci := 0) (v := .ref a2) (ty := .array .int) (C := RX0) (T := TX0) (N := 13) hx hb hts in9 tyX0 tyX0_ok nmX0 hown hK hP hD hS 0 rfl rfl 2 (by decide) (hts (.fieldLink RX0 17 "WordMedium" "halfStamps" "[I") (by decide +kernel)) (fun _ h9 => h9) rfl hin rfl (by decide +kernel) rfl rfl (Nat.le_of_ble_eq_true rfl) dX0_init_26 (fun H locs hP hD hS => ?_)
  have hP : va_P D vwCl ([(h0, .inr (0, [.ref a0, .ref a1, .ref a2, .null, .int 0, .null, .int 0, .int 0, .int 0, .null, .int 0, .int 0, .int 0])), (a0, .inl (cI, 64, .inl (fun _ => 0))), (a1, .inl (cI, 32768, .inl (fun _ => 0))), (a2, .inl (cI, 1024, .inl (fun _ => 0)))]) H := hP
  have hD : va_D A ([(h0, .inr (0, [.ref a0, .ref a1, .ref a2, .null, .int 0, .null, .int 0, .int 0, .int 0, .null, .int 0, .int 0, .int 0])), (a0, .inl (cI, 64, .inl (fun _ => 0))), (a1, .inl (cI, 32768, .inl (fun _ => 0))), (a2, .inl (cI, 1024, .inl (fun _ => 0)))]) := hD
  refine lv_aload_n hx hb dX0_init_29 rfl (lv_at hl 0 rfl) ?_
  refine lv_sipush (v := nI 512) hx hb dX0_init_30 (by decide) ?_
  refine va_newa (atype := .boolean) (ty := .boolean) (a0 := (512, .inl (fun _ => 0))) (N' := 512) hx hb (hts (.arrayClass .boolean) (by decide +kernel)) rfl hK hP hD hS hA (fun cA => arr_0z cA 512) (nI_pos (by omega)) (nI_clamp (by omega)) (Nat.le_of_ble_eq_true rfl) (Nat.le_of_ble_eq_true rfl) (Nat.le_of_ble_eq_true rfl) dX0_init_33 (fun a3 cZ H hK hP hD hS => ?_)
  refine W.widen (k := 4) (n := 34368) (Nat.le_of_ble_eq_true rfl) (Nat.le_of_ble_eq_true rfl) ?_
  have hP : va_P D vwCl ([(h0, .inr (0, [.ref a0, .ref a1, .ref a2, .null, .int 0, .null, .int 0, .int 0, .int 0, .null, .int 0, .int 0, .int 0])), (a0, .inl (cI, 64, .inl (fun _ => 0))), (a1, .inl (cI, 32768, .inl (fun _ => 0))), (a2, .inl (cI, 1024, .inl (fun _ => 0))), (a3, .inl (cZ, 512, .inl (fun _ => 0)))]) H := hP
  have hD : va_D A ([(h0, .inr (0, [.ref a0, .ref a1, .ref a2, .null, .int 0, .null, .int 0, .int 0, .int 0, .null, .int 0, .int 0, .int 0])), (a0, .inl (cI, 64, .inl (fun _ => 0))), (a1, .inl (cI, 32768, .inl (fun _ => 0))), (a2, .inl (cI, 1024, .inl (fun _ => 0))), (a3, .inl (cZ, 512, .inl (fun _ => 0)))]) := hD
  refine va_putF (ci := 0) (v := .ref a3) (ty := .array .boolean) (C := RX0) (T := TX0) (N := 13) hx hb hts in9 tyX0 tyX0_ok nmX0 hown hK hP hD hS 0 rfl rfl 3 (by decide) (hts (.fieldLink RX0 20 "WordMedium" "lostPages" "[Z") (by decide +kernel)) (fun _ h9 => h9) rfl hin rfl (by decide +kernel) rfl rfl (Nat.le_of_ble_eq_true rfl) dX0_init_35 (fun H locs hP hD hS => ?_)
  have hP : va_P D vwCl ([(h0, .inr (0, [.ref a0, .ref a1, .ref a2, .ref a3, .int 0, .null, .int 0, .int 0, .int 0, .null, .int 0, .int 0, .int 0])), (a0, .inl (cI, 64, .inl (fun _ => 0))), (a1, .inl (cI, 32768, .inl (fun _ => 0))), (a2, .inl (cI, 1024, .inl (fun _ => 0))), (a3, .inl (cZ, 512, .inl (fun _ => 0)))]) H := hP
  have hD : va_D A ([(h0, .inr (0, [.ref a0, .ref a1, .ref a2, .ref a3, .int 0, .null, .int 0, .int 0, .int 0, .null, .int 0, .int 0, .int 0])), (a0, .inl (cI, 64, .inl (fun _ => 0))), (a1, .inl (cI, 32768, .inl (fun _ => 0))), (a2, .inl (cI, 1024, .inl (fun _ => 0))), (a3, .inl (cZ, 512, .inl (fun _ => 0)))]) := hD
  refine lv_aload_n hx hb dX0_init_38 rfl (lv_at hl 0 rfl) ?_
  refine lv_ldc (v := nI 65536) hx hb hown (hts (.constant RX0 24 (65536)) (by decide +kernel)) dX0_init_39 ?_
  refine va_newa (atype := .int) (ty := .int) (a0 := (65536, .inl (fun _ => 0))) (N' := 65536) hx hb (hts (.arrayClass .int) (by decide +kernel)) rfl hK hP hD hS hA (fun cA => arr_0i cA 65536) (nI_pos (by omega)) (nI_clamp (by omega)) (Nat.le_of_ble_eq_true rfl) (Nat.le_of_ble_eq_true rfl) (Nat.le_of_ble_eq_true rfl) dX0_init_41 (fun a4 c4 H hK hP hD hS => ?_)
  refine W.widen (k := 5) (n := 99904) (Nat.le_of_ble_eq_true rfl) (Nat.le_of_ble_eq_true rfl) ?_
  have r0 : s.vm.findClass ("[" ++ FieldType.int.toString) = some cI := (hK.2 0 (cI, .int) rfl).2
  have r1 : s.vm.findClass ("[" ++ FieldType.int.toString) = some c4 := (hK.2 2 (c4, .int) rfl).2
  obtain rfl : cI = c4 := Option.some.inj (r0.symm.trans r1)
  have hK := hK.sub (tys' := [(cI, .int), (cZ, .boolean)]) [0, 1] rfl
  have hP : va_P D vwCl ([(h0, .inr (0, [.ref a0, .ref a1, .ref a2, .ref a3, .int 0, .null, .int 0, .int 0, .int 0, .null, .int 0, .int 0, .int 0])), (a0, .inl (cI, 64, .inl (fun _ => 0))), (a1, .inl (cI, 32768, .inl (fun _ => 0))), (a2, .inl (cI, 1024, .inl (fun _ => 0))), (a3, .inl (cZ, 512, .inl (fun _ => 0))), (a4, .inl (cI, 65536, .inl (fun _ => 0)))]) H := hP
  have hD : va_D A ([(h0, .inr (0, [.ref a0, .ref a1, .ref a2, .ref a3, .int 0, .null, .int 0, .int 0, .int 0, .null, .int 0, .int 0, .int 0])), (a0, .inl (cI, 64, .inl (fun _ => 0))), (a1, .inl (cI, 32768, .inl (fun _ => 0))), (a2, .inl (cI, 1024, .inl (fun _ => 0))), (a3, .inl (cZ, 512, .inl (fun _ => 0))), (a4, .inl (cI, 65536, .inl (fun _ => 0)))]) := hD
  refine va_putF (ci := 0) (v := .ref a4) (ty := .array .int) (C := RX0) (T := TX0) (N := 13) hx hb hts in9 tyX0 tyX0_ok nmX0 hown hK hP hD hS 0 rfl rfl 5 (by decide) (hts (.fieldLink RX0 25 "WordMedium" "logWords" "[I") (by decide +kernel)) (fun _ h9 => h9) rfl hin rfl (by decide +kernel) rfl rfl (Nat.le_of_ble_eq_true rfl) dX0_init_43 (fun H locs hP hD hS => ?_)
  have hP : va_P D vwCl ([(h0, .inr (0, [.ref a0, .ref a1, .ref a2, .ref a3, .int 0, .ref a4, .int 0, .int 0, .int 0, .null, .int 0, .int 0, .int 0])), (a0, .inl (cI, 64, .inl (fun _ => 0))), (a1, .inl (cI, 32768, .inl (fun _ => 0))), (a2, .inl (cI, 1024, .inl (fun _ => 0))), (a3, .inl (cZ, 512, .inl (fun _ => 0))), (a4, .inl (cI, 65536, .inl (fun _ => 0)))]) H := hP
  have hD : va_D A ([(h0, .inr (0, [.ref a0, .ref a1, .ref a2, .ref a3, .int 0, .ref a4, .int 0, .int 0, .int 0, .null, .int 0, .int 0, .int 0])), (a0, .inl (cI, 64, .inl (fun _ => 0))), (a1, .inl (cI, 32768, .inl (fun _ => 0))), (a2, .inl (cI, 1024, .inl (fun _ => 0))), (a3, .inl (cZ, 512, .inl (fun _ => 0))), (a4, .inl (cI, 65536, .inl (fun _ => 0)))]) := hD
  refine lv_aload_n hx hb dX0_init_46 rfl (lv_at hl 0 rfl) ?_
  refine lv_iconst (v := nI 4) hx hb dX0_init_47 (by decide) ?_
  refine va_newa (atype := .int) (ty := .int) (a0 := (4, .inl (fun _ => 0))) (N' := 4) hx hb (hts (.arrayClass .int) (by decide +kernel)) rfl hK hP hD hS hA (fun cA => arr_0i cA 4) (nI_pos (by omega)) (nI_clamp (by omega)) (Nat.le_of_ble_eq_true rfl) (Nat.le_of_ble_eq_true rfl) (Nat.le_of_ble_eq_true rfl) dX0_init_48 (fun a5 c5 H hK hP hD hS => ?_)
  refine W.widen (k := 6) (n := 99908) (Nat.le_of_ble_eq_true rfl) (Nat.le_of_ble_eq_true rfl) ?_
  have r0 : s.vm.findClass ("[" ++ FieldType.int.toString) = some cI := (hK.2 0 (cI, .int) rfl).2
  have r1 : s.vm.findClass ("[" ++ FieldType.int.toString) = some c5 := (hK.2 2 (c5, .int) rfl).2
  obtain rfl : cI = c5 := Option.some.inj (r0.symm.trans r1)
  have hK := hK.sub (tys' := [(cI, .int), (cZ, .boolean)]) [0, 1] rfl
  have hP : va_P D vwCl ([(h0, .inr (0, [.ref a0, .ref a1, .ref a2, .ref a3, .int 0, .ref a4, .int 0, .int 0, .int 0, .null, .int 0, .int 0, .int 0])), (a0, .inl (cI, 64, .inl (fun _ => 0))), (a1, .inl (cI, 32768, .inl (fun _ => 0))), (a2, .inl (cI, 1024, .inl (fun _ => 0))), (a3, .inl (cZ, 512, .inl (fun _ => 0))), (a4, .inl (cI, 65536, .inl (fun _ => 0))), (a5, .inl (cI, 4, .inl (fun _ => 0)))]) H := hP
  have hD : va_D A ([(h0, .inr (0, [.ref a0, .ref a1, .ref a2, .ref a3, .int 0, .ref a4, .int 0, .int 0, .int 0, .null, .int 0, .int 0, .int 0])), (a0, .inl (cI, 64, .inl (fun _ => 0))), (a1, .inl (cI, 32768, .inl (fun _ => 0))), (a2, .inl (cI, 1024, .inl (fun _ => 0))), (a3, .inl (cZ, 512, .inl (fun _ => 0))), (a4, .inl (cI, 65536, .inl (fun _ => 0))), (a5, .inl (cI, 4, .inl (fun _ => 0)))]) := hD
  refine va_putF (ci := 0) (v := .ref a5) (ty := .array .int) (C := RX0) (T := TX0) (N := 13) hx hb hts in9 tyX0 tyX0_ok nmX0 hown hK hP hD hS 0 rfl rfl 9 (by decide) (hts (.fieldLink RX0 28 "WordMedium" "rootWords" "[I") (by decide +kernel)) (fun _ h9 => h9) rfl hin rfl (by decide +kernel) rfl rfl (Nat.le_of_ble_eq_true rfl) dX0_init_50 (fun H locs hP hD hS => ?_)
  have hP : va_P D vwCl ([(h0, .inr (0, [.ref a0, .ref a1, .ref a2, .ref a3, .int 0, .ref a4, .int 0, .int 0, .int 0, .ref a5, .int 0, .int 0, .int 0])), (a0, .inl (cI, 64, .inl (fun _ => 0))), (a1, .inl (cI, 32768, .inl (fun _ => 0))), (a2, .inl (cI, 1024, .inl (fun _ => 0))), (a3, .inl (cZ, 512, .inl (fun _ => 0))), (a4, .inl (cI, 65536, .inl (fun _ => 0))), (a5, .inl (cI, 4, .inl (fun _ => 0)))]) H := hP
  have hD : va_D A ([(h0, .inr (0, [.ref a0, .ref a1, .ref a2, .ref a3, .int 0, .ref a4, .int 0, .int 0, .int 0, .ref a5, .int 0, .int 0, .int 0])), (a0, .inl (cI, 64, .inl (fun _ => 0))), (a1, .inl (cI, 32768, .inl (fun _ => 0))), (a2, .inl (cI, 1024, .inl (fun _ => 0))), (a3, .inl (cZ, 512, .inl (fun _ => 0))), (a4, .inl (cI, 65536, .inl (fun _ => 0))), (a5, .inl (cI, 4, .inl (fun _ => 0)))]) := hD
  refine lv_aload_n hx hb dX0_init_53 rfl (lv_at hl 0 rfl) ?_
  refine lv_iconst (v := 1) hx hb dX0_init_54 (by decide) ?_
  refine va_put (ci := 0) (v := .int 1) (ty := .boolean) (C := RX0) (T := TX0) (N := 13) hx hb hts in9 tyX0 tyX0_ok nmX0 hown hK hP hD hS 0 rfl rfl 10 (by decide) (hts (.fieldLink RX0 31 "WordMedium" "powerOn" "Z") (by decide +kernel)) (fun _ h9 => h9) rfl (by decide +kernel) rfl rfl (Nat.le_of_ble_eq_true rfl) dX0_init_55 (fun H locs hP hD hS => ?_)
  have hP : va_P D vwCl ([(h0, .inr (0, [.ref a0, .ref a1, .ref a2, .ref a3, .int 0, .ref a4, .int 0, .int 0, .int 0, .ref a5, .int 1, .int 0, .int 0])), (a0, .inl (cI, 64, .inl (fun _ => 0))), (a1, .inl (cI, 32768, .inl (fun _ => 0))), (a2, .inl (cI, 1024, .inl (fun _ => 0))), (a3, .inl (cZ, 512, .inl (fun _ => 0))), (a4, .inl (cI, 65536, .inl (fun _ => 0))), (a5, .inl (cI, 4, .inl (fun _ => 0)))]) H := hP
  have hD : va_D A ([(h0, .inr (0, [.ref a0, .ref a1, .ref a2, .ref a3, .int 0, .ref a4, .int 0, .int 0, .int 0, .ref a5, .int 1, .int 0, .int 0])), (a0, .inl (cI, 64, .inl (fun _ => 0))), (a1, .inl (cI, 32768, .inl (fun _ => 0))), (a2, .inl (cI, 1024, .inl (fun _ => 0))), (a3, .inl (cZ, 512, .inl (fun _ => 0))), (a4, .inl (cI, 65536, .inl (fun _ => 0))), (a5, .inl (cI, 4, .inl (fun _ => 0)))]) := hD
  refine lv_aload_n hx hb dX0_init_58 rfl (lv_at hl 0 rfl) ?_
  refine lv_iconst (v := (-1)) hx hb dX0_init_59 (by decide) ?_
  refine va_put (ci := 0) (v := .int (-1)) (ty := .int) (C := RX0) (T := TX0) (N := 13) hx hb hts in9 tyX0 tyX0_ok nmX0 hown hK hP hD hS 0 rfl rfl 11 (by decide) (hts (.fieldLink RX0 35 "WordMedium" "writesUntilCut" "I") (by decide +kernel)) (fun _ h9 => h9) rfl (by decide +kernel) rfl rfl (Nat.le_of_ble_eq_true rfl) dX0_init_60 (fun H locs hP hD hS => ?_)
  have hP : va_P D vwCl ([(h0, .inr (0, [.ref a0, .ref a1, .ref a2, .ref a3, .int 0, .ref a4, .int 0, .int 0, .int 0, .ref a5, .int 1, .int (-1), .int 0])), (a0, .inl (cI, 64, .inl (fun _ => 0))), (a1, .inl (cI, 32768, .inl (fun _ => 0))), (a2, .inl (cI, 1024, .inl (fun _ => 0))), (a3, .inl (cZ, 512, .inl (fun _ => 0))), (a4, .inl (cI, 65536, .inl (fun _ => 0))), (a5, .inl (cI, 4, .inl (fun _ => 0)))]) H := hP
  have hD : va_D A ([(h0, .inr (0, [.ref a0, .ref a1, .ref a2, .ref a3, .int 0, .ref a4, .int 0, .int 0, .int 0, .ref a5, .int 1, .int (-1), .int 0])), (a0, .inl (cI, 64, .inl (fun _ => 0))), (a1, .inl (cI, 32768, .inl (fun _ => 0))), (a2, .inl (cI, 1024, .inl (fun _ => 0))), (a3, .inl (cZ, 512, .inl (fun _ => 0))), (a4, .inl (cI, 65536, .inl (fun _ => 0))), (a5, .inl (cI, 4, .inl (fun _ => 0)))]) := hD
  have hP : va_P D vwCl (wC h0 a0 a1 a2 a3 a4 a5 cI cZ (fun _ => 0) (fun _ => 0) (fun _ => 0) (fun _ => 0) (fun _ => 0) (fun _ => 0) 0 (nI 0) (nI 0) (nI 0) 1 (-1) 0) H := hP.sub [0, 1, 2, 3, 4, 5, 6] rfl
  have hD : va_D A (wC h0 a0 a1 a2 a3 a4 a5 cI cZ (fun _ => 0) (fun _ => 0) (fun _ => 0) (fun _ => 0) (fun _ => 0) (fun _ => 0) 0 (nI 0) (nI 0) (nI 0) 1 (-1) 0) := hD.sub [0, 1, 2, 3, 4, 5, 6] (by decide) rfl
  have hK : va_K D vwCl (tyC cI cZ) s := hK.sub [0, 1] rfl
  exact W.vret hx hb hr (fun t ht hW => ⟨⟨(a0, a1, a2, a3, a4, a5, cI, cZ), rfl, trivial, ⟨by rw [ht]; exact hP, hD⟩, va_K.moved hW.alike hK⟩, hS.F ht⟩) hS.2.2 dX0_init_63
set_option maxHeartbeats 4000000 in
set_option maxRecDepth 100000 in
/-- the constructor: six new rows, all 0 -/
theorem tX1_init {l : Launch} {D : va_G} {h0 : Nat} (sz : Nat) : Met l yX1_init wsX1_init (rmL 3 6 99908) (va_Pc [.ref h0] (pcB D [] ([(h0, .inr (1, [.int 0, .null, .null, .null, .null, .null, .null, .int 0, .int 0, .int 0, .int 0, .int 0, .int 0, .int 0]))]) sz)) (va_Qv (fun (_ : Nat × Nat × Nat × Nat × Nat × Nat × ClassId × ClassId) => True) (fun u t => pcE D (wM h0 u.1 u.2.1 u.2.2.1 u.2.2.2.1 u.2.2.2.2.1 u.2.2.2.2.2.1 u.2.2.2.2.2.2.1 u.2.2.2.2.2.2.2 0 (fun _ => 0) (fun _ => 0) (fun _ => 0) (fun _ => 0) (fun _ => 0) (fun _ => 0) 0 (nI 0) (nI 0) (nI 0) 0 (-1) 0) (va_A ([(h0, .inr (1, [.int 0, .null, .null, .null, .null, .null, .null, .int 0, .int 0, .int 0, .int 0, .int 0, .int 0, .int 0]))]) sz) t ∧ va_K D vwCl (tyC u.2.2.2.2.2.2.1 u.2.2.2.2.2.2.2) t) (va_A ([(h0, .inr (1, [.int 0, .null, .null, .null, .null, .null, .null, .int 0, .int 0, .int 0, .int 0, .int 0, .int 0, .int 0]))]) sz)) 6 99908 (va_A ([(h0, .inr (1, [.int 0, .null, .null, .null, .null, .null, .null, .int 0, .int 0, .int 0, .int 0, .int 0, .int 0, .int 0]))]) sz) := by
  refine Met.ofW (cc := cX1_init) (maxL := 1) (ret := none) (by decide +kernel) rfl ?_
  intro p e s m args below meth c s₁ B hml hv
  obtain ⟨rfl, hsz, hP, hK, hD0⟩ := hv
  have hx := B.exec
  have hb := B.bytes
  have hr := B.returns
  have hts := atoms_spec (ws := wsX1_init) B.pre
  have hown : s.vm.findClass RX1 = some m.cls := findClass_of_methodNamed B.named
  have hlocks := B.notSynchronized
  have hin : meth.name = "<init>" := (name_of_methodNamed B.named B.method).1
  have in9 : ∀ w ∈ wsX10, w ∈ wsX1_init := by decide +kernel
  subst hsz
  have hD := hD0.self (sz := s.heap.size)
  generalize hAe : va_A ([(h0, .inr (1, [.int 0, .null, .null, .null, .null, .null, .null, .int 0, .int 0, .int 0, .int 0, .int 0, .int 0, .int 0]))]) s.heap.size = A at hD ⊢
  have hA : ∀ q : Nat, s.heap.size ≤ q → A q := fun q h => by rw [← hAe]; exact Or.inr h
  have hS : va_S A s.heap s.heap [] := va_S.rf
  have hP : va_P D vwCl ([(h0, .inr (1, [.int 0, .null, .null, .null, .null, .null, .null, .int 0, .int 0, .int 0, .int 0, .int 0, .int 0, .int 0]))]) s.heap := hP
  have hl := lv_entry ([.ref h0]) (n := 1) (Nat.le_of_ble_eq_true rfl)
  rw [lg_entry_eq]
  generalize (lg_sl ([.ref h0]) ++ List.replicate (1 - (lg_sl ([.ref h0])).length) Slot.unset).toArray = ls at hl ⊢
  have hl : lv_has ls 1 [(0, .ref h0)] := hl
  refine lv_aload_n hx hb dX1_init_0 rfl (lv_at hl 0 rfl) ?_
  refine W.objInit hx hb hown (hts (.methodLink RX1 1 objectInit) (by decide +kernel)) (hts (.instanceMethod objectInit) (by decide +kernel)) (hts (.code objectInit ⟨#[0xb1]⟩ 1 none) (List.mem_of_getElem? (i := 3) rfl)) rfl (by rw [hml]; exact hl.1) rfl dX1_init_1 (Nat.le_of_ble_eq_true rfl) (Nat.le_of_ble_eq_true rfl) ?_
  refine W.eq (g2 := F0 m 4 ls []) rfl ?_
  refine lv_aload_n hx hb dX1_init_4 rfl (lv_at hl 0 rfl) ?_
  refine lv_ldc (v := nI 32768) hx hb hown (hts (.constant RX1 7 (32768)) (by decide +kernel)) dX1_init_5 ?_
  refine va_newa (atype := .int) (ty := .int) (a0 := (32768, .inl (fun _ => 0))) (N' := 32768) hx hb (hts (.arrayClass .int) (by decide +kernel)) rfl hK hP hD hS hA (fun cA => arr_0i cA 32768) (nI_pos (by omega)) (nI_clamp (by omega)) (Nat.le_of_ble_eq_true rfl) (Nat.le_of_ble_eq_true rfl) (Nat.le_of_ble_eq_true rfl) dX1_init_7 (fun a1 cI H hK hP hD hS => ?_)
  refine W.widen (k := 1) (n := 32768) (Nat.le_of_ble_eq_true rfl) (Nat.le_of_ble_eq_true rfl) ?_
  have hP : va_P D vwCl ([(h0, .inr (1, [.int 0, .null, .null, .null, .null, .null, .null, .int 0, .int 0, .int 0, .int 0, .int 0, .int 0, .int 0])), (a1, .inl (cI, 32768, .inl (fun _ => 0)))]) H := hP
  have hD : va_D A ([(h0, .inr (1, [.int 0, .null, .null, .null, .null, .null, .null, .int 0, .int 0, .int 0, .int 0, .int 0, .int 0, .int 0])), (a1, .inl (cI, 32768, .inl (fun _ => 0)))]) := hD
  refine va_putF (ci := 1) (v := .ref a1) (ty := .array .int) (C := RX1) (T := TX1) (N := 14) hx hb hts in9 tyX1 tyX1_ok nmX1 hown hK hP hD hS 0 rfl rfl 1 (by decide) (hts (.fieldLink RX1 8 "WordMediumModel" "pages" "[I") (by decide +kernel)) (fun _ h9 => h9) rfl hin rfl (by decide +kernel) rfl rfl (Nat.le_of_ble_eq_true rfl) dX1_init_9 (fun H locs hP hD hS => ?_)
  have hP : va_P D vwCl ([(h0, .inr (1, [.int 0, .ref a1, .null, .null, .null, .null, .null, .int 0, .int 0, .int 0, .int 0, .int 0, .int 0, .int 0])), (a1, .inl (cI, 32768, .inl (fun _ => 0)))]) H := hP
  have hD : va_D A ([(h0, .inr (1, [.int 0, .ref a1, .null, .null, .null, .null, .null, .int 0, .int 0, .int 0, .int 0, .int 0, .int 0, .int 0])), (a1, .inl (cI, 32768, .inl (fun _ => 0)))]) := hD
  refine lv_aload_n hx hb dX1_init_12 rfl (lv_at hl 0 rfl) ?_
  refine lv_sipush (v := nI 1024) hx hb dX1_init_13 (by decide) ?_
  refine va_newa (atype := .int) (ty := .int) (a0 := (1024, .inl (fun _ => 0))) (N' := 1024) hx hb (hts (.arrayClass .int) (by decide +kernel)) rfl hK hP hD hS hA (fun cA => arr_0i cA 1024) (nI_pos (by omega)) (nI_clamp (by omega)) (Nat.le_of_ble_eq_true rfl) (Nat.le_of_ble_eq_true rfl) (Nat.le_of_ble_eq_true rfl) dX1_init_16 (fun a2 c1 H hK hP hD hS => ?_)
  refine W.widen (k := 2) (n := 33792) (Nat.le_of_ble_eq_true rfl) (Nat.le_of_ble_eq_true rfl) ?_
  have r0 : s.vm.findClass ("[" ++ FieldType.int.toString) = some cI := (hK.2 0 (cI, .int) rfl).2
  have r1 : s.vm.findClass ("[" ++ FieldType.int.toString) = some c1 := (hK.2 1 (c1, .int) rfl).2
  obtain rfl : cI = c1 := Option.some.inj (r0.symm.trans r1)
  have hK := hK.sub (tys' := [(cI, .int)]) [0] rfl
  have hP : va_P D vwCl ([(h0, .inr (1, [.int 0, .ref a1, .null, .null, .null, .null, .null, .int 0, .int 0, .int 0, .int 0, .int 0, .int 0, .int 0])), (a1, .inl (cI, 32768, .inl (fun _ => 0))), (a2, .inl (cI, 1024, .inl (fun _ => 0)))]) H := hP
  have hD : va_D A ([(h0, .inr (1, [.int 0, .ref a1, .null, .null, .null, .null, .null, .int 0, .int 0, .int 0, .int 0, .int 0, .int 0, .int 0])), (a1, .inl (cI, 32768, .inl (fun _ => 0))), (a2, .inl (cI, 1024, .inl (fun _ => 0)))]) := hD
  refine va_putF (ci := 1) (v := .ref a2) (ty := .array .int) (C := RX1) (T := TX1) (N := 14) hx hb hts in9 tyX1 tyX1_ok nmX1 hown hK hP hD hS 0 rfl rfl 2 (by decide) (hts (.fieldLink RX1 14 "WordMediumModel" "stamps" "[I") (by decide +kernel)) (fun _ h9 => h9) rfl hin rfl (by decide +kernel) rfl rfl (Nat.le_of_ble_eq_true rfl) dX1_init_18 (fun H locs hP hD hS => ?_)
  have hP : va_P D vwCl ([(h0, .inr (1, [.int 0, .ref a1, .ref a2, .null, .null, .null, .null, .int 0, .int 0, .int 0, .int 0, .int 0, .int 0, .int 0])), (a1, .inl (cI, 32768, .inl (fun _ => 0))), (a2, .inl (cI, 1024, .inl (fun _ => 0)))]) H := hP
  have hD : va_D A ([(h0, .inr (1, [.int 0, .ref a1, .ref a2, .null, .null, .null, .null, .int 0, .int 0, .int 0, .int 0, .int 0, .int 0, .int 0])), (a1, .inl (cI, 32768, .inl (fun _ => 0))), (a2, .inl (cI, 1024, .inl (fun _ => 0)))]) := hD
  refine lv_aload_n hx hb dX1_init_21 rfl (lv_at hl 0 rfl) ?_
  refine lv_sipush (v := nI 512) hx hb dX1_init_22 (by decide) ?_
  refine va_newa (atype := .boolean) (ty := .boolean) (a0 := (512, .inl (fun _ => 0))) (N' := 512) hx hb (hts (.arrayClass .boolean) (by decide +kernel)) rfl hK hP hD hS hA (fun cA => arr_0z cA 512) (nI_pos (by omega)) (nI_clamp (by omega)) (Nat.le_of_ble_eq_true rfl) (Nat.le_of_ble_eq_true rfl) (Nat.le_of_ble_eq_true rfl) dX1_init_25 (fun a3 cZ H hK hP hD hS => ?_)
  refine W.widen (k := 3) (n := 34304) (Nat.le_of_ble_eq_true rfl) (Nat.le_of_ble_eq_true rfl) ?_
  have hP : va_P D vwCl ([(h0, .inr (1, [.int 0, .ref a1, .ref a2, .null, .null, .null, .null, .int 0, .int 0, .int 0, .int 0, .int 0, .int 0, .int 0])), (a1, .inl (cI, 32768, .inl (fun _ => 0))), (a2, .inl (cI, 1024, .inl (fun _ => 0))), (a3, .inl (cZ, 512, .inl (fun _ => 0)))]) H := hP
  have hD : va_D A ([(h0, .inr (1, [.int 0, .ref a1, .ref a2, .null, .null, .null, .null, .int 0, .int 0, .int 0, .int 0, .int 0, .int 0, .int 0])), (a1, .inl (cI, 32768, .inl (fun _ => 0))), (a2, .inl (cI, 1024, .inl (fun _ => 0))), (a3, .inl (cZ, 512, .inl (fun _ => 0)))]) := hD
  refine va_putF (ci := 1) (v := .ref a3) (ty := .array .boolean) (C := RX1) (T := TX1) (N := 14) hx hb hts in9 tyX1 tyX1_ok nmX1 hown hK hP hD hS 0 rfl rfl 3 (by decide) (hts (.fieldLink RX1 17 "WordMediumModel" "lost" "[Z") (by decide +kernel)) (fun _ h9 => h9) rfl hin rfl (by decide +kernel) rfl rfl (Nat.le_of_ble_eq_true rfl) dX1_init_27 (fun H locs hP hD hS => ?_)
  have hP : va_P D vwCl ([(h0, .inr (1, [.int 0, .ref a1, .ref a2, .ref a3, .null, .null, .null, .int 0, .int 0, .int 0, .int 0, .int 0, .int 0, .int 0])), (a1, .inl (cI, 32768, .inl (fun _ => 0))), (a2, .inl (cI, 1024, .inl (fun _ => 0))), (a3, .inl (cZ, 512, .inl (fun _ => 0)))]) H := hP
  have hD : va_D A ([(h0, .inr (1, [.int 0, .ref a1, .ref a2, .ref a3, .null, .null, .null, .int 0, .int 0, .int 0, .int 0, .int 0, .int 0, .int 0])), (a1, .inl (cI, 32768, .inl (fun _ => 0))), (a2, .inl (cI, 1024, .inl (fun _ => 0))), (a3, .inl (cZ, 512, .inl (fun _ => 0)))]) := hD
  refine lv_aload_n hx hb dX1_init_30 rfl (lv_at hl 0 rfl) ?_
  refine lv_ldc (v := nI 65536) hx hb hown (hts (.constant RX1 21 (65536)) (by decide +kernel)) dX1_init_31 ?_
  refine va_newa (atype := .int) (ty := .int) (a0 := (65536, .inl (fun _ => 0))) (N' := 65536) hx hb (hts (.arrayClass .int) (by decide +kernel)) rfl hK hP hD hS hA (fun cA => arr_0i cA 65536) (nI_pos (by omega)) (nI_clamp (by omega)) (Nat.le_of_ble_eq_true rfl) (Nat.le_of_ble_eq_true rfl) (Nat.le_of_ble_eq_true rfl) dX1_init_33 (fun a4 c3 H hK hP hD hS => ?_)
  refine W.widen (k := 4) (n := 99840) (Nat.le_of_ble_eq_true rfl) (Nat.le_of_ble_eq_true rfl) ?_
  have r0 : s.vm.findClass ("[" ++ FieldType.int.toString) = some cI := (hK.2 0 (cI, .int) rfl).2
  have r1 : s.vm.findClass ("[" ++ FieldType.int.toString) = some c3 := (hK.2 2 (c3, .int) rfl).2
  obtain rfl : cI = c3 := Option.some.inj (r0.symm.trans r1)
  have hK := hK.sub (tys' := [(cI, .int), (cZ, .boolean)]) [0, 1] rfl
  have hP : va_P D vwCl ([(h0, .inr (1, [.int 0, .ref a1, .ref a2, .ref a3, .null, .null, .null, .int 0, .int 0, .int 0, .int 0, .int 0, .int 0, .int 0])), (a1, .inl (cI, 32768, .inl (fun _ => 0))), (a2, .inl (cI, 1024, .inl (fun _ => 0))), (a3, .inl (cZ, 512, .inl (fun _ => 0))), (a4, .inl (cI, 65536, .inl (fun _ => 0)))]) H := hP
  have hD : va_D A ([(h0, .inr (1, [.int 0, .ref a1, .ref a2, .ref a3, .null, .null, .null, .int 0, .int 0, .int 0, .int 0, .int 0, .int 0, .int 0])), (a1, .inl (cI, 32768, .inl (fun _ => 0))), (a2, .inl (cI, 1024, .inl (fun _ => 0))), (a3, .inl (cZ, 512, .inl (fun _ => 0))), (a4, .inl (cI, 65536, .inl (fun _ => 0)))]) := hD
  refine va_putF (ci := 1) (v := .ref a4) (ty := .array .int) (C := RX1) (T := TX1) (N := 14) hx hb hts in9 tyX1 tyX1_ok nmX1 hown hK hP hD hS 0 rfl rfl 4 (by decide) (hts (.fieldLink RX1 22 "WordMediumModel" "log" "[I") (by decide +kernel)) (fun _ h9 => h9) rfl hin rfl (by decide +kernel) rfl rfl (Nat.le_of_ble_eq_true rfl) dX1_init_35 (fun H locs hP hD hS => ?_)
  have hP : va_P D vwCl ([(h0, .inr (1, [.int 0, .ref a1, .ref a2, .ref a3, .ref a4, .null, .null, .int 0, .int 0, .int 0, .int 0, .int 0, .int 0, .int 0])), (a1, .inl (cI, 32768, .inl (fun _ => 0))), (a2, .inl (cI, 1024, .inl (fun _ => 0))), (a3, .inl (cZ, 512, .inl (fun _ => 0))), (a4, .inl (cI, 65536, .inl (fun _ => 0)))]) H := hP
  have hD : va_D A ([(h0, .inr (1, [.int 0, .ref a1, .ref a2, .ref a3, .ref a4, .null, .null, .int 0, .int 0, .int 0, .int 0, .int 0, .int 0, .int 0])), (a1, .inl (cI, 32768, .inl (fun _ => 0))), (a2, .inl (cI, 1024, .inl (fun _ => 0))), (a3, .inl (cZ, 512, .inl (fun _ => 0))), (a4, .inl (cI, 65536, .inl (fun _ => 0)))]) := hD
  refine lv_aload_n hx hb dX1_init_38 rfl (lv_at hl 0 rfl) ?_
  refine lv_iconst (v := nI 4) hx hb dX1_init_39 (by decide) ?_
  refine va_newa (atype := .int) (ty := .int) (a0 := (4, .inl (fun _ => 0))) (N' := 4) hx hb (hts (.arrayClass .int) (by decide +kernel)) rfl hK hP hD hS hA (fun cA => arr_0i cA 4) (nI_pos (by omega)) (nI_clamp (by omega)) (Nat.le_of_ble_eq_true rfl) (Nat.le_of_ble_eq_true rfl) (Nat.le_of_ble_eq_true rfl) dX1_init_40 (fun a5 c4 H hK hP hD hS => ?_)
  refine W.widen (k := 5) (n := 99844) (Nat.le_of_ble_eq_true rfl) (Nat.le_of_ble_eq_true rfl) ?_
  have r0 : s.vm.findClass ("[" ++ FieldType.int.toString) = some cI := (hK.2 0 (cI, .int) rfl).2
  have r1 : s.vm.findClass ("[" ++ FieldType.int.toString) = some c4 := (hK.2 2 (c4, .int) rfl).2
  obtain rfl : cI = c4 := Option.some.inj (r0.symm.trans r1)
  have hK := hK.sub (tys' := [(cI, .int), (cZ, .boolean)]) [0, 1] rfl
  have hP : va_P D vwCl ([(h0, .inr (1, [.int 0, .ref a1, .ref a2, .ref a3, .ref a4, .null, .null, .int 0, .int 0, .int 0, .int 0, .int 0, .int 0, .int 0])), (a1, .inl (cI, 32768, .inl (fun _ => 0))), (a2, .inl (cI, 1024, .inl (fun _ => 0))), (a3, .inl (cZ, 512, .inl (fun _ => 0))), (a4, .inl (cI, 65536, .inl (fun _ => 0))), (a5, .inl (cI, 4, .inl (fun _ => 0)))]) H := hP
  have hD : va_D A ([(h0, .inr (1, [.int 0, .ref a1, .ref a2, .ref a3, .ref a4, .null, .null, .int 0, .int 0, .int 0, .int 0, .int 0, .int 0, .int 0])), (a1, .inl (cI, 32768, .inl (fun _ => 0))), (a2, .inl (cI, 1024, .inl (fun _ => 0))), (a3, .inl (cZ, 512, .inl (fun _ => 0))), (a4, .inl (cI, 65536, .inl (fun _ => 0))), (a5, .inl (cI, 4, .inl (fun _ => 0)))]) := hD
  refine va_putF (ci := 1) (v := .ref a5) (ty := .array .int) (C := RX1) (T := TX1) (N := 14) hx hb hts in9 tyX1 tyX1_ok nmX1 hown hK hP hD hS 0 rfl rfl 5 (by decide) (hts (.fieldLink RX1 25 "WordMediumModel" "roots" "[I") (by decide +kernel)) (fun _ h9 => h9) rfl hin rfl (by decide +kernel) rfl rfl (Nat.le_of_ble_eq_true rfl) dX1_init_42 (fun H locs hP hD hS => ?_)
  have hP : va_P D vwCl ([(h0, .inr (1, [.int 0, .ref a1, .ref a2, .ref a3, .ref a4, .ref a5, .null, .int 0, .int 0, .int 0, .int 0, .int 0, .int 0, .int 0])), (a1, .inl (cI, 32768, .inl (fun _ => 0))), (a2, .inl (cI, 1024, .inl (fun _ => 0))), (a3, .inl (cZ, 512, .inl (fun _ => 0))), (a4, .inl (cI, 65536, .inl (fun _ => 0))), (a5, .inl (cI, 4, .inl (fun _ => 0)))]) H := hP
  have hD : va_D A ([(h0, .inr (1, [.int 0, .ref a1, .ref a2, .ref a3, .ref a4, .ref a5, .null, .int 0, .int 0, .int 0, .int 0, .int 0, .int 0, .int 0])), (a1, .inl (cI, 32768, .inl (fun _ => 0))), (a2, .inl (cI, 1024, .inl (fun _ => 0))), (a3, .inl (cZ, 512, .inl (fun _ => 0))), (a4, .inl (cI, 65536, .inl (fun _ => 0))), (a5, .inl (cI, 4, .inl (fun _ => 0)))]) := hD
  refine lv_aload_n hx hb dX1_init_45 rfl (lv_at hl 0 rfl) ?_
  refine lv_bipush (v := nI 64) hx hb dX1_init_46 (by decide) ?_
  refine va_newa (atype := .int) (ty := .int) (a0 := (64, .inl (fun _ => 0))) (N' := 64) hx hb (hts (.arrayClass .int) (by decide +kernel)) rfl hK hP hD hS hA (fun cA => arr_0i cA 64) (nI_pos (by omega)) (nI_clamp (by omega)) (Nat.le_of_ble_eq_true rfl) (Nat.le_of_ble_eq_true rfl) (Nat.le_of_ble_eq_true rfl) dX1_init_48 (fun a0 c5 H hK hP hD hS => ?_)
  refine W.widen (k := 6) (n := 99908) (Nat.le_of_ble_eq_true rfl) (Nat.le_of_ble_eq_true rfl) ?_
  have r0 : s.vm.findClass ("[" ++ FieldType.int.toString) = some cI := (hK.2 0 (cI, .int) rfl).2
  have r1 : s.vm.findClass ("[" ++ FieldType.int.toString) = some c5 := (hK.2 2 (c5, .int) rfl).2
  obtain rfl : cI = c5 := Option.some.inj (r0.symm.trans r1)
  have hK := hK.sub (tys' := [(cI, .int), (cZ, .boolean)]) [0, 1] rfl
  have hP : va_P D vwCl ([(h0, .inr (1, [.int 0, .ref a1, .ref a2, .ref a3, .ref a4, .ref a5, .null, .int 0, .int 0, .int 0, .int 0, .int 0, .int 0, .int 0])), (a1, .inl (cI, 32768, .inl (fun _ => 0))), (a2, .inl (cI, 1024, .inl (fun _ => 0))), (a3, .inl (cZ, 512, .inl (fun _ => 0))), (a4, .inl (cI, 65536, .inl (fun _ => 0))), (a5, .inl (cI, 4, .inl (fun _ => 0))), (a0, .inl (cI, 64, .inl (fun _ => 0)))]) H := hP
  have hD : va_D A ([(h0, .inr (1, [.int 0, .ref a1, .ref a2, .ref a3, .ref a4, .ref a5, .null, .int 0, .int 0, .int 0, .int 0, .int 0, .int 0, .int 0])), (a1, .inl (cI, 32768, .inl (fun _ => 0))), (a2, .inl (cI, 1024, .inl (fun _ => 0))), (a3, .inl (cZ, 512, .inl (fun _ => 0))), (a4, .inl (cI, 65536, .inl (fun _ => 0))), (a5, .inl (cI, 4, .inl (fun _ => 0))), (a0, .inl (cI, 64, .inl (fun _ => 0)))]) := hD
  refine va_putF (ci := 1) (v := .ref a0) (ty := .array .int) (C := RX1) (T := TX1) (N := 14) hx hb hts in9 tyX1 tyX1_ok nmX1 hown hK hP hD hS 0 rfl rfl 6 (by decide) (hts (.fieldLink RX1 28 "WordMediumModel" "buffer" "[I") (by decide +kernel)) (fun _ h9 => h9) rfl hin rfl (by decide +kernel) rfl rfl (Nat.le_of_ble_eq_true rfl) dX1_init_50 (fun H locs hP hD hS => ?_)
  have hP : va_P D vwCl ([(h0, .inr (1, [.int 0, .ref a1, .ref a2, .ref a3, .ref a4, .ref a5, .ref a0, .int 0, .int 0, .int 0, .int 0, .int 0, .int 0, .int 0])), (a1, .inl (cI, 32768, .inl (fun _ => 0))), (a2, .inl (cI, 1024, .inl (fun _ => 0))), (a3, .inl (cZ, 512, .inl (fun _ => 0))), (a4, .inl (cI, 65536, .inl (fun _ => 0))), (a5, .inl (cI, 4, .inl (fun _ => 0))), (a0, .inl (cI, 64, .inl (fun _ => 0)))]) H := hP
  have hD : va_D A ([(h0, .inr (1, [.int 0, .ref a1, .ref a2, .ref a3, .ref a4, .ref a5, .ref a0, .int 0, .int 0, .int 0, .int 0, .int 0, .int 0, .int 0])), (a1, .inl (cI, 32768, .inl (fun _ => 0))), (a2, .inl (cI, 1024, .inl (fun _ => 0))), (a3, .inl (cZ, 512, .inl (fun _ => 0))), (a4, .inl (cI, 65536, .inl (fun _ => 0))), (a5, .inl (cI, 4, .inl (fun _ => 0))), (a0, .inl (cI, 64, .inl (fun _ => 0)))]) := hD
  refine lv_aload_n hx hb dX1_init_53 rfl (lv_at hl 0 rfl) ?_
  refine lv_iconst (v := (-1)) hx hb dX1_init_54 (by decide) ?_
  refine va_put (ci := 1) (v := .int (-1)) (ty := .int) (C := RX1) (T := TX1) (N := 14) hx hb hts in9 tyX1 tyX1_ok nmX1 hown hK hP hD hS 0 rfl rfl 13 (by decide) (hts (.fieldLink RX1 31 "WordMediumModel" "left" "I") (by decide +kernel)) (fun _ h9 => h9) rfl (by decide +kernel) rfl rfl (Nat.le_of_ble_eq_true rfl) dX1_init_55 (fun H locs hP hD hS => ?_)
  have hP : va_P D vwCl ([(h0, .inr (1, [.int 0, .ref a1, .ref a2, .ref a3, .ref a4, .ref a5, .ref a0, .int 0, .int 0, .int 0, .int 0, .int 0, .int 0, .int (-1)])), (a1, .inl (cI, 32768, .inl (fun _ => 0))), (a2, .inl (cI, 1024, .inl (fun _ => 0))), (a3, .inl (cZ, 512, .inl (fun _ => 0))), (a4, .inl (cI, 65536, .inl (fun _ => 0))), (a5, .inl (cI, 4, .inl (fun _ => 0))), (a0, .inl (cI, 64, .inl (fun _ => 0)))]) H := hP
  have hD : va_D A ([(h0, .inr (1, [.int 0, .ref a1, .ref a2, .ref a3, .ref a4, .ref a5, .ref a0, .int 0, .int 0, .int 0, .int 0, .int 0, .int 0, .int (-1)])), (a1, .inl (cI, 32768, .inl (fun _ => 0))), (a2, .inl (cI, 1024, .inl (fun _ => 0))), (a3, .inl (cZ, 512, .inl (fun _ => 0))), (a4, .inl (cI, 65536, .inl (fun _ => 0))), (a5, .inl (cI, 4, .inl (fun _ => 0))), (a0, .inl (cI, 64, .inl (fun _ => 0)))]) := hD
  refine lv_aload_n hx hb dX1_init_58 rfl (lv_at hl 0 rfl) ?_
  refine lv_iconst (v := 0) hx hb dX1_init_59 (by decide) ?_
  refine va_put (ci := 1) (v := .int 0) (ty := .int) (C := RX1) (T := TX1) (N := 14) hx hb hts in9 tyX1 tyX1_ok nmX1 hown hK hP hD hS 0 rfl rfl 7 (by decide) (hts (.fieldLink RX1 35 "WordMediumModel" "first" "I") (by decide +kernel)) (fun _ h9 => h9) rfl (by decide +kernel) rfl rfl (Nat.le_of_ble_eq_true rfl) dX1_init_60 (fun H locs hP hD hS => ?_)
  have hP : va_P D vwCl ([(h0, .inr (1, [.int 0, .ref a1, .ref a2, .ref a3, .ref a4, .ref a5, .ref a0, .int 0, .int 0, .int 0, .int 0, .int 0, .int 0, .int (-1)])), (a1, .inl (cI, 32768, .inl (fun _ => 0))), (a2, .inl (cI, 1024, .inl (fun _ => 0))), (a3, .inl (cZ, 512, .inl (fun _ => 0))), (a4, .inl (cI, 65536, .inl (fun _ => 0))), (a5, .inl (cI, 4, .inl (fun _ => 0))), (a0, .inl (cI, 64, .inl (fun _ => 0)))]) H := hP
  have hD : va_D A ([(h0, .inr (1, [.int 0, .ref a1, .ref a2, .ref a3, .ref a4, .ref a5, .ref a0, .int 0, .int 0, .int 0, .int 0, .int 0, .int 0, .int (-1)])), (a1, .inl (cI, 32768, .inl (fun _ => 0))), (a2, .inl (cI, 1024, .inl (fun _ => 0))), (a3, .inl (cZ, 512, .inl (fun _ => 0))), (a4, .inl (cI, 65536, .inl (fun _ => 0))), (a5, .inl (cI, 4, .inl (fun _ => 0))), (a0, .inl (cI, 64, .inl (fun _ => 0)))]) := hD
  have hP : va_P D vwCl (wM h0 a0 a1 a2 a3 a4 a5 cI cZ 0 (fun _ => 0) (fun _ => 0) (fun _ => 0) (fun _ => 0) (fun _ => 0) (fun _ => 0) 0 (nI 0) (nI 0) (nI 0) 0 (-1) 0) H := hP.sub [0, 6, 1, 2, 3, 4, 5] rfl
  have hD : va_D A (wM h0 a0 a1 a2 a3 a4 a5 cI cZ 0 (fun _ => 0) (fun _ => 0) (fun _ => 0) (fun _ => 0) (fun _ => 0) (fun _ => 0) 0 (nI 0) (nI 0) (nI 0) 0 (-1) 0) := hD.sub [0, 6, 1, 2, 3, 4, 5] (by decide) rfl
  have hK : va_K D vwCl (tyC cI cZ) s := hK.sub [0, 1] rfl
  exact W.vret hx hb hr (fun t ht hW => ⟨⟨(a0, a1, a2, a3, a4, a5, cI, cZ), rfl, trivial, ⟨by rw [ht]; exact hP, hD⟩, va_K.moved hW.alike hK⟩, hS.F ht⟩) hS.2.2 dX1_init_63
