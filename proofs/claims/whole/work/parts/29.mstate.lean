/-! OWN ROWS: what the reference's walks need -/
section OwnNumM
variable {p : Program} {l : Launch} {e : Env} {R : Room} {s : State} {m : MethodId} {args : Array Value} {below : List Frame} {meth : Method} {c : Code} {H : Heap} {locs : List Loc} {cells slots : Nat} {Q : State → Prop} {cc : ByteArray} {pc : Nat} {ls : Array Slot} {rest : List Value}
theorem n_imulc (hx : p.tables.exec = Jvm.exec) (hb : c.code = cc) {x y : Nat} (hdg : decode cc pc = .ok (.imul, 1)) (kk : W p l e R s m args below meth c H locs cells slots Q (F0 m (pc + 1) ls (.int (nI (y * x)) :: rest))) : W p l e R s m args below meth c H locs cells slots Q (F0 m pc ls (.int (nI y) :: .int (nI x) :: rest)) :=
  lv_imul hx hb hdg (by rw [pk_mul, Nat.mul_comm]; exact kk)
end OwnNumM
theorem cpy_t {f g : Nat → Int32} {sp dp n d : Nat} {x : Int32} (h1 : d = dp + n) (h2 : x = f (sp + n)) : upd (va_cpy f g sp dp n) d x = va_cpy f g sp dp (n + 1) := by
  subst h1
  subst h2
  exact cpy_s f g sp dp n
def sp_in (x a b : Int32) : Int32 := if x < a then 0 else if b < x then 0 else 1
def sp_pg (x y : Int32) : Int32 := if sp_in x (nI 0) (nI 1) = 0 then 0 else sp_in y (nI 0) (nI 255)
theorem ix_in {x : Int32} (N : Nat) (hN : N + 1 < 2 ^ 31) (h : x < 0 ∨ nI (N + 1) ≤ x) : x < nI 0 ∨ nI N < x := by
  rcases h with h | h
  · exact Or.inl (by rw [nI_0]; exact h)
  · have h2 := Int32.le_iff_toInt_le.mp h
    rw [nI_toInt hN] at h2
    exact Or.inr (Int32.lt_iff_toInt_lt.mpr (by rw [nI_toInt (by omega)]; omega))
theorem pg_cases (x y : Int32) : badP x y ∨ ∃ ar pg : Nat, ar < 2 ∧ pg < 256 ∧ x = nI ar ∧ y = nI pg := by
  rcases pk_ix x (n := 2) (by omega) with h | h | ⟨ar, h1, e1⟩
  · exact Or.inl (Or.inl (Or.inl h))
  · exact Or.inl (Or.inl (Or.inr h))
  · rcases pk_ix y (n := 256) (by omega) with h | h | ⟨pg, h2, e2⟩
    · exact Or.inl (Or.inr ⟨ar, h1, e1, Or.inl h⟩)
    · exact Or.inl (Or.inr ⟨ar, h1, e1, Or.inr h⟩)
    · exact Or.inr ⟨ar, pg, h1, h2, e1, e2⟩
theorem dcu_le {cu : Int32} (h : ¬ cu = 0) (hn : -1 ≤ cu) (h2 : cu ≤ 0) : dcu cu = cu := by
  have e : cu = -1 := by
    have a1 := Int32.le_iff_toInt_le.mp hn
    have a2 := Int32.le_iff_toInt_le.mp h2
    have a3 : cu.toInt ≠ 0 := fun z => h (Int32.toInt_inj.mp (by rw [z]; rfl))
    have b1 : (-1 : Int32).toInt = -1 := by decide
    have b2 : (0 : Int32).toInt = 0 := by decide
    rw [b1] at a1
    rw [b2] at a2
    exact Int32.toInt_inj.mp (by rw [b1]; omega)
  unfold dcu
  rw [if_pos e]
theorem dcu_gt {cu : Int32} (h2 : ¬ cu ≤ 0) : dcu cu = cu - 1 := by
  unfold dcu
  rw [if_neg]
  intro e
  rw [e] at h2
  exact h2 (by decide)
theorem dcu_ge {cu : Int32} (h : ¬ cu = 0) (hn : -1 ≤ cu) : -1 ≤ dcu cu := by
  unfold dcu
  split
  · exact hn
  · rename_i e
    have a1 := Int32.le_iff_toInt_le.mp hn
    have b1 : (-1 : Int32).toInt = -1 := by decide
    have b3 : (1 : Int32).toInt = 1 := by decide
    rw [b1] at a1
    have a3 : cu.toInt ≠ 0 := fun z => h (Int32.toInt_inj.mp (by rw [z]; rfl))
    have a4 : cu.toInt ≠ -1 := fun z => e (Int32.toInt_inj.mp (by rw [z]; rfl))
    have a5 := Int32.toInt_lt cu
    refine Int32.le_iff_toInt_le.mpr ?_
    rw [Int32.toInt_sub, b1, b3, Int.bmod_def]
    split <;> omega
