/-! OWN ROWS: the law's cases, and rows for its walk -/
theorem ix_cases (x : Int32) (N : Nat) (hN : N < 2 ^ 31) : (x < 0 ∨ nI N ≤ x) ∨ ∃ k : Nat, k < N ∧ x = nI k := by
  rcases pk_ix x hN with h | h | h
  · exact Or.inl (Or.inl h)
  · exact Or.inl (Or.inr h)
  · exact Or.inr h
theorem rg_cases (x : Int32) (a b : Nat) (ha : a < 2 ^ 31) (hb : b < 2 ^ 31) : (x < nI a ∨ nI b < x) ∨ ∃ k : Nat, a ≤ k ∧ k ≤ b ∧ x = nI k := by
  by_cases h1 : x < nI a
  · exact Or.inl (Or.inl h1)
  · by_cases h2 : nI b < x
    · exact Or.inl (Or.inr h2)
    · have h5 := Int32.le_iff_toInt_le.mp (Int32.not_lt.mp h1)
      have h6 := Int32.le_iff_toInt_le.mp (Int32.not_lt.mp h2)
      rw [nI_toInt hb] at h6
      rw [nI_toInt ha] at h5
      refine Or.inr ⟨x.toInt.toNat, by omega, by omega, Int32.toInt_inj.mp ?_⟩
      rw [nI_toInt (by omega)]
      omega
theorem st_cases (x y z : Int32) : badS x y z ∨ ∃ ar pg hf : Nat, ar < 2 ∧ pg < 256 ∧ hf < 2 ∧ x = nI ar ∧ y = nI pg ∧ z = nI hf := by
  rcases pg_cases x y with h | ⟨ar, pg, h1, h2, e1, e2⟩
  · exact Or.inl (Or.inl h)
  · rcases ix_cases z 2 (by omega) with h | ⟨hf, h3, e3⟩
    · exact Or.inl (Or.inr ⟨ar, pg, h1, h2, e1, e2, h⟩)
    · exact Or.inr ⟨ar, pg, hf, h1, h2, h3, e1, e2, e3⟩
theorem ct_cases (x y : Int32) : badC x y ∨ ∃ ar st : Nat, ar < 2 ∧ st < 3 ∧ x = nI ar ∧ y = nI st := by
  rcases ix_cases x 2 (by omega) with h | ⟨ar, h1, e1⟩
  · exact Or.inl (Or.inl h)
  · rcases ix_cases y 3 (by omega) with h | ⟨k, h2, e2⟩
    · exact Or.inl (Or.inr ⟨ar, h1, e1, h⟩)
    · exact Or.inr ⟨ar, k, h1, h2, e1, e2⟩
theorem rl_cases (fi en : Nat) (x y : Int32) (he : en ≤ 60000) (hf : fi ≤ en) : badR fi en x y ∨ ∃ pl k : Nat, 1 ≤ k ∧ k ≤ 64 ∧ fi ≤ pl ∧ pl + k ≤ en ∧ x = nI pl ∧ y = nI k := by
  rcases rg_cases y 1 64 (by omega) (by omega) with h | ⟨k, h1, h2, e2⟩
  · exact Or.inl (Or.inl h)
  · rcases rg_cases x fi en (by omega) (by omega) with h | ⟨pl, h3, h4, e1⟩
    · refine Or.inl (Or.inr ⟨k, h1, h2, e2, ?_⟩)
      rcases h with h | h
      · exact Or.inl h
      · refine Or.inr (Int32.lt_iff_toInt_lt.mpr ?_)
        have h5 := Int32.lt_iff_toInt_lt.mp h
        rw [nI_toInt (by omega)] at h5
        rw [pk_sub_toInt (by omega) (by omega)]
        omega
    · by_cases h5 : pl + k ≤ en
      · exact Or.inr ⟨pl, k, h1, h2, h3, h5, e1, e2⟩
      · refine Or.inl (Or.inr ⟨k, h1, h2, e2, Or.inr (Int32.lt_iff_toInt_lt.mpr ?_)⟩)
        rw [e1, nI_toInt (by omega), pk_sub_toInt (by omega) (by omega)]
        omega
theorem fmk_le : ∀ (n : Nat) (cu : Int32), fmk n cu ≤ n
  | 0, _ => Nat.le_refl 0
  | n + 1, cu => by
    unfold fmk
    split
    · omega
    · have h := fmk_le n (dcu cu)
      omega
theorem fcu_ge : ∀ (n : Nat) (cu : Int32), -1 ≤ cu → -1 ≤ fcu n cu
  | 0, _, h => h
  | n + 1, cu, h => by
    unfold fcu
    split
    · exact h
    · rename_i q
      exact fcu_ge n (dcu cu) (dcu_ge q h)
theorem lg_self (x : Int64) : lg_cmp x x = 0 := by
  simp [lg_cmp]
section OwnNumX
variable {p : Program} {l : Launch} {e : Env} {R : Room} {s : State} {m : MethodId} {args : Array Value} {below : List Frame} {meth : Method} {c : Code} {H : Heap} {locs : List Loc} {cells slots : Nat} {Q : State → Prop}
variable {cc : ByteArray} {pc : Nat} {ls : Array Slot} {rest : List Value} {A : Nat → Prop} {H0 : Heap}
theorem n_sld (hx : p.tables.exec = Jvm.exec) (hb : c.code = cc) {b L : Nat} {xs : Nat → Int32} (hX : va_X b L xs s H0) (hbl : b < H0.size) (hbA : ¬ A b) (hS : va_S A H0 H locs) (k : Nat) (hk : k < L) (hL : L < 2 ^ 31) (v : Int32) (hv : xs k = v) (hdg : decode cc pc = .ok (.iaload, 1))
    (kk : W p l e R s m args below meth c H locs cells slots Q (F0 m (pc + 1) ls (.int v :: rest))) : W p l e R s m args below meth c H locs cells slots Q (F0 m pc ls (.int (nI k) :: .ref b :: rest)) :=
  va_sld hx hb hX hbl hbA hS (vp_in_nI hk hL) hdg (by rw [nI_clamp (Nat.lt_trans hk hL), hv]; exact kk)
end OwnNumX
abbrev wA (h0 a0 a1 a2 a3 a4 a5 g0 b0 b1 b2 b3 b4 b5 oj : Nat) (cI cZ cJ : ClassId) (bf pw hs lo lg rt : Nat → Int32) (nb : Int32) (fi fo en : Nat) (on off cu ma th : Int32) (og : Nat → Int64) : va_W :=
  wC h0 a0 a1 a2 a3 a4 a5 cI cZ bf pw hs lo lg rt nb (nI fi) (nI fo) (nI en) on cu ma ++ (wM g0 b0 b1 b2 b3 b4 b5 cI cZ th bf pw hs lo lg rt nb (nI fi) (nI fo) (nI en) off cu ma ++ wO oj cJ og)
/-- the law stands at its loop's head, j9 calls made -/
def lgW (p : Program) (l : Launch) (e : Env) (s : State) (m : MethodId) (below : List Frame) (meth : Method) (c : Code) (Q : State → Prop) (D : va_G) (A : Nat → Prop) (cI cZ cJ : ClassId) (b h0 a0 a1 a2 a3 a4 a5 g0 b0 b1 b2 b3 b4 b5 oj j9 : Nat) : Prop :=
  ∀ (bf pw hs lo lg rt : Nat → Int32) (nb : Int32) (fi fo en : Nat) (on off cu ma th : Int32) (og : Nat → Int64) (H : Heap) (locs : List Loc) (ls : Array Slot), ((on = 0 ∧ off = 1) ∨ (on = 1 ∧ off = 0)) → fi ≤ fo → fo ≤ en → en ≤ 64 * j9 → -1 ≤ cu →
    va_P D vwCl (wA h0 a0 a1 a2 a3 a4 a5 g0 b0 b1 b2 b3 b4 b5 oj cI cZ cJ bf pw hs lo lg rt nb fi fo en on off cu ma th og) H → va_D A (wA h0 a0 a1 a2 a3 a4 a5 g0 b0 b1 b2 b3 b4 b5 oj cI cZ cJ bf pw hs lo lg rt nb fi fo en on off cu ma th og) → va_S A s.heap H locs → lv_has ls 7 [(0, .ref b), (1, .ref h0), (2, .ref g0), (3, .ref oj), (4, .int (nI (4 * j9)))] →
      W p l e room_1 s m #[Value.ref b] below meth c H locs (15 + j9) (199844 + 6 * j9) Q (F0 m 23 ls [])
