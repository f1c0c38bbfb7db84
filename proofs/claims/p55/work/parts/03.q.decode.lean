/-! ===== decode, byte by byte ===== -/
abbrev dRd (α : Type) : Type := Reader DecodeError α
theorem d_bind {α β : Type} {r : dRd α} {f : α → dRd β} {c : ByteArray} {p q : Nat} {a : α} (h : r c p = .ok (a, q)) : (r >>= f) c p = f a c q := by
  show (do let (a, s) ← r c p; f a c s : Except DecodeError (β × Nat)) = _
  rw [h]; rfl
theorem d_map {α β : Type} {r : dRd α} {g : α → β} {c : ByteArray} {p q : Nat} {a : α} (h : r c p = .ok (a, q)) : (g <$> r) c p = .ok (g a, q) := by
  show (do let (a, s) ← r c p; .ok (g a, s) : Except DecodeError (β × Nat)) = _
  rw [h]; rfl
theorem d_u1 {c : ByteArray} {p : Nat} {x : UInt8} (h : c.data.toList[p]? = some x) : (Reader.u1 : dRd Nat) c p = .ok (x.toNat, p + 1) := by
  obtain ⟨h1, h2⟩ := List.getElem?_eq_some_iff.mp h
  have h3 : p < c.size := by simpa using h1
  have h4 : c[p] = x := h2
  show (do if h : p < c.size then do set (p + 1); Pure.pure c[p].toNat else MonadExcept.throw (HasTruncated.truncated p) : dRd Nat) c p = _
  rw [dif_pos h3, h4]; rfl
theorem d_b {c : ByteArray} {p0 m : Nat} {l : List Nat} (h : ((c.data.toList.drop p0).take m).map UInt8.toNat = l) (j : Nat) {b : Nat} (hj : l[j]? = some b) : (Reader.u1 : dRd Nat) c (p0 + j) = .ok (b, p0 + j + 1) := by
  rw [← h, List.getElem?_map, List.getElem?_take] at hj
  by_cases hm : j < m
  · rw [if_pos hm, List.getElem?_drop] at hj
    cases hx : c.data.toList[p0 + j]? with
    | none => rw [hx] at hj; simp at hj
    | some x =>
      rw [hx] at hj
      have hb : x.toNat = b := Option.some.inj hj
      rw [← hb]; exact d_u1 hx
  · rw [if_neg hm] at hj; simp at hj
theorem d_u2 {c : ByteArray} {p a b : Nat} (h1 : (Reader.u1 : dRd Nat) c p = .ok (a, p + 1)) (h2 : (Reader.u1 : dRd Nat) c (p + 1) = .ok (b, p + 1 + 1)) : (Reader.u2 : dRd Nat) c p = .ok (a * 256 + b, p + 1 + 1) := by
  delta Reader.u2
  refine (d_bind h1).trans ?_
  exact d_bind h2
theorem d_s2 {c : ByteArray} {p a b : Nat} (h1 : (Reader.u1 : dRd Nat) c p = .ok (a, p + 1)) (h2 : (Reader.u1 : dRd Nat) c (p + 1) = .ok (b, p + 1 + 1)) : (Reader.s2 : dRd Int) c p = .ok (Reader.signed 16 (a * 256 + b), p + 1 + 1) := by
  delta Reader.s2
  exact d_map (d_u2 h1 h2)
theorem d_s1 {c : ByteArray} {p a : Nat} (h1 : (Reader.u1 : dRd Nat) c p = .ok (a, p + 1)) : (Reader.s1 : dRd Int) c p = .ok (Reader.signed 8 a, p + 1) := by
  delta Reader.s1
  exact d_map h1
theorem d_dec {c : ByteArray} {pc n : Nat} {i : Instr} (h : Decoder.instr pc c pc = .ok (i, pc + n)) : decode c pc = .ok (i, n) := by
  have e : decode c pc = .ok (i, pc + n - pc) := by
    show (do let (j, s) ← Decoder.instr pc c pc; Pure.pure (j, s - pc) : Except DecodeError (Instr × Nat)) = _
    rw [h]; rfl
  rw [Nat.add_sub_cancel_left] at e
  exact e
def byt (N j : Nat) : Nat := Nat.mod (Nat.shiftRight N (Nat.mul 8 j)) 256
abbrev dCh (c : ByteArray) (p0 m N : Nat) : Prop := ((c.data.toList.drop p0).take m).map UInt8.toNat = (List.range m).map (byt N)
theorem d_n {c : ByteArray} {p0 m N : Nat} (h : dCh c p0 m N) (j : Nat) (hj : j < m) : (Reader.u1 : dRd Nat) c (p0 + j) = .ok (byt N j, p0 + j + 1) :=
  d_b h j (by rw [List.getElem?_map, List.getElem?_range hj]; rfl)
theorem d_nb {c : ByteArray} {p0 m N b k : Nat} (h : dCh c p0 m N) (j : Nat) (hj : Nat.ble k m = true) (hk : j < k) (hb : byt N j = b) : (Reader.u1 : dRd Nat) c (p0 + j) = .ok (b, p0 + j + 1) := by
  subst hb; exact d_n h j (Nat.lt_of_lt_of_le hk (Nat.le_of_ble_eq_true hj))
set_option maxRecDepth 16384 in
set_option maxHeartbeats 4000000 in
theorem dq_2 {c : ByteArray} {pc : Nat} (h : (Reader.u1 : dRd Nat) c (pc) = .ok (2, pc + 1)) : decode c pc = .ok (.iconst (-1), 1) := by
  refine d_dec ?_
  delta Decoder.instr
  refine (d_bind h).trans ?_
  rfl
theorem dn_2 {c : ByteArray} {p0 m N : Nat} (h : dCh c p0 m N) (j : Nat) (hj : Nat.ble (j + 1) m = true) (ho : byt N j = 2) : decode c (p0 + j) = .ok (.iconst (-1), 1) := dq_2 (d_nb h j hj (by omega) ho)

set_option maxRecDepth 16384 in
set_option maxHeartbeats 4000000 in
theorem dq_3 {c : ByteArray} {pc : Nat} (h : (Reader.u1 : dRd Nat) c (pc) = .ok (3, pc + 1)) : decode c pc = .ok (.iconst 0, 1) := by
  refine d_dec ?_
  delta Decoder.instr
  refine (d_bind h).trans ?_
  rfl
theorem dn_3 {c : ByteArray} {p0 m N : Nat} (h : dCh c p0 m N) (j : Nat) (hj : Nat.ble (j + 1) m = true) (ho : byt N j = 3) : decode c (p0 + j) = .ok (.iconst 0, 1) := dq_3 (d_nb h j hj (by omega) ho)

set_option maxRecDepth 16384 in
set_option maxHeartbeats 4000000 in
theorem dq_4 {c : ByteArray} {pc : Nat} (h : (Reader.u1 : dRd Nat) c (pc) = .ok (4, pc + 1)) : decode c pc = .ok (.iconst 1, 1) := by
  refine d_dec ?_
  delta Decoder.instr
  refine (d_bind h).trans ?_
  rfl
theorem dn_4 {c : ByteArray} {p0 m N : Nat} (h : dCh c p0 m N) (j : Nat) (hj : Nat.ble (j + 1) m = true) (ho : byt N j = 4) : decode c (p0 + j) = .ok (.iconst 1, 1) := dq_4 (d_nb h j hj (by omega) ho)

set_option maxRecDepth 16384 in
set_option maxHeartbeats 4000000 in
theorem dq_5 {c : ByteArray} {pc : Nat} (h : (Reader.u1 : dRd Nat) c (pc) = .ok (5, pc + 1)) : decode c pc = .ok (.iconst 2, 1) := by
  refine d_dec ?_
  delta Decoder.instr
  refine (d_bind h).trans ?_
  rfl
theorem dn_5 {c : ByteArray} {p0 m N : Nat} (h : dCh c p0 m N) (j : Nat) (hj : Nat.ble (j + 1) m = true) (ho : byt N j = 5) : decode c (p0 + j) = .ok (.iconst 2, 1) := dq_5 (d_nb h j hj (by omega) ho)

set_option maxRecDepth 16384 in
set_option maxHeartbeats 4000000 in
theorem dq_6 {c : ByteArray} {pc : Nat} (h : (Reader.u1 : dRd Nat) c (pc) = .ok (6, pc + 1)) : decode c pc = .ok (.iconst 3, 1) := by
  refine d_dec ?_
  delta Decoder.instr
  refine (d_bind h).trans ?_
  rfl
theorem dn_6 {c : ByteArray} {p0 m N : Nat} (h : dCh c p0 m N) (j : Nat) (hj : Nat.ble (j + 1) m = true) (ho : byt N j = 6) : decode c (p0 + j) = .ok (.iconst 3, 1) := dq_6 (d_nb h j hj (by omega) ho)

set_option maxRecDepth 16384 in
set_option maxHeartbeats 4000000 in
theorem dq_7 {c : ByteArray} {pc : Nat} (h : (Reader.u1 : dRd Nat) c (pc) = .ok (7, pc + 1)) : decode c pc = .ok (.iconst 4, 1) := by
  refine d_dec ?_
  delta Decoder.instr
  refine (d_bind h).trans ?_
  rfl
theorem dn_7 {c : ByteArray} {p0 m N : Nat} (h : dCh c p0 m N) (j : Nat) (hj : Nat.ble (j + 1) m = true) (ho : byt N j = 7) : decode c (p0 + j) = .ok (.iconst 4, 1) := dq_7 (d_nb h j hj (by omega) ho)

set_option maxRecDepth 16384 in
set_option maxHeartbeats 4000000 in
theorem dq_8 {c : ByteArray} {pc : Nat} (h : (Reader.u1 : dRd Nat) c (pc) = .ok (8, pc + 1)) : decode c pc = .ok (.iconst 5, 1) := by
  refine d_dec ?_
  delta Decoder.instr
  refine (d_bind h).trans ?_
  rfl
theorem dn_8 {c : ByteArray} {p0 m N : Nat} (h : dCh c p0 m N) (j : Nat) (hj : Nat.ble (j + 1) m = true) (ho : byt N j = 8) : decode c (p0 + j) = .ok (.iconst 5, 1) := dq_8 (d_nb h j hj (by omega) ho)

set_option maxRecDepth 16384 in
set_option maxHeartbeats 4000000 in
theorem dq_10 {c : ByteArray} {pc : Nat} (h : (Reader.u1 : dRd Nat) c (pc) = .ok (10, pc + 1)) : decode c pc = .ok (.lconst 1, 1) := by
  refine d_dec ?_
  delta Decoder.instr
  refine (d_bind h).trans ?_
  rfl
theorem dn_10 {c : ByteArray} {p0 m N : Nat} (h : dCh c p0 m N) (j : Nat) (hj : Nat.ble (j + 1) m = true) (ho : byt N j = 10) : decode c (p0 + j) = .ok (.lconst 1, 1) := dq_10 (d_nb h j hj (by omega) ho)

set_option maxRecDepth 16384 in
set_option maxHeartbeats 4000000 in
theorem dq_16 {c : ByteArray} {pc : Nat} {a : Nat} {z : Int} (h : (Reader.u1 : dRd Nat) c (pc) = .ok (16, pc + 1)) (h1 : (Reader.u1 : dRd Nat) c (pc + 1) = .ok (a, pc + 1 + 1)) (hv : Reader.signed 8 a = z) : decode c pc = .ok (.bipush z, 2) := by
  subst hv
  refine d_dec ?_
  delta Decoder.instr
  refine (d_bind h).trans ?_
  show (do Pure.pure (Instr.bipush (← Reader.s1)) : dRd Instr) c (pc + 1) = _
  exact d_bind (d_s1 h1)
theorem dn_16 {z : Int} {c : ByteArray} {p0 m N : Nat} (h : dCh c p0 m N) (j : Nat) (hj : Nat.ble (j + 2) m = true) (ho : byt N j = 16) (hv : Reader.signed 8 (byt N (j + 1)) = z) : decode c (p0 + j) = .ok (.bipush z, 2) := dq_16 (d_nb h j hj (by omega) ho) (d_nb h (j + 1) hj (by omega) rfl) hv

set_option maxRecDepth 16384 in
set_option maxHeartbeats 4000000 in
theorem dq_17 {c : ByteArray} {pc : Nat} {a b : Nat} {z : Int} (h : (Reader.u1 : dRd Nat) c (pc) = .ok (17, pc + 1)) (h1 : (Reader.u1 : dRd Nat) c (pc + 1) = .ok (a, pc + 1 + 1)) (h2 : (Reader.u1 : dRd Nat) c (pc + 1 + 1) = .ok (b, pc + 1 + 1 + 1)) (hv : Reader.signed 16 (a * 256 + b) = z) : decode c pc = .ok (.sipush z, 3) := by
  subst hv
  refine d_dec ?_
  delta Decoder.instr
  refine (d_bind h).trans ?_
  show (do Pure.pure (Instr.sipush (← Reader.s2)) : dRd Instr) c (pc + 1) = _
  exact d_bind (d_s2 h1 h2)
theorem dn_17 {z : Int} {c : ByteArray} {p0 m N : Nat} (h : dCh c p0 m N) (j : Nat) (hj : Nat.ble (j + 3) m = true) (ho : byt N j = 17) (hv : Reader.signed 16 (byt N (j + 1) * 256 + byt N (j + 2)) = z) : decode c (p0 + j) = .ok (.sipush z, 3) := dq_17 (d_nb h j hj (by omega) ho) (d_nb h (j + 1) hj (by omega) rfl) (d_nb h (j + 2) hj (by omega) rfl) hv

set_option maxRecDepth 16384 in
set_option maxHeartbeats 4000000 in
theorem dq_18 {c : ByteArray} {pc : Nat} {v : Nat} (h : (Reader.u1 : dRd Nat) c (pc) = .ok (18, pc + 1)) (h1 : (Reader.u1 : dRd Nat) c (pc + 1) = .ok (v, pc + 1 + 1)) : decode c pc = .ok (.ldc v, 2) := by
  refine d_dec ?_
  delta Decoder.instr
  refine (d_bind h).trans ?_
  show (do Pure.pure (Instr.ldc (← Reader.u1)) : dRd Instr) c (pc + 1) = _
  exact d_bind h1
theorem dn_18 {v : Nat} {c : ByteArray} {p0 m N : Nat} (h : dCh c p0 m N) (j : Nat) (hj : Nat.ble (j + 2) m = true) (ho : byt N j = 18) (hv : byt N (j + 1) = v) : decode c (p0 + j) = .ok (.ldc v, 2) := dq_18 (d_nb h j hj (by omega) ho) (d_nb h (j + 1) hj (by omega) hv)

set_option maxRecDepth 16384 in
set_option maxHeartbeats 4000000 in
theorem dq_19 {c : ByteArray} {pc : Nat} {v a b : Nat} (h : (Reader.u1 : dRd Nat) c (pc) = .ok (19, pc + 1)) (h1 : (Reader.u1 : dRd Nat) c (pc + 1) = .ok (a, pc + 1 + 1)) (h2 : (Reader.u1 : dRd Nat) c (pc + 1 + 1) = .ok (b, pc + 1 + 1 + 1)) (hv : a * 256 + b = v) : decode c pc = .ok (.ldc_w v, 3) := by
  subst hv
  refine d_dec ?_
  delta Decoder.instr
  refine (d_bind h).trans ?_
  show (do Pure.pure (Instr.ldc_w (← Reader.u2)) : dRd Instr) c (pc + 1) = _
  exact d_bind (d_u2 h1 h2)
theorem dn_19 {v : Nat} {c : ByteArray} {p0 m N : Nat} (h : dCh c p0 m N) (j : Nat) (hj : Nat.ble (j + 3) m = true) (ho : byt N j = 19) (hv : byt N (j + 1) * 256 + byt N (j + 2) = v) : decode c (p0 + j) = .ok (.ldc_w v, 3) := dq_19 (d_nb h j hj (by omega) ho) (d_nb h (j + 1) hj (by omega) rfl) (d_nb h (j + 2) hj (by omega) rfl) hv

set_option maxRecDepth 16384 in
set_option maxHeartbeats 4000000 in
theorem dq_20 {c : ByteArray} {pc : Nat} {v a b : Nat} (h : (Reader.u1 : dRd Nat) c (pc) = .ok (20, pc + 1)) (h1 : (Reader.u1 : dRd Nat) c (pc + 1) = .ok (a, pc + 1 + 1)) (h2 : (Reader.u1 : dRd Nat) c (pc + 1 + 1) = .ok (b, pc + 1 + 1 + 1)) (hv : a * 256 + b = v) : decode c pc = .ok (.ldc2_w v, 3) := by
  subst hv
  refine d_dec ?_
  delta Decoder.instr
  refine (d_bind h).trans ?_
  show (do Pure.pure (Instr.ldc2_w (← Reader.u2)) : dRd Instr) c (pc + 1) = _
  exact d_bind (d_u2 h1 h2)
theorem dn_20 {v : Nat} {c : ByteArray} {p0 m N : Nat} (h : dCh c p0 m N) (j : Nat) (hj : Nat.ble (j + 3) m = true) (ho : byt N j = 20) (hv : byt N (j + 1) * 256 + byt N (j + 2) = v) : decode c (p0 + j) = .ok (.ldc2_w v, 3) := dq_20 (d_nb h j hj (by omega) ho) (d_nb h (j + 1) hj (by omega) rfl) (d_nb h (j + 2) hj (by omega) rfl) hv

set_option maxRecDepth 16384 in
set_option maxHeartbeats 4000000 in
theorem dq_21 {c : ByteArray} {pc : Nat} {v : Nat} (h : (Reader.u1 : dRd Nat) c (pc) = .ok (21, pc + 1)) (h1 : (Reader.u1 : dRd Nat) c (pc + 1) = .ok (v, pc + 1 + 1)) : decode c pc = .ok (.iload v, 2) := by
  refine d_dec ?_
  delta Decoder.instr
  refine (d_bind h).trans ?_
  show (do Pure.pure (Instr.iload (← Reader.u1)) : dRd Instr) c (pc + 1) = _
  exact d_bind h1
theorem dn_21 {v : Nat} {c : ByteArray} {p0 m N : Nat} (h : dCh c p0 m N) (j : Nat) (hj : Nat.ble (j + 2) m = true) (ho : byt N j = 21) (hv : byt N (j + 1) = v) : decode c (p0 + j) = .ok (.iload v, 2) := dq_21 (d_nb h j hj (by omega) ho) (d_nb h (j + 1) hj (by omega) hv)

set_option maxRecDepth 16384 in
set_option maxHeartbeats 4000000 in
theorem dq_25 {c : ByteArray} {pc : Nat} {v : Nat} (h : (Reader.u1 : dRd Nat) c (pc) = .ok (25, pc + 1)) (h1 : (Reader.u1 : dRd Nat) c (pc + 1) = .ok (v, pc + 1 + 1)) : decode c pc = .ok (.aload v, 2) := by
  refine d_dec ?_
  delta Decoder.instr
  refine (d_bind h).trans ?_
  show (do Pure.pure (Instr.aload (← Reader.u1)) : dRd Instr) c (pc + 1) = _
  exact d_bind h1
theorem dn_25 {v : Nat} {c : ByteArray} {p0 m N : Nat} (h : dCh c p0 m N) (j : Nat) (hj : Nat.ble (j + 2) m = true) (ho : byt N j = 25) (hv : byt N (j + 1) = v) : decode c (p0 + j) = .ok (.aload v, 2) := dq_25 (d_nb h j hj (by omega) ho) (d_nb h (j + 1) hj (by omega) hv)

set_option maxRecDepth 16384 in
set_option maxHeartbeats 4000000 in
theorem dq_26 {c : ByteArray} {pc : Nat} (h : (Reader.u1 : dRd Nat) c (pc) = .ok (26, pc + 1)) : decode c pc = .ok (.iload_n 0, 1) := by
  refine d_dec ?_
  delta Decoder.instr
  refine (d_bind h).trans ?_
  rfl
theorem dn_26 {c : ByteArray} {p0 m N : Nat} (h : dCh c p0 m N) (j : Nat) (hj : Nat.ble (j + 1) m = true) (ho : byt N j = 26) : decode c (p0 + j) = .ok (.iload_n 0, 1) := dq_26 (d_nb h j hj (by omega) ho)

set_option maxRecDepth 16384 in
set_option maxHeartbeats 4000000 in
theorem dq_27 {c : ByteArray} {pc : Nat} (h : (Reader.u1 : dRd Nat) c (pc) = .ok (27, pc + 1)) : decode c pc = .ok (.iload_n 1, 1) := by
  refine d_dec ?_
  delta Decoder.instr
  refine (d_bind h).trans ?_
  rfl
theorem dn_27 {c : ByteArray} {p0 m N : Nat} (h : dCh c p0 m N) (j : Nat) (hj : Nat.ble (j + 1) m = true) (ho : byt N j = 27) : decode c (p0 + j) = .ok (.iload_n 1, 1) := dq_27 (d_nb h j hj (by omega) ho)

set_option maxRecDepth 16384 in
set_option maxHeartbeats 4000000 in
theorem dq_28 {c : ByteArray} {pc : Nat} (h : (Reader.u1 : dRd Nat) c (pc) = .ok (28, pc + 1)) : decode c pc = .ok (.iload_n 2, 1) := by
  refine d_dec ?_
  delta Decoder.instr
  refine (d_bind h).trans ?_
  rfl
theorem dn_28 {c : ByteArray} {p0 m N : Nat} (h : dCh c p0 m N) (j : Nat) (hj : Nat.ble (j + 1) m = true) (ho : byt N j = 28) : decode c (p0 + j) = .ok (.iload_n 2, 1) := dq_28 (d_nb h j hj (by omega) ho)

set_option maxRecDepth 16384 in
set_option maxHeartbeats 4000000 in
theorem dq_29 {c : ByteArray} {pc : Nat} (h : (Reader.u1 : dRd Nat) c (pc) = .ok (29, pc + 1)) : decode c pc = .ok (.iload_n 3, 1) := by
  refine d_dec ?_
  delta Decoder.instr
  refine (d_bind h).trans ?_
  rfl
theorem dn_29 {c : ByteArray} {p0 m N : Nat} (h : dCh c p0 m N) (j : Nat) (hj : Nat.ble (j + 1) m = true) (ho : byt N j = 29) : decode c (p0 + j) = .ok (.iload_n 3, 1) := dq_29 (d_nb h j hj (by omega) ho)

set_option maxRecDepth 16384 in
set_option maxHeartbeats 4000000 in
theorem dq_31 {c : ByteArray} {pc : Nat} (h : (Reader.u1 : dRd Nat) c (pc) = .ok (31, pc + 1)) : decode c pc = .ok (.lload_n 1, 1) := by
  refine d_dec ?_
  delta Decoder.instr
  refine (d_bind h).trans ?_
  rfl
theorem dn_31 {c : ByteArray} {p0 m N : Nat} (h : dCh c p0 m N) (j : Nat) (hj : Nat.ble (j + 1) m = true) (ho : byt N j = 31) : decode c (p0 + j) = .ok (.lload_n 1, 1) := dq_31 (d_nb h j hj (by omega) ho)

set_option maxRecDepth 16384 in
set_option maxHeartbeats 4000000 in
theorem dq_32 {c : ByteArray} {pc : Nat} (h : (Reader.u1 : dRd Nat) c (pc) = .ok (32, pc + 1)) : decode c pc = .ok (.lload_n 2, 1) := by
  refine d_dec ?_
  delta Decoder.instr
  refine (d_bind h).trans ?_
  rfl
theorem dn_32 {c : ByteArray} {p0 m N : Nat} (h : dCh c p0 m N) (j : Nat) (hj : Nat.ble (j + 1) m = true) (ho : byt N j = 32) : decode c (p0 + j) = .ok (.lload_n 2, 1) := dq_32 (d_nb h j hj (by omega) ho)

set_option maxRecDepth 16384 in
set_option maxHeartbeats 4000000 in
theorem dq_42 {c : ByteArray} {pc : Nat} (h : (Reader.u1 : dRd Nat) c (pc) = .ok (42, pc + 1)) : decode c pc = .ok (.aload_n 0, 1) := by
  refine d_dec ?_
  delta Decoder.instr
  refine (d_bind h).trans ?_
  rfl
theorem dn_42 {c : ByteArray} {p0 m N : Nat} (h : dCh c p0 m N) (j : Nat) (hj : Nat.ble (j + 1) m = true) (ho : byt N j = 42) : decode c (p0 + j) = .ok (.aload_n 0, 1) := dq_42 (d_nb h j hj (by omega) ho)

set_option maxRecDepth 16384 in
set_option maxHeartbeats 4000000 in
theorem dq_43 {c : ByteArray} {pc : Nat} (h : (Reader.u1 : dRd Nat) c (pc) = .ok (43, pc + 1)) : decode c pc = .ok (.aload_n 1, 1) := by
  refine d_dec ?_
  delta Decoder.instr
  refine (d_bind h).trans ?_
  rfl
theorem dn_43 {c : ByteArray} {p0 m N : Nat} (h : dCh c p0 m N) (j : Nat) (hj : Nat.ble (j + 1) m = true) (ho : byt N j = 43) : decode c (p0 + j) = .ok (.aload_n 1, 1) := dq_43 (d_nb h j hj (by omega) ho)

set_option maxRecDepth 16384 in
set_option maxHeartbeats 4000000 in
theorem dq_44 {c : ByteArray} {pc : Nat} (h : (Reader.u1 : dRd Nat) c (pc) = .ok (44, pc + 1)) : decode c pc = .ok (.aload_n 2, 1) := by
  refine d_dec ?_
  delta Decoder.instr
  refine (d_bind h).trans ?_
  rfl
theorem dn_44 {c : ByteArray} {p0 m N : Nat} (h : dCh c p0 m N) (j : Nat) (hj : Nat.ble (j + 1) m = true) (ho : byt N j = 44) : decode c (p0 + j) = .ok (.aload_n 2, 1) := dq_44 (d_nb h j hj (by omega) ho)

set_option maxRecDepth 16384 in
set_option maxHeartbeats 4000000 in
theorem dq_45 {c : ByteArray} {pc : Nat} (h : (Reader.u1 : dRd Nat) c (pc) = .ok (45, pc + 1)) : decode c pc = .ok (.aload_n 3, 1) := by
  refine d_dec ?_
  delta Decoder.instr
  refine (d_bind h).trans ?_
  rfl
theorem dn_45 {c : ByteArray} {p0 m N : Nat} (h : dCh c p0 m N) (j : Nat) (hj : Nat.ble (j + 1) m = true) (ho : byt N j = 45) : decode c (p0 + j) = .ok (.aload_n 3, 1) := dq_45 (d_nb h j hj (by omega) ho)

set_option maxRecDepth 16384 in
set_option maxHeartbeats 4000000 in
theorem dq_46 {c : ByteArray} {pc : Nat} (h : (Reader.u1 : dRd Nat) c (pc) = .ok (46, pc + 1)) : decode c pc = .ok (.iaload, 1) := by
  refine d_dec ?_
  delta Decoder.instr
  refine (d_bind h).trans ?_
  rfl
theorem dn_46 {c : ByteArray} {p0 m N : Nat} (h : dCh c p0 m N) (j : Nat) (hj : Nat.ble (j + 1) m = true) (ho : byt N j = 46) : decode c (p0 + j) = .ok (.iaload, 1) := dq_46 (d_nb h j hj (by omega) ho)

set_option maxRecDepth 16384 in
set_option maxHeartbeats 4000000 in
theorem dq_54 {c : ByteArray} {pc : Nat} {v : Nat} (h : (Reader.u1 : dRd Nat) c (pc) = .ok (54, pc + 1)) (h1 : (Reader.u1 : dRd Nat) c (pc + 1) = .ok (v, pc + 1 + 1)) : decode c pc = .ok (.istore v, 2) := by
  refine d_dec ?_
  delta Decoder.instr
  refine (d_bind h).trans ?_
  show (do Pure.pure (Instr.istore (← Reader.u1)) : dRd Instr) c (pc + 1) = _
  exact d_bind h1
theorem dn_54 {v : Nat} {c : ByteArray} {p0 m N : Nat} (h : dCh c p0 m N) (j : Nat) (hj : Nat.ble (j + 2) m = true) (ho : byt N j = 54) (hv : byt N (j + 1) = v) : decode c (p0 + j) = .ok (.istore v, 2) := dq_54 (d_nb h j hj (by omega) ho) (d_nb h (j + 1) hj (by omega) hv)

set_option maxRecDepth 16384 in
set_option maxHeartbeats 4000000 in
theorem dq_58 {c : ByteArray} {pc : Nat} {v : Nat} (h : (Reader.u1 : dRd Nat) c (pc) = .ok (58, pc + 1)) (h1 : (Reader.u1 : dRd Nat) c (pc + 1) = .ok (v, pc + 1 + 1)) : decode c pc = .ok (.astore v, 2) := by
  refine d_dec ?_
  delta Decoder.instr
  refine (d_bind h).trans ?_
  show (do Pure.pure (Instr.astore (← Reader.u1)) : dRd Instr) c (pc + 1) = _
  exact d_bind h1
theorem dn_58 {v : Nat} {c : ByteArray} {p0 m N : Nat} (h : dCh c p0 m N) (j : Nat) (hj : Nat.ble (j + 2) m = true) (ho : byt N j = 58) (hv : byt N (j + 1) = v) : decode c (p0 + j) = .ok (.astore v, 2) := dq_58 (d_nb h j hj (by omega) ho) (d_nb h (j + 1) hj (by omega) hv)

set_option maxRecDepth 16384 in
set_option maxHeartbeats 4000000 in
theorem dq_59 {c : ByteArray} {pc : Nat} (h : (Reader.u1 : dRd Nat) c (pc) = .ok (59, pc + 1)) : decode c pc = .ok (.istore_n 0, 1) := by
  refine d_dec ?_
  delta Decoder.instr
  refine (d_bind h).trans ?_
  rfl
theorem dn_59 {c : ByteArray} {p0 m N : Nat} (h : dCh c p0 m N) (j : Nat) (hj : Nat.ble (j + 1) m = true) (ho : byt N j = 59) : decode c (p0 + j) = .ok (.istore_n 0, 1) := dq_59 (d_nb h j hj (by omega) ho)

set_option maxRecDepth 16384 in
set_option maxHeartbeats 4000000 in
theorem dq_60 {c : ByteArray} {pc : Nat} (h : (Reader.u1 : dRd Nat) c (pc) = .ok (60, pc + 1)) : decode c pc = .ok (.istore_n 1, 1) := by
  refine d_dec ?_
  delta Decoder.instr
  refine (d_bind h).trans ?_
  rfl
theorem dn_60 {c : ByteArray} {p0 m N : Nat} (h : dCh c p0 m N) (j : Nat) (hj : Nat.ble (j + 1) m = true) (ho : byt N j = 60) : decode c (p0 + j) = .ok (.istore_n 1, 1) := dq_60 (d_nb h j hj (by omega) ho)

set_option maxRecDepth 16384 in
set_option maxHeartbeats 4000000 in
theorem dq_61 {c : ByteArray} {pc : Nat} (h : (Reader.u1 : dRd Nat) c (pc) = .ok (61, pc + 1)) : decode c pc = .ok (.istore_n 2, 1) := by
  refine d_dec ?_
  delta Decoder.instr
  refine (d_bind h).trans ?_
  rfl
theorem dn_61 {c : ByteArray} {p0 m N : Nat} (h : dCh c p0 m N) (j : Nat) (hj : Nat.ble (j + 1) m = true) (ho : byt N j = 61) : decode c (p0 + j) = .ok (.istore_n 2, 1) := dq_61 (d_nb h j hj (by omega) ho)

set_option maxRecDepth 16384 in
set_option maxHeartbeats 4000000 in
theorem dq_62 {c : ByteArray} {pc : Nat} (h : (Reader.u1 : dRd Nat) c (pc) = .ok (62, pc + 1)) : decode c pc = .ok (.istore_n 3, 1) := by
  refine d_dec ?_
  delta Decoder.instr
  refine (d_bind h).trans ?_
  rfl
theorem dn_62 {c : ByteArray} {p0 m N : Nat} (h : dCh c p0 m N) (j : Nat) (hj : Nat.ble (j + 1) m = true) (ho : byt N j = 62) : decode c (p0 + j) = .ok (.istore_n 3, 1) := dq_62 (d_nb h j hj (by omega) ho)

set_option maxRecDepth 16384 in
set_option maxHeartbeats 4000000 in
theorem dq_65 {c : ByteArray} {pc : Nat} (h : (Reader.u1 : dRd Nat) c (pc) = .ok (65, pc + 1)) : decode c pc = .ok (.lstore_n 2, 1) := by
  refine d_dec ?_
  delta Decoder.instr
  refine (d_bind h).trans ?_
  rfl
theorem dn_65 {c : ByteArray} {p0 m N : Nat} (h : dCh c p0 m N) (j : Nat) (hj : Nat.ble (j + 1) m = true) (ho : byt N j = 65) : decode c (p0 + j) = .ok (.lstore_n 2, 1) := dq_65 (d_nb h j hj (by omega) ho)

set_option maxRecDepth 16384 in
set_option maxHeartbeats 4000000 in
theorem dq_76 {c : ByteArray} {pc : Nat} (h : (Reader.u1 : dRd Nat) c (pc) = .ok (76, pc + 1)) : decode c pc = .ok (.astore_n 1, 1) := by
  refine d_dec ?_
  delta Decoder.instr
  refine (d_bind h).trans ?_
  rfl
theorem dn_76 {c : ByteArray} {p0 m N : Nat} (h : dCh c p0 m N) (j : Nat) (hj : Nat.ble (j + 1) m = true) (ho : byt N j = 76) : decode c (p0 + j) = .ok (.astore_n 1, 1) := dq_76 (d_nb h j hj (by omega) ho)

set_option maxRecDepth 16384 in
set_option maxHeartbeats 4000000 in
theorem dq_77 {c : ByteArray} {pc : Nat} (h : (Reader.u1 : dRd Nat) c (pc) = .ok (77, pc + 1)) : decode c pc = .ok (.astore_n 2, 1) := by
  refine d_dec ?_
  delta Decoder.instr
  refine (d_bind h).trans ?_
  rfl
theorem dn_77 {c : ByteArray} {p0 m N : Nat} (h : dCh c p0 m N) (j : Nat) (hj : Nat.ble (j + 1) m = true) (ho : byt N j = 77) : decode c (p0 + j) = .ok (.astore_n 2, 1) := dq_77 (d_nb h j hj (by omega) ho)

set_option maxRecDepth 16384 in
set_option maxHeartbeats 4000000 in
theorem dq_78 {c : ByteArray} {pc : Nat} (h : (Reader.u1 : dRd Nat) c (pc) = .ok (78, pc + 1)) : decode c pc = .ok (.astore_n 3, 1) := by
  refine d_dec ?_
  delta Decoder.instr
  refine (d_bind h).trans ?_
  rfl
theorem dn_78 {c : ByteArray} {p0 m N : Nat} (h : dCh c p0 m N) (j : Nat) (hj : Nat.ble (j + 1) m = true) (ho : byt N j = 78) : decode c (p0 + j) = .ok (.astore_n 3, 1) := dq_78 (d_nb h j hj (by omega) ho)

set_option maxRecDepth 16384 in
set_option maxHeartbeats 4000000 in
theorem dq_79 {c : ByteArray} {pc : Nat} (h : (Reader.u1 : dRd Nat) c (pc) = .ok (79, pc + 1)) : decode c pc = .ok (.iastore, 1) := by
  refine d_dec ?_
  delta Decoder.instr
  refine (d_bind h).trans ?_
  rfl
theorem dn_79 {c : ByteArray} {p0 m N : Nat} (h : dCh c p0 m N) (j : Nat) (hj : Nat.ble (j + 1) m = true) (ho : byt N j = 79) : decode c (p0 + j) = .ok (.iastore, 1) := dq_79 (d_nb h j hj (by omega) ho)

set_option maxRecDepth 16384 in
set_option maxHeartbeats 4000000 in
theorem dq_87 {c : ByteArray} {pc : Nat} (h : (Reader.u1 : dRd Nat) c (pc) = .ok (87, pc + 1)) : decode c pc = .ok (.pop, 1) := by
  refine d_dec ?_
  delta Decoder.instr
  refine (d_bind h).trans ?_
  rfl
theorem dn_87 {c : ByteArray} {p0 m N : Nat} (h : dCh c p0 m N) (j : Nat) (hj : Nat.ble (j + 1) m = true) (ho : byt N j = 87) : decode c (p0 + j) = .ok (.pop, 1) := dq_87 (d_nb h j hj (by omega) ho)

set_option maxRecDepth 16384 in
set_option maxHeartbeats 4000000 in
theorem dq_89 {c : ByteArray} {pc : Nat} (h : (Reader.u1 : dRd Nat) c (pc) = .ok (89, pc + 1)) : decode c pc = .ok (.dup, 1) := by
  refine d_dec ?_
  delta Decoder.instr
  refine (d_bind h).trans ?_
  rfl
theorem dn_89 {c : ByteArray} {p0 m N : Nat} (h : dCh c p0 m N) (j : Nat) (hj : Nat.ble (j + 1) m = true) (ho : byt N j = 89) : decode c (p0 + j) = .ok (.dup, 1) := dq_89 (d_nb h j hj (by omega) ho)

set_option maxRecDepth 16384 in
set_option maxHeartbeats 4000000 in
theorem dq_92 {c : ByteArray} {pc : Nat} (h : (Reader.u1 : dRd Nat) c (pc) = .ok (92, pc + 1)) : decode c pc = .ok (.dup2, 1) := by
  refine d_dec ?_
  delta Decoder.instr
  refine (d_bind h).trans ?_
  rfl
theorem dn_92 {c : ByteArray} {p0 m N : Nat} (h : dCh c p0 m N) (j : Nat) (hj : Nat.ble (j + 1) m = true) (ho : byt N j = 92) : decode c (p0 + j) = .ok (.dup2, 1) := dq_92 (d_nb h j hj (by omega) ho)

set_option maxRecDepth 16384 in
set_option maxHeartbeats 4000000 in
theorem dq_96 {c : ByteArray} {pc : Nat} (h : (Reader.u1 : dRd Nat) c (pc) = .ok (96, pc + 1)) : decode c pc = .ok (.iadd, 1) := by
  refine d_dec ?_
  delta Decoder.instr
  refine (d_bind h).trans ?_
  rfl
theorem dn_96 {c : ByteArray} {p0 m N : Nat} (h : dCh c p0 m N) (j : Nat) (hj : Nat.ble (j + 1) m = true) (ho : byt N j = 96) : decode c (p0 + j) = .ok (.iadd, 1) := dq_96 (d_nb h j hj (by omega) ho)

set_option maxRecDepth 16384 in
set_option maxHeartbeats 4000000 in
theorem dq_97 {c : ByteArray} {pc : Nat} (h : (Reader.u1 : dRd Nat) c (pc) = .ok (97, pc + 1)) : decode c pc = .ok (.ladd, 1) := by
  refine d_dec ?_
  delta Decoder.instr
  refine (d_bind h).trans ?_
  rfl
theorem dn_97 {c : ByteArray} {p0 m N : Nat} (h : dCh c p0 m N) (j : Nat) (hj : Nat.ble (j + 1) m = true) (ho : byt N j = 97) : decode c (p0 + j) = .ok (.ladd, 1) := dq_97 (d_nb h j hj (by omega) ho)

set_option maxRecDepth 16384 in
set_option maxHeartbeats 4000000 in
theorem dq_100 {c : ByteArray} {pc : Nat} (h : (Reader.u1 : dRd Nat) c (pc) = .ok (100, pc + 1)) : decode c pc = .ok (.isub, 1) := by
  refine d_dec ?_
  delta Decoder.instr
  refine (d_bind h).trans ?_
  rfl
theorem dn_100 {c : ByteArray} {p0 m N : Nat} (h : dCh c p0 m N) (j : Nat) (hj : Nat.ble (j + 1) m = true) (ho : byt N j = 100) : decode c (p0 + j) = .ok (.isub, 1) := dq_100 (d_nb h j hj (by omega) ho)

set_option maxRecDepth 16384 in
set_option maxHeartbeats 4000000 in
theorem dq_101 {c : ByteArray} {pc : Nat} (h : (Reader.u1 : dRd Nat) c (pc) = .ok (101, pc + 1)) : decode c pc = .ok (.lsub, 1) := by
  refine d_dec ?_
  delta Decoder.instr
  refine (d_bind h).trans ?_
  rfl
theorem dn_101 {c : ByteArray} {p0 m N : Nat} (h : dCh c p0 m N) (j : Nat) (hj : Nat.ble (j + 1) m = true) (ho : byt N j = 101) : decode c (p0 + j) = .ok (.lsub, 1) := dq_101 (d_nb h j hj (by omega) ho)

set_option maxRecDepth 16384 in
set_option maxHeartbeats 4000000 in
theorem dq_104 {c : ByteArray} {pc : Nat} (h : (Reader.u1 : dRd Nat) c (pc) = .ok (104, pc + 1)) : decode c pc = .ok (.imul, 1) := by
  refine d_dec ?_
  delta Decoder.instr
  refine (d_bind h).trans ?_
  rfl
theorem dn_104 {c : ByteArray} {p0 m N : Nat} (h : dCh c p0 m N) (j : Nat) (hj : Nat.ble (j + 1) m = true) (ho : byt N j = 104) : decode c (p0 + j) = .ok (.imul, 1) := dq_104 (d_nb h j hj (by omega) ho)

set_option maxRecDepth 16384 in
set_option maxHeartbeats 4000000 in
theorem dq_108 {c : ByteArray} {pc : Nat} (h : (Reader.u1 : dRd Nat) c (pc) = .ok (108, pc + 1)) : decode c pc = .ok (.idiv, 1) := by
  refine d_dec ?_
  delta Decoder.instr
  refine (d_bind h).trans ?_
  rfl
theorem dn_108 {c : ByteArray} {p0 m N : Nat} (h : dCh c p0 m N) (j : Nat) (hj : Nat.ble (j + 1) m = true) (ho : byt N j = 108) : decode c (p0 + j) = .ok (.idiv, 1) := dq_108 (d_nb h j hj (by omega) ho)

set_option maxRecDepth 16384 in
set_option maxHeartbeats 4000000 in
theorem dq_112 {c : ByteArray} {pc : Nat} (h : (Reader.u1 : dRd Nat) c (pc) = .ok (112, pc + 1)) : decode c pc = .ok (.irem, 1) := by
  refine d_dec ?_
  delta Decoder.instr
  refine (d_bind h).trans ?_
  rfl
theorem dn_112 {c : ByteArray} {p0 m N : Nat} (h : dCh c p0 m N) (j : Nat) (hj : Nat.ble (j + 1) m = true) (ho : byt N j = 112) : decode c (p0 + j) = .ok (.irem, 1) := dq_112 (d_nb h j hj (by omega) ho)

set_option maxRecDepth 16384 in
set_option maxHeartbeats 4000000 in
theorem dq_116 {c : ByteArray} {pc : Nat} (h : (Reader.u1 : dRd Nat) c (pc) = .ok (116, pc + 1)) : decode c pc = .ok (.ineg, 1) := by
  refine d_dec ?_
  delta Decoder.instr
  refine (d_bind h).trans ?_
  rfl
theorem dn_116 {c : ByteArray} {p0 m N : Nat} (h : dCh c p0 m N) (j : Nat) (hj : Nat.ble (j + 1) m = true) (ho : byt N j = 116) : decode c (p0 + j) = .ok (.ineg, 1) := dq_116 (d_nb h j hj (by omega) ho)

set_option maxRecDepth 16384 in
set_option maxHeartbeats 4000000 in
theorem dq_120 {c : ByteArray} {pc : Nat} (h : (Reader.u1 : dRd Nat) c (pc) = .ok (120, pc + 1)) : decode c pc = .ok (.ishl, 1) := by
  refine d_dec ?_
  delta Decoder.instr
  refine (d_bind h).trans ?_
  rfl
theorem dn_120 {c : ByteArray} {p0 m N : Nat} (h : dCh c p0 m N) (j : Nat) (hj : Nat.ble (j + 1) m = true) (ho : byt N j = 120) : decode c (p0 + j) = .ok (.ishl, 1) := dq_120 (d_nb h j hj (by omega) ho)

set_option maxRecDepth 16384 in
set_option maxHeartbeats 4000000 in
theorem dq_121 {c : ByteArray} {pc : Nat} (h : (Reader.u1 : dRd Nat) c (pc) = .ok (121, pc + 1)) : decode c pc = .ok (.lshl, 1) := by
  refine d_dec ?_
  delta Decoder.instr
  refine (d_bind h).trans ?_
  rfl
theorem dn_121 {c : ByteArray} {p0 m N : Nat} (h : dCh c p0 m N) (j : Nat) (hj : Nat.ble (j + 1) m = true) (ho : byt N j = 121) : decode c (p0 + j) = .ok (.lshl, 1) := dq_121 (d_nb h j hj (by omega) ho)

set_option maxRecDepth 16384 in
set_option maxHeartbeats 4000000 in
theorem dq_122 {c : ByteArray} {pc : Nat} (h : (Reader.u1 : dRd Nat) c (pc) = .ok (122, pc + 1)) : decode c pc = .ok (.ishr, 1) := by
  refine d_dec ?_
  delta Decoder.instr
  refine (d_bind h).trans ?_
  rfl
theorem dn_122 {c : ByteArray} {p0 m N : Nat} (h : dCh c p0 m N) (j : Nat) (hj : Nat.ble (j + 1) m = true) (ho : byt N j = 122) : decode c (p0 + j) = .ok (.ishr, 1) := dq_122 (d_nb h j hj (by omega) ho)

set_option maxRecDepth 16384 in
set_option maxHeartbeats 4000000 in
theorem dq_123 {c : ByteArray} {pc : Nat} (h : (Reader.u1 : dRd Nat) c (pc) = .ok (123, pc + 1)) : decode c pc = .ok (.lshr, 1) := by
  refine d_dec ?_
  delta Decoder.instr
  refine (d_bind h).trans ?_
  rfl
theorem dn_123 {c : ByteArray} {p0 m N : Nat} (h : dCh c p0 m N) (j : Nat) (hj : Nat.ble (j + 1) m = true) (ho : byt N j = 123) : decode c (p0 + j) = .ok (.lshr, 1) := dq_123 (d_nb h j hj (by omega) ho)

set_option maxRecDepth 16384 in
set_option maxHeartbeats 4000000 in
theorem dq_124 {c : ByteArray} {pc : Nat} (h : (Reader.u1 : dRd Nat) c (pc) = .ok (124, pc + 1)) : decode c pc = .ok (.iushr, 1) := by
  refine d_dec ?_
  delta Decoder.instr
  refine (d_bind h).trans ?_
  rfl
theorem dn_124 {c : ByteArray} {p0 m N : Nat} (h : dCh c p0 m N) (j : Nat) (hj : Nat.ble (j + 1) m = true) (ho : byt N j = 124) : decode c (p0 + j) = .ok (.iushr, 1) := dq_124 (d_nb h j hj (by omega) ho)

set_option maxRecDepth 16384 in
set_option maxHeartbeats 4000000 in
theorem dq_125 {c : ByteArray} {pc : Nat} (h : (Reader.u1 : dRd Nat) c (pc) = .ok (125, pc + 1)) : decode c pc = .ok (.lushr, 1) := by
  refine d_dec ?_
  delta Decoder.instr
  refine (d_bind h).trans ?_
  rfl
theorem dn_125 {c : ByteArray} {p0 m N : Nat} (h : dCh c p0 m N) (j : Nat) (hj : Nat.ble (j + 1) m = true) (ho : byt N j = 125) : decode c (p0 + j) = .ok (.lushr, 1) := dq_125 (d_nb h j hj (by omega) ho)

set_option maxRecDepth 16384 in
set_option maxHeartbeats 4000000 in
theorem dq_126 {c : ByteArray} {pc : Nat} (h : (Reader.u1 : dRd Nat) c (pc) = .ok (126, pc + 1)) : decode c pc = .ok (.iand, 1) := by
  refine d_dec ?_
  delta Decoder.instr
  refine (d_bind h).trans ?_
  rfl
theorem dn_126 {c : ByteArray} {p0 m N : Nat} (h : dCh c p0 m N) (j : Nat) (hj : Nat.ble (j + 1) m = true) (ho : byt N j = 126) : decode c (p0 + j) = .ok (.iand, 1) := dq_126 (d_nb h j hj (by omega) ho)

set_option maxRecDepth 16384 in
set_option maxHeartbeats 4000000 in
theorem dq_127 {c : ByteArray} {pc : Nat} (h : (Reader.u1 : dRd Nat) c (pc) = .ok (127, pc + 1)) : decode c pc = .ok (.land, 1) := by
  refine d_dec ?_
  delta Decoder.instr
  refine (d_bind h).trans ?_
  rfl
theorem dn_127 {c : ByteArray} {p0 m N : Nat} (h : dCh c p0 m N) (j : Nat) (hj : Nat.ble (j + 1) m = true) (ho : byt N j = 127) : decode c (p0 + j) = .ok (.land, 1) := dq_127 (d_nb h j hj (by omega) ho)

set_option maxRecDepth 16384 in
set_option maxHeartbeats 4000000 in
theorem dq_128 {c : ByteArray} {pc : Nat} (h : (Reader.u1 : dRd Nat) c (pc) = .ok (128, pc + 1)) : decode c pc = .ok (.ior, 1) := by
  refine d_dec ?_
  delta Decoder.instr
  refine (d_bind h).trans ?_
  rfl
theorem dn_128 {c : ByteArray} {p0 m N : Nat} (h : dCh c p0 m N) (j : Nat) (hj : Nat.ble (j + 1) m = true) (ho : byt N j = 128) : decode c (p0 + j) = .ok (.ior, 1) := dq_128 (d_nb h j hj (by omega) ho)

set_option maxRecDepth 16384 in
set_option maxHeartbeats 4000000 in
theorem dq_129 {c : ByteArray} {pc : Nat} (h : (Reader.u1 : dRd Nat) c (pc) = .ok (129, pc + 1)) : decode c pc = .ok (.lor, 1) := by
  refine d_dec ?_
  delta Decoder.instr
  refine (d_bind h).trans ?_
  rfl
theorem dn_129 {c : ByteArray} {p0 m N : Nat} (h : dCh c p0 m N) (j : Nat) (hj : Nat.ble (j + 1) m = true) (ho : byt N j = 129) : decode c (p0 + j) = .ok (.lor, 1) := dq_129 (d_nb h j hj (by omega) ho)

set_option maxRecDepth 16384 in
set_option maxHeartbeats 4000000 in
theorem dq_130 {c : ByteArray} {pc : Nat} (h : (Reader.u1 : dRd Nat) c (pc) = .ok (130, pc + 1)) : decode c pc = .ok (.ixor, 1) := by
  refine d_dec ?_
  delta Decoder.instr
  refine (d_bind h).trans ?_
  rfl
theorem dn_130 {c : ByteArray} {p0 m N : Nat} (h : dCh c p0 m N) (j : Nat) (hj : Nat.ble (j + 1) m = true) (ho : byt N j = 130) : decode c (p0 + j) = .ok (.ixor, 1) := dq_130 (d_nb h j hj (by omega) ho)

set_option maxRecDepth 16384 in
set_option maxHeartbeats 4000000 in
theorem dq_132 {c : ByteArray} {pc : Nat} {v a : Nat} {z : Int} (h : (Reader.u1 : dRd Nat) c (pc) = .ok (132, pc + 1)) (h1 : (Reader.u1 : dRd Nat) c (pc + 1) = .ok (v, pc + 1 + 1)) (h2 : (Reader.u1 : dRd Nat) c (pc + 1 + 1) = .ok (a, pc + 1 + 1 + 1)) (hv : Reader.signed 8 a = z) : decode c pc = .ok (.iinc v z, 3) := by
  subst hv
  refine d_dec ?_
  delta Decoder.instr
  refine (d_bind h).trans ?_
  show (do Pure.pure (Instr.iinc (← Reader.u1) (← Reader.s1)) : dRd Instr) c (pc + 1) = _
  refine (d_bind h1).trans ?_
  exact d_bind (d_s1 h2)
theorem dn_132 {v : Nat} {z : Int} {c : ByteArray} {p0 m N : Nat} (h : dCh c p0 m N) (j : Nat) (hj : Nat.ble (j + 3) m = true) (ho : byt N j = 132) (h1 : byt N (j + 1) = v) (hv : Reader.signed 8 (byt N (j + 2)) = z) : decode c (p0 + j) = .ok (.iinc v z, 3) := dq_132 (d_nb h j hj (by omega) ho) (d_nb h (j + 1) hj (by omega) h1) (d_nb h (j + 2) hj (by omega) rfl) hv

set_option maxRecDepth 16384 in
set_option maxHeartbeats 4000000 in
theorem dq_133 {c : ByteArray} {pc : Nat} (h : (Reader.u1 : dRd Nat) c (pc) = .ok (133, pc + 1)) : decode c pc = .ok (.i2l, 1) := by
  refine d_dec ?_
  delta Decoder.instr
  refine (d_bind h).trans ?_
  rfl
theorem dn_133 {c : ByteArray} {p0 m N : Nat} (h : dCh c p0 m N) (j : Nat) (hj : Nat.ble (j + 1) m = true) (ho : byt N j = 133) : decode c (p0 + j) = .ok (.i2l, 1) := dq_133 (d_nb h j hj (by omega) ho)

set_option maxRecDepth 16384 in
set_option maxHeartbeats 4000000 in
theorem dq_136 {c : ByteArray} {pc : Nat} (h : (Reader.u1 : dRd Nat) c (pc) = .ok (136, pc + 1)) : decode c pc = .ok (.l2i, 1) := by
  refine d_dec ?_
  delta Decoder.instr
  refine (d_bind h).trans ?_
  rfl
theorem dn_136 {c : ByteArray} {p0 m N : Nat} (h : dCh c p0 m N) (j : Nat) (hj : Nat.ble (j + 1) m = true) (ho : byt N j = 136) : decode c (p0 + j) = .ok (.l2i, 1) := dq_136 (d_nb h j hj (by omega) ho)

set_option maxRecDepth 16384 in
set_option maxHeartbeats 4000000 in
theorem dq_145 {c : ByteArray} {pc : Nat} (h : (Reader.u1 : dRd Nat) c (pc) = .ok (145, pc + 1)) : decode c pc = .ok (.i2b, 1) := by
  refine d_dec ?_
  delta Decoder.instr
  refine (d_bind h).trans ?_
  rfl
theorem dn_145 {c : ByteArray} {p0 m N : Nat} (h : dCh c p0 m N) (j : Nat) (hj : Nat.ble (j + 1) m = true) (ho : byt N j = 145) : decode c (p0 + j) = .ok (.i2b, 1) := dq_145 (d_nb h j hj (by omega) ho)

set_option maxRecDepth 16384 in
set_option maxHeartbeats 4000000 in
theorem dq_146 {c : ByteArray} {pc : Nat} (h : (Reader.u1 : dRd Nat) c (pc) = .ok (146, pc + 1)) : decode c pc = .ok (.i2c, 1) := by
  refine d_dec ?_
  delta Decoder.instr
  refine (d_bind h).trans ?_
  rfl
theorem dn_146 {c : ByteArray} {p0 m N : Nat} (h : dCh c p0 m N) (j : Nat) (hj : Nat.ble (j + 1) m = true) (ho : byt N j = 146) : decode c (p0 + j) = .ok (.i2c, 1) := dq_146 (d_nb h j hj (by omega) ho)

set_option maxRecDepth 16384 in
set_option maxHeartbeats 4000000 in
theorem dq_147 {c : ByteArray} {pc : Nat} (h : (Reader.u1 : dRd Nat) c (pc) = .ok (147, pc + 1)) : decode c pc = .ok (.i2s, 1) := by
  refine d_dec ?_
  delta Decoder.instr
  refine (d_bind h).trans ?_
  rfl
theorem dn_147 {c : ByteArray} {p0 m N : Nat} (h : dCh c p0 m N) (j : Nat) (hj : Nat.ble (j + 1) m = true) (ho : byt N j = 147) : decode c (p0 + j) = .ok (.i2s, 1) := dq_147 (d_nb h j hj (by omega) ho)

set_option maxRecDepth 16384 in
set_option maxHeartbeats 4000000 in
theorem dq_148 {c : ByteArray} {pc : Nat} (h : (Reader.u1 : dRd Nat) c (pc) = .ok (148, pc + 1)) : decode c pc = .ok (.lcmp, 1) := by
  refine d_dec ?_
  delta Decoder.instr
  refine (d_bind h).trans ?_
  rfl
theorem dn_148 {c : ByteArray} {p0 m N : Nat} (h : dCh c p0 m N) (j : Nat) (hj : Nat.ble (j + 1) m = true) (ho : byt N j = 148) : decode c (p0 + j) = .ok (.lcmp, 1) := dq_148 (d_nb h j hj (by omega) ho)

set_option maxRecDepth 16384 in
set_option maxHeartbeats 4000000 in
theorem dq_153 {c : ByteArray} {pc : Nat} {a b : Nat} {z : Int} (h : (Reader.u1 : dRd Nat) c (pc) = .ok (153, pc + 1)) (h1 : (Reader.u1 : dRd Nat) c (pc + 1) = .ok (a, pc + 1 + 1)) (h2 : (Reader.u1 : dRd Nat) c (pc + 1 + 1) = .ok (b, pc + 1 + 1 + 1)) (hv : Reader.signed 16 (a * 256 + b) = z) : decode c pc = .ok (.ifCond .eq z, 3) := by
  subst hv
  refine d_dec ?_
  delta Decoder.instr
  refine (d_bind h).trans ?_
  show (do Pure.pure (Instr.ifCond .eq (← Reader.s2)) : dRd Instr) c (pc + 1) = _
  exact d_bind (d_s2 h1 h2)
theorem dn_153 {z : Int} {c : ByteArray} {p0 m N : Nat} (h : dCh c p0 m N) (j : Nat) (hj : Nat.ble (j + 3) m = true) (ho : byt N j = 153) (hv : Reader.signed 16 (byt N (j + 1) * 256 + byt N (j + 2)) = z) : decode c (p0 + j) = .ok (.ifCond .eq z, 3) := dq_153 (d_nb h j hj (by omega) ho) (d_nb h (j + 1) hj (by omega) rfl) (d_nb h (j + 2) hj (by omega) rfl) hv

set_option maxRecDepth 16384 in
set_option maxHeartbeats 4000000 in
theorem dq_154 {c : ByteArray} {pc : Nat} {a b : Nat} {z : Int} (h : (Reader.u1 : dRd Nat) c (pc) = .ok (154, pc + 1)) (h1 : (Reader.u1 : dRd Nat) c (pc + 1) = .ok (a, pc + 1 + 1)) (h2 : (Reader.u1 : dRd Nat) c (pc + 1 + 1) = .ok (b, pc + 1 + 1 + 1)) (hv : Reader.signed 16 (a * 256 + b) = z) : decode c pc = .ok (.ifCond .ne z, 3) := by
  subst hv
  refine d_dec ?_
  delta Decoder.instr
  refine (d_bind h).trans ?_
  show (do Pure.pure (Instr.ifCond .ne (← Reader.s2)) : dRd Instr) c (pc + 1) = _
  exact d_bind (d_s2 h1 h2)
theorem dn_154 {z : Int} {c : ByteArray} {p0 m N : Nat} (h : dCh c p0 m N) (j : Nat) (hj : Nat.ble (j + 3) m = true) (ho : byt N j = 154) (hv : Reader.signed 16 (byt N (j + 1) * 256 + byt N (j + 2)) = z) : decode c (p0 + j) = .ok (.ifCond .ne z, 3) := dq_154 (d_nb h j hj (by omega) ho) (d_nb h (j + 1) hj (by omega) rfl) (d_nb h (j + 2) hj (by omega) rfl) hv

set_option maxRecDepth 16384 in
set_option maxHeartbeats 4000000 in
theorem dq_155 {c : ByteArray} {pc : Nat} {a b : Nat} {z : Int} (h : (Reader.u1 : dRd Nat) c (pc) = .ok (155, pc + 1)) (h1 : (Reader.u1 : dRd Nat) c (pc + 1) = .ok (a, pc + 1 + 1)) (h2 : (Reader.u1 : dRd Nat) c (pc + 1 + 1) = .ok (b, pc + 1 + 1 + 1)) (hv : Reader.signed 16 (a * 256 + b) = z) : decode c pc = .ok (.ifCond .lt z, 3) := by
  subst hv
  refine d_dec ?_
  delta Decoder.instr
  refine (d_bind h).trans ?_
  show (do Pure.pure (Instr.ifCond .lt (← Reader.s2)) : dRd Instr) c (pc + 1) = _
  exact d_bind (d_s2 h1 h2)
theorem dn_155 {z : Int} {c : ByteArray} {p0 m N : Nat} (h : dCh c p0 m N) (j : Nat) (hj : Nat.ble (j + 3) m = true) (ho : byt N j = 155) (hv : Reader.signed 16 (byt N (j + 1) * 256 + byt N (j + 2)) = z) : decode c (p0 + j) = .ok (.ifCond .lt z, 3) := dq_155 (d_nb h j hj (by omega) ho) (d_nb h (j + 1) hj (by omega) rfl) (d_nb h (j + 2) hj (by omega) rfl) hv

set_option maxRecDepth 16384 in
set_option maxHeartbeats 4000000 in
theorem dq_156 {c : ByteArray} {pc : Nat} {a b : Nat} {z : Int} (h : (Reader.u1 : dRd Nat) c (pc) = .ok (156, pc + 1)) (h1 : (Reader.u1 : dRd Nat) c (pc + 1) = .ok (a, pc + 1 + 1)) (h2 : (Reader.u1 : dRd Nat) c (pc + 1 + 1) = .ok (b, pc + 1 + 1 + 1)) (hv : Reader.signed 16 (a * 256 + b) = z) : decode c pc = .ok (.ifCond .ge z, 3) := by
  subst hv
  refine d_dec ?_
  delta Decoder.instr
  refine (d_bind h).trans ?_
  show (do Pure.pure (Instr.ifCond .ge (← Reader.s2)) : dRd Instr) c (pc + 1) = _
  exact d_bind (d_s2 h1 h2)
theorem dn_156 {z : Int} {c : ByteArray} {p0 m N : Nat} (h : dCh c p0 m N) (j : Nat) (hj : Nat.ble (j + 3) m = true) (ho : byt N j = 156) (hv : Reader.signed 16 (byt N (j + 1) * 256 + byt N (j + 2)) = z) : decode c (p0 + j) = .ok (.ifCond .ge z, 3) := dq_156 (d_nb h j hj (by omega) ho) (d_nb h (j + 1) hj (by omega) rfl) (d_nb h (j + 2) hj (by omega) rfl) hv

set_option maxRecDepth 16384 in
set_option maxHeartbeats 4000000 in
theorem dq_157 {c : ByteArray} {pc : Nat} {a b : Nat} {z : Int} (h : (Reader.u1 : dRd Nat) c (pc) = .ok (157, pc + 1)) (h1 : (Reader.u1 : dRd Nat) c (pc + 1) = .ok (a, pc + 1 + 1)) (h2 : (Reader.u1 : dRd Nat) c (pc + 1 + 1) = .ok (b, pc + 1 + 1 + 1)) (hv : Reader.signed 16 (a * 256 + b) = z) : decode c pc = .ok (.ifCond .gt z, 3) := by
  subst hv
  refine d_dec ?_
  delta Decoder.instr
  refine (d_bind h).trans ?_
  show (do Pure.pure (Instr.ifCond .gt (← Reader.s2)) : dRd Instr) c (pc + 1) = _
  exact d_bind (d_s2 h1 h2)
theorem dn_157 {z : Int} {c : ByteArray} {p0 m N : Nat} (h : dCh c p0 m N) (j : Nat) (hj : Nat.ble (j + 3) m = true) (ho : byt N j = 157) (hv : Reader.signed 16 (byt N (j + 1) * 256 + byt N (j + 2)) = z) : decode c (p0 + j) = .ok (.ifCond .gt z, 3) := dq_157 (d_nb h j hj (by omega) ho) (d_nb h (j + 1) hj (by omega) rfl) (d_nb h (j + 2) hj (by omega) rfl) hv

set_option maxRecDepth 16384 in
set_option maxHeartbeats 4000000 in
theorem dq_158 {c : ByteArray} {pc : Nat} {a b : Nat} {z : Int} (h : (Reader.u1 : dRd Nat) c (pc) = .ok (158, pc + 1)) (h1 : (Reader.u1 : dRd Nat) c (pc + 1) = .ok (a, pc + 1 + 1)) (h2 : (Reader.u1 : dRd Nat) c (pc + 1 + 1) = .ok (b, pc + 1 + 1 + 1)) (hv : Reader.signed 16 (a * 256 + b) = z) : decode c pc = .ok (.ifCond .le z, 3) := by
  subst hv
  refine d_dec ?_
  delta Decoder.instr
  refine (d_bind h).trans ?_
  show (do Pure.pure (Instr.ifCond .le (← Reader.s2)) : dRd Instr) c (pc + 1) = _
  exact d_bind (d_s2 h1 h2)
theorem dn_158 {z : Int} {c : ByteArray} {p0 m N : Nat} (h : dCh c p0 m N) (j : Nat) (hj : Nat.ble (j + 3) m = true) (ho : byt N j = 158) (hv : Reader.signed 16 (byt N (j + 1) * 256 + byt N (j + 2)) = z) : decode c (p0 + j) = .ok (.ifCond .le z, 3) := dq_158 (d_nb h j hj (by omega) ho) (d_nb h (j + 1) hj (by omega) rfl) (d_nb h (j + 2) hj (by omega) rfl) hv

set_option maxRecDepth 16384 in
set_option maxHeartbeats 4000000 in
theorem dq_159 {c : ByteArray} {pc : Nat} {a b : Nat} {z : Int} (h : (Reader.u1 : dRd Nat) c (pc) = .ok (159, pc + 1)) (h1 : (Reader.u1 : dRd Nat) c (pc + 1) = .ok (a, pc + 1 + 1)) (h2 : (Reader.u1 : dRd Nat) c (pc + 1 + 1) = .ok (b, pc + 1 + 1 + 1)) (hv : Reader.signed 16 (a * 256 + b) = z) : decode c pc = .ok (.if_icmp .eq z, 3) := by
  subst hv
  refine d_dec ?_
  delta Decoder.instr
  refine (d_bind h).trans ?_
  show (do Pure.pure (Instr.if_icmp .eq (← Reader.s2)) : dRd Instr) c (pc + 1) = _
  exact d_bind (d_s2 h1 h2)
theorem dn_159 {z : Int} {c : ByteArray} {p0 m N : Nat} (h : dCh c p0 m N) (j : Nat) (hj : Nat.ble (j + 3) m = true) (ho : byt N j = 159) (hv : Reader.signed 16 (byt N (j + 1) * 256 + byt N (j + 2)) = z) : decode c (p0 + j) = .ok (.if_icmp .eq z, 3) := dq_159 (d_nb h j hj (by omega) ho) (d_nb h (j + 1) hj (by omega) rfl) (d_nb h (j + 2) hj (by omega) rfl) hv

set_option maxRecDepth 16384 in
set_option maxHeartbeats 4000000 in
theorem dq_160 {c : ByteArray} {pc : Nat} {a b : Nat} {z : Int} (h : (Reader.u1 : dRd Nat) c (pc) = .ok (160, pc + 1)) (h1 : (Reader.u1 : dRd Nat) c (pc + 1) = .ok (a, pc + 1 + 1)) (h2 : (Reader.u1 : dRd Nat) c (pc + 1 + 1) = .ok (b, pc + 1 + 1 + 1)) (hv : Reader.signed 16 (a * 256 + b) = z) : decode c pc = .ok (.if_icmp .ne z, 3) := by
  subst hv
  refine d_dec ?_
  delta Decoder.instr
  refine (d_bind h).trans ?_
  show (do Pure.pure (Instr.if_icmp .ne (← Reader.s2)) : dRd Instr) c (pc + 1) = _
  exact d_bind (d_s2 h1 h2)
theorem dn_160 {z : Int} {c : ByteArray} {p0 m N : Nat} (h : dCh c p0 m N) (j : Nat) (hj : Nat.ble (j + 3) m = true) (ho : byt N j = 160) (hv : Reader.signed 16 (byt N (j + 1) * 256 + byt N (j + 2)) = z) : decode c (p0 + j) = .ok (.if_icmp .ne z, 3) := dq_160 (d_nb h j hj (by omega) ho) (d_nb h (j + 1) hj (by omega) rfl) (d_nb h (j + 2) hj (by omega) rfl) hv

set_option maxRecDepth 16384 in
set_option maxHeartbeats 4000000 in
theorem dq_161 {c : ByteArray} {pc : Nat} {a b : Nat} {z : Int} (h : (Reader.u1 : dRd Nat) c (pc) = .ok (161, pc + 1)) (h1 : (Reader.u1 : dRd Nat) c (pc + 1) = .ok (a, pc + 1 + 1)) (h2 : (Reader.u1 : dRd Nat) c (pc + 1 + 1) = .ok (b, pc + 1 + 1 + 1)) (hv : Reader.signed 16 (a * 256 + b) = z) : decode c pc = .ok (.if_icmp .lt z, 3) := by
  subst hv
  refine d_dec ?_
  delta Decoder.instr
  refine (d_bind h).trans ?_
  show (do Pure.pure (Instr.if_icmp .lt (← Reader.s2)) : dRd Instr) c (pc + 1) = _
  exact d_bind (d_s2 h1 h2)
theorem dn_161 {z : Int} {c : ByteArray} {p0 m N : Nat} (h : dCh c p0 m N) (j : Nat) (hj : Nat.ble (j + 3) m = true) (ho : byt N j = 161) (hv : Reader.signed 16 (byt N (j + 1) * 256 + byt N (j + 2)) = z) : decode c (p0 + j) = .ok (.if_icmp .lt z, 3) := dq_161 (d_nb h j hj (by omega) ho) (d_nb h (j + 1) hj (by omega) rfl) (d_nb h (j + 2) hj (by omega) rfl) hv

set_option maxRecDepth 16384 in
set_option maxHeartbeats 4000000 in
theorem dq_162 {c : ByteArray} {pc : Nat} {a b : Nat} {z : Int} (h : (Reader.u1 : dRd Nat) c (pc) = .ok (162, pc + 1)) (h1 : (Reader.u1 : dRd Nat) c (pc + 1) = .ok (a, pc + 1 + 1)) (h2 : (Reader.u1 : dRd Nat) c (pc + 1 + 1) = .ok (b, pc + 1 + 1 + 1)) (hv : Reader.signed 16 (a * 256 + b) = z) : decode c pc = .ok (.if_icmp .ge z, 3) := by
  subst hv
  refine d_dec ?_
  delta Decoder.instr
  refine (d_bind h).trans ?_
  show (do Pure.pure (Instr.if_icmp .ge (← Reader.s2)) : dRd Instr) c (pc + 1) = _
  exact d_bind (d_s2 h1 h2)
theorem dn_162 {z : Int} {c : ByteArray} {p0 m N : Nat} (h : dCh c p0 m N) (j : Nat) (hj : Nat.ble (j + 3) m = true) (ho : byt N j = 162) (hv : Reader.signed 16 (byt N (j + 1) * 256 + byt N (j + 2)) = z) : decode c (p0 + j) = .ok (.if_icmp .ge z, 3) := dq_162 (d_nb h j hj (by omega) ho) (d_nb h (j + 1) hj (by omega) rfl) (d_nb h (j + 2) hj (by omega) rfl) hv

set_option maxRecDepth 16384 in
set_option maxHeartbeats 4000000 in
theorem dq_163 {c : ByteArray} {pc : Nat} {a b : Nat} {z : Int} (h : (Reader.u1 : dRd Nat) c (pc) = .ok (163, pc + 1)) (h1 : (Reader.u1 : dRd Nat) c (pc + 1) = .ok (a, pc + 1 + 1)) (h2 : (Reader.u1 : dRd Nat) c (pc + 1 + 1) = .ok (b, pc + 1 + 1 + 1)) (hv : Reader.signed 16 (a * 256 + b) = z) : decode c pc = .ok (.if_icmp .gt z, 3) := by
  subst hv
  refine d_dec ?_
  delta Decoder.instr
  refine (d_bind h).trans ?_
  show (do Pure.pure (Instr.if_icmp .gt (← Reader.s2)) : dRd Instr) c (pc + 1) = _
  exact d_bind (d_s2 h1 h2)
theorem dn_163 {z : Int} {c : ByteArray} {p0 m N : Nat} (h : dCh c p0 m N) (j : Nat) (hj : Nat.ble (j + 3) m = true) (ho : byt N j = 163) (hv : Reader.signed 16 (byt N (j + 1) * 256 + byt N (j + 2)) = z) : decode c (p0 + j) = .ok (.if_icmp .gt z, 3) := dq_163 (d_nb h j hj (by omega) ho) (d_nb h (j + 1) hj (by omega) rfl) (d_nb h (j + 2) hj (by omega) rfl) hv

set_option maxRecDepth 16384 in
set_option maxHeartbeats 4000000 in
theorem dq_164 {c : ByteArray} {pc : Nat} {a b : Nat} {z : Int} (h : (Reader.u1 : dRd Nat) c (pc) = .ok (164, pc + 1)) (h1 : (Reader.u1 : dRd Nat) c (pc + 1) = .ok (a, pc + 1 + 1)) (h2 : (Reader.u1 : dRd Nat) c (pc + 1 + 1) = .ok (b, pc + 1 + 1 + 1)) (hv : Reader.signed 16 (a * 256 + b) = z) : decode c pc = .ok (.if_icmp .le z, 3) := by
  subst hv
  refine d_dec ?_
  delta Decoder.instr
  refine (d_bind h).trans ?_
  show (do Pure.pure (Instr.if_icmp .le (← Reader.s2)) : dRd Instr) c (pc + 1) = _
  exact d_bind (d_s2 h1 h2)
theorem dn_164 {z : Int} {c : ByteArray} {p0 m N : Nat} (h : dCh c p0 m N) (j : Nat) (hj : Nat.ble (j + 3) m = true) (ho : byt N j = 164) (hv : Reader.signed 16 (byt N (j + 1) * 256 + byt N (j + 2)) = z) : decode c (p0 + j) = .ok (.if_icmp .le z, 3) := dq_164 (d_nb h j hj (by omega) ho) (d_nb h (j + 1) hj (by omega) rfl) (d_nb h (j + 2) hj (by omega) rfl) hv

set_option maxRecDepth 16384 in
set_option maxHeartbeats 4000000 in
theorem dq_167 {c : ByteArray} {pc : Nat} {a b : Nat} {z : Int} (h : (Reader.u1 : dRd Nat) c (pc) = .ok (167, pc + 1)) (h1 : (Reader.u1 : dRd Nat) c (pc + 1) = .ok (a, pc + 1 + 1)) (h2 : (Reader.u1 : dRd Nat) c (pc + 1 + 1) = .ok (b, pc + 1 + 1 + 1)) (hv : Reader.signed 16 (a * 256 + b) = z) : decode c pc = .ok (.goto z, 3) := by
  subst hv
  refine d_dec ?_
  delta Decoder.instr
  refine (d_bind h).trans ?_
  show (do Pure.pure (Instr.goto (← Reader.s2)) : dRd Instr) c (pc + 1) = _
  exact d_bind (d_s2 h1 h2)
theorem dn_167 {z : Int} {c : ByteArray} {p0 m N : Nat} (h : dCh c p0 m N) (j : Nat) (hj : Nat.ble (j + 3) m = true) (ho : byt N j = 167) (hv : Reader.signed 16 (byt N (j + 1) * 256 + byt N (j + 2)) = z) : decode c (p0 + j) = .ok (.goto z, 3) := dq_167 (d_nb h j hj (by omega) ho) (d_nb h (j + 1) hj (by omega) rfl) (d_nb h (j + 2) hj (by omega) rfl) hv

set_option maxRecDepth 16384 in
set_option maxHeartbeats 4000000 in
theorem dq_172 {c : ByteArray} {pc : Nat} (h : (Reader.u1 : dRd Nat) c (pc) = .ok (172, pc + 1)) : decode c pc = .ok (.ireturn, 1) := by
  refine d_dec ?_
  delta Decoder.instr
  refine (d_bind h).trans ?_
  rfl
theorem dn_172 {c : ByteArray} {p0 m N : Nat} (h : dCh c p0 m N) (j : Nat) (hj : Nat.ble (j + 1) m = true) (ho : byt N j = 172) : decode c (p0 + j) = .ok (.ireturn, 1) := dq_172 (d_nb h j hj (by omega) ho)

set_option maxRecDepth 16384 in
set_option maxHeartbeats 4000000 in
theorem dq_177 {c : ByteArray} {pc : Nat} (h : (Reader.u1 : dRd Nat) c (pc) = .ok (177, pc + 1)) : decode c pc = .ok (.return_, 1) := by
  refine d_dec ?_
  delta Decoder.instr
  refine (d_bind h).trans ?_
  rfl
theorem dn_177 {c : ByteArray} {p0 m N : Nat} (h : dCh c p0 m N) (j : Nat) (hj : Nat.ble (j + 1) m = true) (ho : byt N j = 177) : decode c (p0 + j) = .ok (.return_, 1) := dq_177 (d_nb h j hj (by omega) ho)

set_option maxRecDepth 16384 in
set_option maxHeartbeats 4000000 in
theorem dq_178 {c : ByteArray} {pc : Nat} {v a b : Nat} (h : (Reader.u1 : dRd Nat) c (pc) = .ok (178, pc + 1)) (h1 : (Reader.u1 : dRd Nat) c (pc + 1) = .ok (a, pc + 1 + 1)) (h2 : (Reader.u1 : dRd Nat) c (pc + 1 + 1) = .ok (b, pc + 1 + 1 + 1)) (hv : a * 256 + b = v) : decode c pc = .ok (.getstatic v, 3) := by
  subst hv
  refine d_dec ?_
  delta Decoder.instr
  refine (d_bind h).trans ?_
  show (do Pure.pure (Instr.getstatic (← Reader.u2)) : dRd Instr) c (pc + 1) = _
  exact d_bind (d_u2 h1 h2)
theorem dn_178 {v : Nat} {c : ByteArray} {p0 m N : Nat} (h : dCh c p0 m N) (j : Nat) (hj : Nat.ble (j + 3) m = true) (ho : byt N j = 178) (hv : byt N (j + 1) * 256 + byt N (j + 2) = v) : decode c (p0 + j) = .ok (.getstatic v, 3) := dq_178 (d_nb h j hj (by omega) ho) (d_nb h (j + 1) hj (by omega) rfl) (d_nb h (j + 2) hj (by omega) rfl) hv

set_option maxRecDepth 16384 in
set_option maxHeartbeats 4000000 in
theorem dq_180 {c : ByteArray} {pc : Nat} {v a b : Nat} (h : (Reader.u1 : dRd Nat) c (pc) = .ok (180, pc + 1)) (h1 : (Reader.u1 : dRd Nat) c (pc + 1) = .ok (a, pc + 1 + 1)) (h2 : (Reader.u1 : dRd Nat) c (pc + 1 + 1) = .ok (b, pc + 1 + 1 + 1)) (hv : a * 256 + b = v) : decode c pc = .ok (.getfield v, 3) := by
  subst hv
  refine d_dec ?_
  delta Decoder.instr
  refine (d_bind h).trans ?_
  show (do Pure.pure (Instr.getfield (← Reader.u2)) : dRd Instr) c (pc + 1) = _
  exact d_bind (d_u2 h1 h2)
theorem dn_180 {v : Nat} {c : ByteArray} {p0 m N : Nat} (h : dCh c p0 m N) (j : Nat) (hj : Nat.ble (j + 3) m = true) (ho : byt N j = 180) (hv : byt N (j + 1) * 256 + byt N (j + 2) = v) : decode c (p0 + j) = .ok (.getfield v, 3) := dq_180 (d_nb h j hj (by omega) ho) (d_nb h (j + 1) hj (by omega) rfl) (d_nb h (j + 2) hj (by omega) rfl) hv

set_option maxRecDepth 16384 in
set_option maxHeartbeats 4000000 in
theorem dq_181 {c : ByteArray} {pc : Nat} {v a b : Nat} (h : (Reader.u1 : dRd Nat) c (pc) = .ok (181, pc + 1)) (h1 : (Reader.u1 : dRd Nat) c (pc + 1) = .ok (a, pc + 1 + 1)) (h2 : (Reader.u1 : dRd Nat) c (pc + 1 + 1) = .ok (b, pc + 1 + 1 + 1)) (hv : a * 256 + b = v) : decode c pc = .ok (.putfield v, 3) := by
  subst hv
  refine d_dec ?_
  delta Decoder.instr
  refine (d_bind h).trans ?_
  show (do Pure.pure (Instr.putfield (← Reader.u2)) : dRd Instr) c (pc + 1) = _
  exact d_bind (d_u2 h1 h2)
theorem dn_181 {v : Nat} {c : ByteArray} {p0 m N : Nat} (h : dCh c p0 m N) (j : Nat) (hj : Nat.ble (j + 3) m = true) (ho : byt N j = 181) (hv : byt N (j + 1) * 256 + byt N (j + 2) = v) : decode c (p0 + j) = .ok (.putfield v, 3) := dq_181 (d_nb h j hj (by omega) ho) (d_nb h (j + 1) hj (by omega) rfl) (d_nb h (j + 2) hj (by omega) rfl) hv

set_option maxRecDepth 16384 in
set_option maxHeartbeats 4000000 in
theorem dq_182 {c : ByteArray} {pc : Nat} {v a b : Nat} (h : (Reader.u1 : dRd Nat) c (pc) = .ok (182, pc + 1)) (h1 : (Reader.u1 : dRd Nat) c (pc + 1) = .ok (a, pc + 1 + 1)) (h2 : (Reader.u1 : dRd Nat) c (pc + 1 + 1) = .ok (b, pc + 1 + 1 + 1)) (hv : a * 256 + b = v) : decode c pc = .ok (.invokevirtual v, 3) := by
  subst hv
  refine d_dec ?_
  delta Decoder.instr
  refine (d_bind h).trans ?_
  show (do Pure.pure (Instr.invokevirtual (← Reader.u2)) : dRd Instr) c (pc + 1) = _
  exact d_bind (d_u2 h1 h2)
theorem dn_182 {v : Nat} {c : ByteArray} {p0 m N : Nat} (h : dCh c p0 m N) (j : Nat) (hj : Nat.ble (j + 3) m = true) (ho : byt N j = 182) (hv : byt N (j + 1) * 256 + byt N (j + 2) = v) : decode c (p0 + j) = .ok (.invokevirtual v, 3) := dq_182 (d_nb h j hj (by omega) ho) (d_nb h (j + 1) hj (by omega) rfl) (d_nb h (j + 2) hj (by omega) rfl) hv

set_option maxRecDepth 16384 in
set_option maxHeartbeats 4000000 in
theorem dq_183 {c : ByteArray} {pc : Nat} {v a b : Nat} (h : (Reader.u1 : dRd Nat) c (pc) = .ok (183, pc + 1)) (h1 : (Reader.u1 : dRd Nat) c (pc + 1) = .ok (a, pc + 1 + 1)) (h2 : (Reader.u1 : dRd Nat) c (pc + 1 + 1) = .ok (b, pc + 1 + 1 + 1)) (hv : a * 256 + b = v) : decode c pc = .ok (.invokespecial v, 3) := by
  subst hv
  refine d_dec ?_
  delta Decoder.instr
  refine (d_bind h).trans ?_
  show (do Pure.pure (Instr.invokespecial (← Reader.u2)) : dRd Instr) c (pc + 1) = _
  exact d_bind (d_u2 h1 h2)
theorem dn_183 {v : Nat} {c : ByteArray} {p0 m N : Nat} (h : dCh c p0 m N) (j : Nat) (hj : Nat.ble (j + 3) m = true) (ho : byt N j = 183) (hv : byt N (j + 1) * 256 + byt N (j + 2) = v) : decode c (p0 + j) = .ok (.invokespecial v, 3) := dq_183 (d_nb h j hj (by omega) ho) (d_nb h (j + 1) hj (by omega) rfl) (d_nb h (j + 2) hj (by omega) rfl) hv

set_option maxRecDepth 16384 in
set_option maxHeartbeats 4000000 in
theorem dq_184 {c : ByteArray} {pc : Nat} {v a b : Nat} (h : (Reader.u1 : dRd Nat) c (pc) = .ok (184, pc + 1)) (h1 : (Reader.u1 : dRd Nat) c (pc + 1) = .ok (a, pc + 1 + 1)) (h2 : (Reader.u1 : dRd Nat) c (pc + 1 + 1) = .ok (b, pc + 1 + 1 + 1)) (hv : a * 256 + b = v) : decode c pc = .ok (.invokestatic v, 3) := by
  subst hv
  refine d_dec ?_
  delta Decoder.instr
  refine (d_bind h).trans ?_
  show (do Pure.pure (Instr.invokestatic (← Reader.u2)) : dRd Instr) c (pc + 1) = _
  exact d_bind (d_u2 h1 h2)
theorem dn_184 {v : Nat} {c : ByteArray} {p0 m N : Nat} (h : dCh c p0 m N) (j : Nat) (hj : Nat.ble (j + 3) m = true) (ho : byt N j = 184) (hv : byt N (j + 1) * 256 + byt N (j + 2) = v) : decode c (p0 + j) = .ok (.invokestatic v, 3) := dq_184 (d_nb h j hj (by omega) ho) (d_nb h (j + 1) hj (by omega) rfl) (d_nb h (j + 2) hj (by omega) rfl) hv

set_option maxRecDepth 16384 in
set_option maxHeartbeats 4000000 in
theorem dq_187 {c : ByteArray} {pc : Nat} {v a b : Nat} (h : (Reader.u1 : dRd Nat) c (pc) = .ok (187, pc + 1)) (h1 : (Reader.u1 : dRd Nat) c (pc + 1) = .ok (a, pc + 1 + 1)) (h2 : (Reader.u1 : dRd Nat) c (pc + 1 + 1) = .ok (b, pc + 1 + 1 + 1)) (hv : a * 256 + b = v) : decode c pc = .ok (.new v, 3) := by
  subst hv
  refine d_dec ?_
  delta Decoder.instr
  refine (d_bind h).trans ?_
  show (do Pure.pure (Instr.new (← Reader.u2)) : dRd Instr) c (pc + 1) = _
  exact d_bind (d_u2 h1 h2)
theorem dn_187 {v : Nat} {c : ByteArray} {p0 m N : Nat} (h : dCh c p0 m N) (j : Nat) (hj : Nat.ble (j + 3) m = true) (ho : byt N j = 187) (hv : byt N (j + 1) * 256 + byt N (j + 2) = v) : decode c (p0 + j) = .ok (.new v, 3) := dq_187 (d_nb h j hj (by omega) ho) (d_nb h (j + 1) hj (by omega) rfl) (d_nb h (j + 2) hj (by omega) rfl) hv

set_option maxRecDepth 16384 in
set_option maxHeartbeats 4000000 in
theorem dq_188 {c : ByteArray} {pc : Nat} (h : (Reader.u1 : dRd Nat) c (pc) = .ok (188, pc + 1)) (h1 : (Reader.u1 : dRd Nat) c (pc + 1) = .ok (10, pc + 1 + 1)) : decode c pc = .ok (.newarray .int, 2) := by
  refine d_dec ?_
  delta Decoder.instr
  refine (d_bind h).trans ?_
  show (Decoder.newarray pc : dRd Instr) c (pc + 1) = _
  delta Decoder.newarray
  refine (d_bind h1).trans ?_
  rfl
theorem dn_188 {c : ByteArray} {p0 m N : Nat} (h : dCh c p0 m N) (j : Nat) (hj : Nat.ble (j + 2) m = true) (ho : byt N j = 188) (hv : byt N (j + 1) = 10) : decode c (p0 + j) = .ok (.newarray .int, 2) := dq_188 (d_nb h j hj (by omega) ho) (d_nb h (j + 1) hj (by omega) hv)

set_option maxRecDepth 16384 in
set_option maxHeartbeats 4000000 in
theorem dq_190 {c : ByteArray} {pc : Nat} (h : (Reader.u1 : dRd Nat) c (pc) = .ok (190, pc + 1)) : decode c pc = .ok (.arraylength, 1) := by
  refine d_dec ?_
  delta Decoder.instr
  refine (d_bind h).trans ?_
  rfl
theorem dn_190 {c : ByteArray} {p0 m N : Nat} (h : dCh c p0 m N) (j : Nat) (hj : Nat.ble (j + 1) m = true) (ho : byt N j = 190) : decode c (p0 + j) = .ok (.arraylength, 1) := dq_190 (d_nb h j hj (by omega) ho)

set_option maxRecDepth 16384 in
set_option maxHeartbeats 4000000 in
theorem dq_199 {c : ByteArray} {pc : Nat} {a b : Nat} {z : Int} (h : (Reader.u1 : dRd Nat) c (pc) = .ok (199, pc + 1)) (h1 : (Reader.u1 : dRd Nat) c (pc + 1) = .ok (a, pc + 1 + 1)) (h2 : (Reader.u1 : dRd Nat) c (pc + 1 + 1) = .ok (b, pc + 1 + 1 + 1)) (hv : Reader.signed 16 (a * 256 + b) = z) : decode c pc = .ok (.ifnonnull z, 3) := by
  subst hv
  refine d_dec ?_
  delta Decoder.instr
  refine (d_bind h).trans ?_
  show (do Pure.pure (Instr.ifnonnull (← Reader.s2)) : dRd Instr) c (pc + 1) = _
  exact d_bind (d_s2 h1 h2)
theorem dn_199 {z : Int} {c : ByteArray} {p0 m N : Nat} (h : dCh c p0 m N) (j : Nat) (hj : Nat.ble (j + 3) m = true) (ho : byt N j = 199) (hv : Reader.signed 16 (byt N (j + 1) * 256 + byt N (j + 2)) = z) : decode c (p0 + j) = .ok (.ifnonnull z, 3) := dq_199 (d_nb h j hj (by omega) ho) (d_nb h (j + 1) hj (by omega) rfl) (d_nb h (j + 2) hj (by omega) rfl) hv
