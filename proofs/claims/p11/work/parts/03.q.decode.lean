/-! ===== decode, byte by byte ===== -/
abbrev dRd (α : Type) : Type := Reader DecodeError α
theorem d_bind {α β : Type} {r : dRd α} {f : α → dRd β} {c : ByteArray} {p q : Nat} {a : α} (h : r c p = .ok (a, q)) : (r >>= f) c p = f a c q := by
  show (do let (a, s) ← r c p; f a c s : Except DecodeError (β × Nat)) = _
  rw [h]; rfl
theorem d_map {α β : Type} {r : dRd α} {g : α → β} {c : ByteArray} {p q : Nat} {a : α} (h : r c p = .ok (a, q)) : (g <$> r) c p = .ok (g a, q) := by
  show (do let (a, s) ← r c p; .ok (g a, s) : Except DecodeError (β × Nat)) = _
  rw [h]; rfl
theorem d_u1 {c : ByteArray} {p : Nat} {x : UInt8} (h : c.data.toList[p]? = some x) : (Reader.u1 : dRd Nat) c p = .ok (x.toNat, p + 1) := by
  obtain ⟨h1, h2⟩ := List.getElem?_eq_some_iff.mp h
  have h3 : p < c.size := by simpa using h1
  have h4 : c[p] = x := h2
  show (do if h : p < c.size then do set (p + 1); Pure.pure c[p].toNat else MonadExcept.throw (HasTruncated.truncated p) : dRd Nat) c p = _
  rw [dif_pos h3, h4]; rfl
theorem d_b {c : ByteArray} {p0 m : Nat} {l : List Nat} (h : ((c.data.toList.drop p0).take m).map UInt8.toNat = l) (j : Nat) {b : Nat} (hj : l[j]? = some b) : (Reader.u1 : dRd Nat) c (p0 + j) = .ok (b, p0 + j + 1) := by
  rw [← h, List.getElem?_map, List.getElem?_take] at hj
  by_cases hm : j < m
  · rw [if_pos hm, List.getElem?_drop] at hj
    cases hx : c.data.toList[p0 + j]? with
    | none => rw [hx] at hj; simp at hj
    | some x =>
      rw [hx] at hj
      have hb : x.toNat = b := Option.some.inj hj
      rw [← hb]; exact d_u1 hx
  · rw [if_neg hm] at hj; simp at hj
theorem d_u2 {c : ByteArray} {p a b : Nat} (h1 : (Reader.u1 : dRd Nat) c p = .ok (a, p + 1)) (h2 : (Reader.u1 : dRd Nat) c (p + 1) = .ok (b, p + 1 + 1)) : (Reader.u2 : dRd Nat) c p = .ok (a * 256 + b, p + 1 + 1) := by
  delta Reader.u2
  refine (d_bind h1).trans ?_
  exact d_bind h2
theorem d_s2 {c : ByteArray} {p a b : Nat} (h1 : (Reader.u1 : dRd Nat) c p = .ok (a, p + 1)) (h2 : (Reader.u1 : dRd Nat) c (p + 1) = .ok (b, p + 1 + 1)) : (Reader.s2 : dRd Int) c p = .ok (Reader.signed 16 (a * 256 + b), p + 1 + 1) := by
  delta Reader.s2
  exact d_map (d_u2 h1 h2)
theorem d_s1 {c : ByteArray} {p a : Nat} (h1 : (Reader.u1 : dRd Nat) c p = .ok (a, p + 1)) : (Reader.s1 : dRd Int) c p = .ok (Reader.signed 8 a, p + 1) := by
  delta Reader.s1
  exact d_map h1
theorem d_dec {c : ByteArray} {pc n : Nat} {i : Instr} (h : Decoder.instr pc c pc = .ok (i, pc + n)) : decode c pc = .ok (i, n) := by
  have e : decode c pc = .ok (i, pc + n - pc) := by
    show (do let (j, s) ← Decoder.instr pc c pc; Pure.pure (j, s - pc) : Except DecodeError (Instr × Nat)) = _
    rw [h]; rfl
  rw [Nat.add_sub_cancel_left] at e
  exact e
set_option maxRecDepth 16384 in
set_option maxHeartbeats 4000000 in
theorem dq_2 {c : ByteArray} {pc : Nat} (h : (Reader.u1 : dRd Nat) c (pc) = .ok (2, pc + 1)) : decode c pc = .ok (.iconst (-1), 1) := by
  refine d_dec ?_
  delta Decoder.instr
  refine (d_bind h).trans ?_
  rfl

set_option maxRecDepth 16384 in
set_option maxHeartbeats 4000000 in
theorem dq_3 {c : ByteArray} {pc : Nat} (h : (Reader.u1 : dRd Nat) c (pc) = .ok (3, pc + 1)) : decode c pc = .ok (.iconst 0, 1) := by
  refine d_dec ?_
  delta Decoder.instr
  refine (d_bind h).trans ?_
  rfl

set_option maxRecDepth 16384 in
set_option maxHeartbeats 4000000 in
theorem dq_4 {c : ByteArray} {pc : Nat} (h : (Reader.u1 : dRd Nat) c (pc) = .ok (4, pc + 1)) : decode c pc = .ok (.iconst 1, 1) := by
  refine d_dec ?_
  delta Decoder.instr
  refine (d_bind h).trans ?_
  rfl

set_option maxRecDepth 16384 in
set_option maxHeartbeats 4000000 in
theorem dq_5 {c : ByteArray} {pc : Nat} (h : (Reader.u1 : dRd Nat) c (pc) = .ok (5, pc + 1)) : decode c pc = .ok (.iconst 2, 1) := by
  refine d_dec ?_
  delta Decoder.instr
  refine (d_bind h).trans ?_
  rfl

set_option maxRecDepth 16384 in
set_option maxHeartbeats 4000000 in
theorem dq_6 {c : ByteArray} {pc : Nat} (h : (Reader.u1 : dRd Nat) c (pc) = .ok (6, pc + 1)) : decode c pc = .ok (.iconst 3, 1) := by
  refine d_dec ?_
  delta Decoder.instr
  refine (d_bind h).trans ?_
  rfl

set_option maxRecDepth 16384 in
set_option maxHeartbeats 4000000 in
theorem dq_7 {c : ByteArray} {pc : Nat} (h : (Reader.u1 : dRd Nat) c (pc) = .ok (7, pc + 1)) : decode c pc = .ok (.iconst 4, 1) := by
  refine d_dec ?_
  delta Decoder.instr
  refine (d_bind h).trans ?_
  rfl

set_option maxRecDepth 16384 in
set_option maxHeartbeats 4000000 in
theorem dq_8 {c : ByteArray} {pc : Nat} (h : (Reader.u1 : dRd Nat) c (pc) = .ok (8, pc + 1)) : decode c pc = .ok (.iconst 5, 1) := by
  refine d_dec ?_
  delta Decoder.instr
  refine (d_bind h).trans ?_
  rfl

set_option maxRecDepth 16384 in
set_option maxHeartbeats 4000000 in
theorem dq_10 {c : ByteArray} {pc : Nat} (h : (Reader.u1 : dRd Nat) c (pc) = .ok (10, pc + 1)) : decode c pc = .ok (.lconst 1, 1) := by
  refine d_dec ?_
  delta Decoder.instr
  refine (d_bind h).trans ?_
  rfl

set_option maxRecDepth 16384 in
set_option maxHeartbeats 4000000 in
theorem dq_16 {c : ByteArray} {pc : Nat} {a : Nat} {z : Int} (h : (Reader.u1 : dRd Nat) c (pc) = .ok (16, pc + 1)) (h1 : (Reader.u1 : dRd Nat) c (pc + 1) = .ok (a, pc + 1 + 1)) (hv : Reader.signed 8 a = z) : decode c pc = .ok (.bipush z, 2) := by
  subst hv
  refine d_dec ?_
  delta Decoder.instr
  refine (d_bind h).trans ?_
  show (do Pure.pure (Instr.bipush (← Reader.s1)) : dRd Instr) c (pc + 1) = _
  exact d_bind (d_s1 h1)

set_option maxRecDepth 16384 in
set_option maxHeartbeats 4000000 in
theorem dq_17 {c : ByteArray} {pc : Nat} {a b : Nat} {z : Int} (h : (Reader.u1 : dRd Nat) c (pc) = .ok (17, pc + 1)) (h1 : (Reader.u1 : dRd Nat) c (pc + 1) = .ok (a, pc + 1 + 1)) (h2 : (Reader.u1 : dRd Nat) c (pc + 1 + 1) = .ok (b, pc + 1 + 1 + 1)) (hv : Reader.signed 16 (a * 256 + b) = z) : decode c pc = .ok (.sipush z, 3) := by
  subst hv
  refine d_dec ?_
  delta Decoder.instr
  refine (d_bind h).trans ?_
  show (do Pure.pure (Instr.sipush (← Reader.s2)) : dRd Instr) c (pc + 1) = _
  exact d_bind (d_s2 h1 h2)

set_option maxRecDepth 16384 in
set_option maxHeartbeats 4000000 in
theorem dq_18 {c : ByteArray} {pc : Nat} {v : Nat} (h : (Reader.u1 : dRd Nat) c (pc) = .ok (18, pc + 1)) (h1 : (Reader.u1 : dRd Nat) c (pc + 1) = .ok (v, pc + 1 + 1)) : decode c pc = .ok (.ldc v, 2) := by
  refine d_dec ?_
  delta Decoder.instr
  refine (d_bind h).trans ?_
  show (do Pure.pure (Instr.ldc (← Reader.u1)) : dRd Instr) c (pc + 1) = _
  exact d_bind h1

set_option maxRecDepth 16384 in
set_option maxHeartbeats 4000000 in
theorem dq_19 {c : ByteArray} {pc : Nat} {v a b : Nat} (h : (Reader.u1 : dRd Nat) c (pc) = .ok (19, pc + 1)) (h1 : (Reader.u1 : dRd Nat) c (pc + 1) = .ok (a, pc + 1 + 1)) (h2 : (Reader.u1 : dRd Nat) c (pc + 1 + 1) = .ok (b, pc + 1 + 1 + 1)) (hv : a * 256 + b = v) : decode c pc = .ok (.ldc_w v, 3) := by
  subst hv
  refine d_dec ?_
  delta Decoder.instr
  refine (d_bind h).trans ?_
  show (do Pure.pure (Instr.ldc_w (← Reader.u2)) : dRd Instr) c (pc + 1) = _
  exact d_bind (d_u2 h1 h2)

set_option maxRecDepth 16384 in
set_option maxHeartbeats 4000000 in
theorem dq_20 {c : ByteArray} {pc : Nat} {v a b : Nat} (h : (Reader.u1 : dRd Nat) c (pc) = .ok (20, pc + 1)) (h1 : (Reader.u1 : dRd Nat) c (pc + 1) = .ok (a, pc + 1 + 1)) (h2 : (Reader.u1 : dRd Nat) c (pc + 1 + 1) = .ok (b, pc + 1 + 1 + 1)) (hv : a * 256 + b = v) : decode c pc = .ok (.ldc2_w v, 3) := by
  subst hv
  refine d_dec ?_
  delta Decoder.instr
  refine (d_bind h).trans ?_
  show (do Pure.pure (Instr.ldc2_w (← Reader.u2)) : dRd Instr) c (pc + 1) = _
  exact d_bind (d_u2 h1 h2)

set_option maxRecDepth 16384 in
set_option maxHeartbeats 4000000 in
theorem dq_21 {c : ByteArray} {pc : Nat} {v : Nat} (h : (Reader.u1 : dRd Nat) c (pc) = .ok (21, pc + 1)) (h1 : (Reader.u1 : dRd Nat) c (pc + 1) = .ok (v, pc + 1 + 1)) : decode c pc = .ok (.iload v, 2) := by
  refine d_dec ?_
  delta Decoder.instr
  refine (d_bind h).trans ?_
  show (do Pure.pure (Instr.iload (← Reader.u1)) : dRd Instr) c (pc + 1) = _
  exact d_bind h1

set_option maxRecDepth 16384 in
set_option maxHeartbeats 4000000 in
theorem dq_25 {c : ByteArray} {pc : Nat} {v : Nat} (h : (Reader.u1 : dRd Nat) c (pc) = .ok (25, pc + 1)) (h1 : (Reader.u1 : dRd Nat) c (pc + 1) = .ok (v, pc + 1 + 1)) : decode c pc = .ok (.aload v, 2) := by
  refine d_dec ?_
  delta Decoder.instr
  refine (d_bind h).trans ?_
  show (do Pure.pure (Instr.aload (← Reader.u1)) : dRd Instr) c (pc + 1) = _
  exact d_bind h1

set_option maxRecDepth 16384 in
set_option maxHeartbeats 4000000 in
theorem dq_26 {c : ByteArray} {pc : Nat} (h : (Reader.u1 : dRd Nat) c (pc) = .ok (26, pc + 1)) : decode c pc = .ok (.iload_n 0, 1) := by
  refine d_dec ?_
  delta Decoder.instr
  refine (d_bind h).trans ?_
  rfl

set_option maxRecDepth 16384 in
set_option maxHeartbeats 4000000 in
theorem dq_27 {c : ByteArray} {pc : Nat} (h : (Reader.u1 : dRd Nat) c (pc) = .ok (27, pc + 1)) : decode c pc = .ok (.iload_n 1, 1) := by
  refine d_dec ?_
  delta Decoder.instr
  refine (d_bind h).trans ?_
  rfl

set_option maxRecDepth 16384 in
set_option maxHeartbeats 4000000 in
theorem dq_28 {c : ByteArray} {pc : Nat} (h : (Reader.u1 : dRd Nat) c (pc) = .ok (28, pc + 1)) : decode c pc = .ok (.iload_n 2, 1) := by
  refine d_dec ?_
  delta Decoder.instr
  refine (d_bind h).trans ?_
  rfl

set_option maxRecDepth 16384 in
set_option maxHeartbeats 4000000 in
theorem dq_29 {c : ByteArray} {pc : Nat} (h : (Reader.u1 : dRd Nat) c (pc) = .ok (29, pc + 1)) : decode c pc = .ok (.iload_n 3, 1) := by
  refine d_dec ?_
  delta Decoder.instr
  refine (d_bind h).trans ?_
  rfl

set_option maxRecDepth 16384 in
set_option maxHeartbeats 4000000 in
theorem dq_31 {c : ByteArray} {pc : Nat} (h : (Reader.u1 : dRd Nat) c (pc) = .ok (31, pc + 1)) : decode c pc = .ok (.lload_n 1, 1) := by
  refine d_dec ?_
  delta Decoder.instr
  refine (d_bind h).trans ?_
  rfl

set_option maxRecDepth 16384 in
set_option maxHeartbeats 4000000 in
theorem dq_32 {c : ByteArray} {pc : Nat} (h : (Reader.u1 : dRd Nat) c (pc) = .ok (32, pc + 1)) : decode c pc = .ok (.lload_n 2, 1) := by
  refine d_dec ?_
  delta Decoder.instr
  refine (d_bind h).trans ?_
  rfl

set_option maxRecDepth 16384 in
set_option maxHeartbeats 4000000 in
theorem dq_42 {c : ByteArray} {pc : Nat} (h : (Reader.u1 : dRd Nat) c (pc) = .ok (42, pc + 1)) : decode c pc = .ok (.aload_n 0, 1) := by
  refine d_dec ?_
  delta Decoder.instr
  refine (d_bind h).trans ?_
  rfl

set_option maxRecDepth 16384 in
set_option maxHeartbeats 4000000 in
theorem dq_43 {c : ByteArray} {pc : Nat} (h : (Reader.u1 : dRd Nat) c (pc) = .ok (43, pc + 1)) : decode c pc = .ok (.aload_n 1, 1) := by
  refine d_dec ?_
  delta Decoder.instr
  refine (d_bind h).trans ?_
  rfl

set_option maxRecDepth 16384 in
set_option maxHeartbeats 4000000 in
theorem dq_44 {c : ByteArray} {pc : Nat} (h : (Reader.u1 : dRd Nat) c (pc) = .ok (44, pc + 1)) : decode c pc = .ok (.aload_n 2, 1) := by
  refine d_dec ?_
  delta Decoder.instr
  refine (d_bind h).trans ?_
  rfl

set_option maxRecDepth 16384 in
set_option maxHeartbeats 4000000 in
theorem dq_45 {c : ByteArray} {pc : Nat} (h : (Reader.u1 : dRd Nat) c (pc) = .ok (45, pc + 1)) : decode c pc = .ok (.aload_n 3, 1) := by
  refine d_dec ?_
  delta Decoder.instr
  refine (d_bind h).trans ?_
  rfl

set_option maxRecDepth 16384 in
set_option maxHeartbeats 4000000 in
theorem dq_46 {c : ByteArray} {pc : Nat} (h : (Reader.u1 : dRd Nat) c (pc) = .ok (46, pc + 1)) : decode c pc = .ok (.iaload, 1) := by
  refine d_dec ?_
  delta Decoder.instr
  refine (d_bind h).trans ?_
  rfl

set_option maxRecDepth 16384 in
set_option maxHeartbeats 4000000 in
theorem dq_54 {c : ByteArray} {pc : Nat} {v : Nat} (h : (Reader.u1 : dRd Nat) c (pc) = .ok (54, pc + 1)) (h1 : (Reader.u1 : dRd Nat) c (pc + 1) = .ok (v, pc + 1 + 1)) : decode c pc = .ok (.istore v, 2) := by
  refine d_dec ?_
  delta Decoder.instr
  refine (d_bind h).trans ?_
  show (do Pure.pure (Instr.istore (← Reader.u1)) : dRd Instr) c (pc + 1) = _
  exact d_bind h1

set_option maxRecDepth 16384 in
set_option maxHeartbeats 4000000 in
theorem dq_58 {c : ByteArray} {pc : Nat} {v : Nat} (h : (Reader.u1 : dRd Nat) c (pc) = .ok (58, pc + 1)) (h1 : (Reader.u1 : dRd Nat) c (pc + 1) = .ok (v, pc + 1 + 1)) : decode c pc = .ok (.astore v, 2) := by
  refine d_dec ?_
  delta Decoder.instr
  refine (d_bind h).trans ?_
  show (do Pure.pure (Instr.astore (← Reader.u1)) : dRd Instr) c (pc + 1) = _
  exact d_bind h1

set_option maxRecDepth 16384 in
set_option maxHeartbeats 4000000 in
theorem dq_59 {c : ByteArray} {pc : Nat} (h : (Reader.u1 : dRd Nat) c (pc) = .ok (59, pc + 1)) : decode c pc = .ok (.istore_n 0, 1) := by
  refine d_dec ?_
  delta Decoder.instr
  refine (d_bind h).trans ?_
  rfl

set_option maxRecDepth 16384 in
set_option maxHeartbeats 4000000 in
theorem dq_60 {c : ByteArray} {pc : Nat} (h : (Reader.u1 : dRd Nat) c (pc) = .ok (60, pc + 1)) : decode c pc = .ok (.istore_n 1, 1) := by
  refine d_dec ?_
  delta Decoder.instr
  refine (d_bind h).trans ?_
  rfl

set_option maxRecDepth 16384 in
set_option maxHeartbeats 4000000 in
theorem dq_61 {c : ByteArray} {pc : Nat} (h : (Reader.u1 : dRd Nat) c (pc) = .ok (61, pc + 1)) : decode c pc = .ok (.istore_n 2, 1) := by
  refine d_dec ?_
  delta Decoder.instr
  refine (d_bind h).trans ?_
  rfl

set_option maxRecDepth 16384 in
set_option maxHeartbeats 4000000 in
theorem dq_62 {c : ByteArray} {pc : Nat} (h : (Reader.u1 : dRd Nat) c (pc) = .ok (62, pc + 1)) : decode c pc = .ok (.istore_n 3, 1) := by
  refine d_dec ?_
  delta Decoder.instr
  refine (d_bind h).trans ?_
  rfl

set_option maxRecDepth 16384 in
set_option maxHeartbeats 4000000 in
theorem dq_65 {c : ByteArray} {pc : Nat} (h : (Reader.u1 : dRd Nat) c (pc) = .ok (65, pc + 1)) : decode c pc = .ok (.lstore_n 2, 1) := by
  refine d_dec ?_
  delta Decoder.instr
  refine (d_bind h).trans ?_
  rfl

set_option maxRecDepth 16384 in
set_option maxHeartbeats 4000000 in
theorem dq_76 {c : ByteArray} {pc : Nat} (h : (Reader.u1 : dRd Nat) c (pc) = .ok (76, pc + 1)) : decode c pc = .ok (.astore_n 1, 1) := by
  refine d_dec ?_
  delta Decoder.instr
  refine (d_bind h).trans ?_
  rfl

set_option maxRecDepth 16384 in
set_option maxHeartbeats 4000000 in
theorem dq_77 {c : ByteArray} {pc : Nat} (h : (Reader.u1 : dRd Nat) c (pc) = .ok (77, pc + 1)) : decode c pc = .ok (.astore_n 2, 1) := by
  refine d_dec ?_
  delta Decoder.instr
  refine (d_bind h).trans ?_
  rfl

set_option maxRecDepth 16384 in
set_option maxHeartbeats 4000000 in
theorem dq_78 {c : ByteArray} {pc : Nat} (h : (Reader.u1 : dRd Nat) c (pc) = .ok (78, pc + 1)) : decode c pc = .ok (.astore_n 3, 1) := by
  refine d_dec ?_
  delta Decoder.instr
  refine (d_bind h).trans ?_
  rfl

set_option maxRecDepth 16384 in
set_option maxHeartbeats 4000000 in
theorem dq_79 {c : ByteArray} {pc : Nat} (h : (Reader.u1 : dRd Nat) c (pc) = .ok (79, pc + 1)) : decode c pc = .ok (.iastore, 1) := by
  refine d_dec ?_
  delta Decoder.instr
  refine (d_bind h).trans ?_
  rfl

set_option maxRecDepth 16384 in
set_option maxHeartbeats 4000000 in
theorem dq_87 {c : ByteArray} {pc : Nat} (h : (Reader.u1 : dRd Nat) c (pc) = .ok (87, pc + 1)) : decode c pc = .ok (.pop, 1) := by
  refine d_dec ?_
  delta Decoder.instr
  refine (d_bind h).trans ?_
  rfl

set_option maxRecDepth 16384 in
set_option maxHeartbeats 4000000 in
theorem dq_89 {c : ByteArray} {pc : Nat} (h : (Reader.u1 : dRd Nat) c (pc) = .ok (89, pc + 1)) : decode c pc = .ok (.dup, 1) := by
  refine d_dec ?_
  delta Decoder.instr
  refine (d_bind h).trans ?_
  rfl

set_option maxRecDepth 16384 in
set_option maxHeartbeats 4000000 in
theorem dq_92 {c : ByteArray} {pc : Nat} (h : (Reader.u1 : dRd Nat) c (pc) = .ok (92, pc + 1)) : decode c pc = .ok (.dup2, 1) := by
  refine d_dec ?_
  delta Decoder.instr
  refine (d_bind h).trans ?_
  rfl

set_option maxRecDepth 16384 in
set_option maxHeartbeats 4000000 in
theorem dq_96 {c : ByteArray} {pc : Nat} (h : (Reader.u1 : dRd Nat) c (pc) = .ok (96, pc + 1)) : decode c pc = .ok (.iadd, 1) := by
  refine d_dec ?_
  delta Decoder.instr
  refine (d_bind h).trans ?_
  rfl

set_option maxRecDepth 16384 in
set_option maxHeartbeats 4000000 in
theorem dq_97 {c : ByteArray} {pc : Nat} (h : (Reader.u1 : dRd Nat) c (pc) = .ok (97, pc + 1)) : decode c pc = .ok (.ladd, 1) := by
  refine d_dec ?_
  delta Decoder.instr
  refine (d_bind h).trans ?_
  rfl

set_option maxRecDepth 16384 in
set_option maxHeartbeats 4000000 in
theorem dq_100 {c : ByteArray} {pc : Nat} (h : (Reader.u1 : dRd Nat) c (pc) = .ok (100, pc + 1)) : decode c pc = .ok (.isub, 1) := by
  refine d_dec ?_
  delta Decoder.instr
  refine (d_bind h).trans ?_
  rfl

set_option maxRecDepth 16384 in
set_option maxHeartbeats 4000000 in
theorem dq_101 {c : ByteArray} {pc : Nat} (h : (Reader.u1 : dRd Nat) c (pc) = .ok (101, pc + 1)) : decode c pc = .ok (.lsub, 1) := by
  refine d_dec ?_
  delta Decoder.instr
  refine (d_bind h).trans ?_
  rfl

set_option maxRecDepth 16384 in
set_option maxHeartbeats 4000000 in
theorem dq_104 {c : ByteArray} {pc : Nat} (h : (Reader.u1 : dRd Nat) c (pc) = .ok (104, pc + 1)) : decode c pc = .ok (.imul, 1) := by
  refine d_dec ?_
  delta Decoder.instr
  refine (d_bind h).trans ?_
  rfl

set_option maxRecDepth 16384 in
set_option maxHeartbeats 4000000 in
theorem dq_108 {c : ByteArray} {pc : Nat} (h : (Reader.u1 : dRd Nat) c (pc) = .ok (108, pc + 1)) : decode c pc = .ok (.idiv, 1) := by
  refine d_dec ?_
  delta Decoder.instr
  refine (d_bind h).trans ?_
  rfl

set_option maxRecDepth 16384 in
set_option maxHeartbeats 4000000 in
theorem dq_112 {c : ByteArray} {pc : Nat} (h : (Reader.u1 : dRd Nat) c (pc) = .ok (112, pc + 1)) : decode c pc = .ok (.irem, 1) := by
  refine d_dec ?_
  delta Decoder.instr
  refine (d_bind h).trans ?_
  rfl

set_option maxRecDepth 16384 in
set_option maxHeartbeats 4000000 in
theorem dq_116 {c : ByteArray} {pc : Nat} (h : (Reader.u1 : dRd Nat) c (pc) = .ok (116, pc + 1)) : decode c pc = .ok (.ineg, 1) := by
  refine d_dec ?_
  delta Decoder.instr
  refine (d_bind h).trans ?_
  rfl

set_option maxRecDepth 16384 in
set_option maxHeartbeats 4000000 in
theorem dq_120 {c : ByteArray} {pc : Nat} (h : (Reader.u1 : dRd Nat) c (pc) = .ok (120, pc + 1)) : decode c pc = .ok (.ishl, 1) := by
  refine d_dec ?_
  delta Decoder.instr
  refine (d_bind h).trans ?_
  rfl

set_option maxRecDepth 16384 in
set_option maxHeartbeats 4000000 in
theorem dq_121 {c : ByteArray} {pc : Nat} (h : (Reader.u1 : dRd Nat) c (pc) = .ok (121, pc + 1)) : decode c pc = .ok (.lshl, 1) := by
  refine d_dec ?_
  delta Decoder.instr
  refine (d_bind h).trans ?_
  rfl

set_option maxRecDepth 16384 in
set_option maxHeartbeats 4000000 in
theorem dq_122 {c : ByteArray} {pc : Nat} (h : (Reader.u1 : dRd Nat) c (pc) = .ok (122, pc + 1)) : decode c pc = .ok (.ishr, 1) := by
  refine d_dec ?_
  delta Decoder.instr
  refine (d_bind h).trans ?_
  rfl

set_option maxRecDepth 16384 in
set_option maxHeartbeats 4000000 in
theorem dq_123 {c : ByteArray} {pc : Nat} (h : (Reader.u1 : dRd Nat) c (pc) = .ok (123, pc + 1)) : decode c pc = .ok (.lshr, 1) := by
  refine d_dec ?_
  delta Decoder.instr
  refine (d_bind h).trans ?_
  rfl

set_option maxRecDepth 16384 in
set_option maxHeartbeats 4000000 in
theorem dq_124 {c : ByteArray} {pc : Nat} (h : (Reader.u1 : dRd Nat) c (pc) = .ok (124, pc + 1)) : decode c pc = .ok (.iushr, 1) := by
  refine d_dec ?_
  delta Decoder.instr
  refine (d_bind h).trans ?_
  rfl

set_option maxRecDepth 16384 in
set_option maxHeartbeats 4000000 in
theorem dq_125 {c : ByteArray} {pc : Nat} (h : (Reader.u1 : dRd Nat) c (pc) = .ok (125, pc + 1)) : decode c pc = .ok (.lushr, 1) := by
  refine d_dec ?_
  delta Decoder.instr
  refine (d_bind h).trans ?_
  rfl

set_option maxRecDepth 16384 in
set_option maxHeartbeats 4000000 in
theorem dq_126 {c : ByteArray} {pc : Nat} (h : (Reader.u1 : dRd Nat) c (pc) = .ok (126, pc + 1)) : decode c pc = .ok (.iand, 1) := by
  refine d_dec ?_
  delta Decoder.instr
  refine (d_bind h).trans ?_
  rfl

set_option maxRecDepth 16384 in
set_option maxHeartbeats 4000000 in
theorem dq_127 {c : ByteArray} {pc : Nat} (h : (Reader.u1 : dRd Nat) c (pc) = .ok (127, pc + 1)) : decode c pc = .ok (.land, 1) := by
  refine d_dec ?_
  delta Decoder.instr
  refine (d_bind h).trans ?_
  rfl

set_option maxRecDepth 16384 in
set_option maxHeartbeats 4000000 in
theorem dq_128 {c : ByteArray} {pc : Nat} (h : (Reader.u1 : dRd Nat) c (pc) = .ok (128, pc + 1)) : decode c pc = .ok (.ior, 1) := by
  refine d_dec ?_
  delta Decoder.instr
  refine (d_bind h).trans ?_
  rfl

set_option maxRecDepth 16384 in
set_option maxHeartbeats 4000000 in
theorem dq_129 {c : ByteArray} {pc : Nat} (h : (Reader.u1 : dRd Nat) c (pc) = .ok (129, pc + 1)) : decode c pc = .ok (.lor, 1) := by
  refine d_dec ?_
  delta Decoder.instr
  refine (d_bind h).trans ?_
  rfl

set_option maxRecDepth 16384 in
set_option maxHeartbeats 4000000 in
theorem dq_130 {c : ByteArray} {pc : Nat} (h : (Reader.u1 : dRd Nat) c (pc) = .ok (130, pc + 1)) : decode c pc = .ok (.ixor, 1) := by
  refine d_dec ?_
  delta Decoder.instr
  refine (d_bind h).trans ?_
  rfl

set_option maxRecDepth 16384 in
set_option maxHeartbeats 4000000 in
theorem dq_132 {c : ByteArray} {pc : Nat} {v a : Nat} {z : Int} (h : (Reader.u1 : dRd Nat) c (pc) = .ok (132, pc + 1)) (h1 : (Reader.u1 : dRd Nat) c (pc + 1) = .ok (v, pc + 1 + 1)) (h2 : (Reader.u1 : dRd Nat) c (pc + 1 + 1) = .ok (a, pc + 1 + 1 + 1)) (hv : Reader.signed 8 a = z) : decode c pc = .ok (.iinc v z, 3) := by
  subst hv
  refine d_dec ?_
  delta Decoder.instr
  refine (d_bind h).trans ?_
  show (do Pure.pure (Instr.iinc (← Reader.u1) (← Reader.s1)) : dRd Instr) c (pc + 1) = _
  refine (d_bind h1).trans ?_
  exact d_bind (d_s1 h2)

set_option maxRecDepth 16384 in
set_option maxHeartbeats 4000000 in
theorem dq_133 {c : ByteArray} {pc : Nat} (h : (Reader.u1 : dRd Nat) c (pc) = .ok (133, pc + 1)) : decode c pc = .ok (.i2l, 1) := by
  refine d_dec ?_
  delta Decoder.instr
  refine (d_bind h).trans ?_
  rfl

set_option maxRecDepth 16384 in
set_option maxHeartbeats 4000000 in
theorem dq_136 {c : ByteArray} {pc : Nat} (h : (Reader.u1 : dRd Nat) c (pc) = .ok (136, pc + 1)) : decode c pc = .ok (.l2i, 1) := by
  refine d_dec ?_
  delta Decoder.instr
  refine (d_bind h).trans ?_
  rfl

set_option maxRecDepth 16384 in
set_option maxHeartbeats 4000000 in
theorem dq_145 {c : ByteArray} {pc : Nat} (h : (Reader.u1 : dRd Nat) c (pc) = .ok (145, pc + 1)) : decode c pc = .ok (.i2b, 1) := by
  refine d_dec ?_
  delta Decoder.instr
  refine (d_bind h).trans ?_
  rfl

set_option maxRecDepth 16384 in
set_option maxHeartbeats 4000000 in
theorem dq_146 {c : ByteArray} {pc : Nat} (h : (Reader.u1 : dRd Nat) c (pc) = .ok (146, pc + 1)) : decode c pc = .ok (.i2c, 1) := by
  refine d_dec ?_
  delta Decoder.instr
  refine (d_bind h).trans ?_
  rfl

set_option maxRecDepth 16384 in
set_option maxHeartbeats 4000000 in
theorem dq_147 {c : ByteArray} {pc : Nat} (h : (Reader.u1 : dRd Nat) c (pc) = .ok (147, pc + 1)) : decode c pc = .ok (.i2s, 1) := by
  refine d_dec ?_
  delta Decoder.instr
  refine (d_bind h).trans ?_
  rfl

set_option maxRecDepth 16384 in
set_option maxHeartbeats 4000000 in
theorem dq_148 {c : ByteArray} {pc : Nat} (h : (Reader.u1 : dRd Nat) c (pc) = .ok (148, pc + 1)) : decode c pc = .ok (.lcmp, 1) := by
  refine d_dec ?_
  delta Decoder.instr
  refine (d_bind h).trans ?_
  rfl

set_option maxRecDepth 16384 in
set_option maxHeartbeats 4000000 in
theorem dq_153 {c : ByteArray} {pc : Nat} {a b : Nat} {z : Int} (h : (Reader.u1 : dRd Nat) c (pc) = .ok (153, pc + 1)) (h1 : (Reader.u1 : dRd Nat) c (pc + 1) = .ok (a, pc + 1 + 1)) (h2 : (Reader.u1 : dRd Nat) c (pc + 1 + 1) = .ok (b, pc + 1 + 1 + 1)) (hv : Reader.signed 16 (a * 256 + b) = z) : decode c pc = .ok (.ifCond .eq z, 3) := by
  subst hv
  refine d_dec ?_
  delta Decoder.instr
  refine (d_bind h).trans ?_
  show (do Pure.pure (Instr.ifCond .eq (← Reader.s2)) : dRd Instr) c (pc + 1) = _
  exact d_bind (d_s2 h1 h2)

set_option maxRecDepth 16384 in
set_option maxHeartbeats 4000000 in
theorem dq_154 {c : ByteArray} {pc : Nat} {a b : Nat} {z : Int} (h : (Reader.u1 : dRd Nat) c (pc) = .ok (154, pc + 1)) (h1 : (Reader.u1 : dRd Nat) c (pc + 1) = .ok (a, pc + 1 + 1)) (h2 : (Reader.u1 : dRd Nat) c (pc + 1 + 1) = .ok (b, pc + 1 + 1 + 1)) (hv : Reader.signed 16 (a * 256 + b) = z) : decode c pc = .ok (.ifCond .ne z, 3) := by
  subst hv
  refine d_dec ?_
  delta Decoder.instr
  refine (d_bind h).trans ?_
  show (do Pure.pure (Instr.ifCond .ne (← Reader.s2)) : dRd Instr) c (pc + 1) = _
  exact d_bind (d_s2 h1 h2)

set_option maxRecDepth 16384 in
set_option maxHeartbeats 4000000 in
theorem dq_155 {c : ByteArray} {pc : Nat} {a b : Nat} {z : Int} (h : (Reader.u1 : dRd Nat) c (pc) = .ok (155, pc + 1)) (h1 : (Reader.u1 : dRd Nat) c (pc + 1) = .ok (a, pc + 1 + 1)) (h2 : (Reader.u1 : dRd Nat) c (pc + 1 + 1) = .ok (b, pc + 1 + 1 + 1)) (hv : Reader.signed 16 (a * 256 + b) = z) : decode c pc = .ok (.ifCond .lt z, 3) := by
  subst hv
  refine d_dec ?_
  delta Decoder.instr
  refine (d_bind h).trans ?_
  show (do Pure.pure (Instr.ifCond .lt (← Reader.s2)) : dRd Instr) c (pc + 1) = _
  exact d_bind (d_s2 h1 h2)

set_option maxRecDepth 16384 in
set_option maxHeartbeats 4000000 in
theorem dq_156 {c : ByteArray} {pc : Nat} {a b : Nat} {z : Int} (h : (Reader.u1 : dRd Nat) c (pc) = .ok (156, pc + 1)) (h1 : (Reader.u1 : dRd Nat) c (pc + 1) = .ok (a, pc + 1 + 1)) (h2 : (Reader.u1 : dRd Nat) c (pc + 1 + 1) = .ok (b, pc + 1 + 1 + 1)) (hv : Reader.signed 16 (a * 256 + b) = z) : decode c pc = .ok (.ifCond .ge z, 3) := by
  subst hv
  refine d_dec ?_
  delta Decoder.instr
  refine (d_bind h).trans ?_
  show (do Pure.pure (Instr.ifCond .ge (← Reader.s2)) : dRd Instr) c (pc + 1) = _
  exact d_bind (d_s2 h1 h2)

set_option maxRecDepth 16384 in
set_option maxHeartbeats 4000000 in
theorem dq_157 {c : ByteArray} {pc : Nat} {a b : Nat} {z : Int} (h : (Reader.u1 : dRd Nat) c (pc) = .ok (157, pc + 1)) (h1 : (Reader.u1 : dRd Nat) c (pc + 1) = .ok (a, pc + 1 + 1)) (h2 : (Reader.u1 : dRd Nat) c (pc + 1 + 1) = .ok (b, pc + 1 + 1 + 1)) (hv : Reader.signed 16 (a * 256 + b) = z) : decode c pc = .ok (.ifCond .gt z, 3) := by
  subst hv
  refine d_dec ?_
  delta Decoder.instr
  refine (d_bind h).trans ?_
  show (do Pure.pure (Instr.ifCond .gt (← Reader.s2)) : dRd Instr) c (pc + 1) = _
  exact d_bind (d_s2 h1 h2)

set_option maxRecDepth 16384 in
set_option maxHeartbeats 4000000 in
theorem dq_158 {c : ByteArray} {pc : Nat} {a b : Nat} {z : Int} (h : (Reader.u1 : dRd Nat) c (pc) = .ok (158, pc + 1)) (h1 : (Reader.u1 : dRd Nat) c (pc + 1) = .ok (a, pc + 1 + 1)) (h2 : (Reader.u1 : dRd Nat) c (pc + 1 + 1) = .ok (b, pc + 1 + 1 + 1)) (hv : Reader.signed 16 (a * 256 + b) = z) : decode c pc = .ok (.ifCond .le z, 3) := by
  subst hv
  refine d_dec ?_
  delta Decoder.instr
  refine (d_bind h).trans ?_
  show (do Pure.pure (Instr.ifCond .le (← Reader.s2)) : dRd Instr) c (pc + 1) = _
  exact d_bind (d_s2 h1 h2)

set_option maxRecDepth 16384 in
set_option maxHeartbeats 4000000 in
theorem dq_159 {c : ByteArray} {pc : Nat} {a b : Nat} {z : Int} (h : (Reader.u1 : dRd Nat) c (pc) = .ok (159, pc + 1)) (h1 : (Reader.u1 : dRd Nat) c (pc + 1) = .ok (a, pc + 1 + 1)) (h2 : (Reader.u1 : dRd Nat) c (pc + 1 + 1) = .ok (b, pc + 1 + 1 + 1)) (hv : Reader.signed 16 (a * 256 + b) = z) : decode c pc = .ok (.if_icmp .eq z, 3) := by
  subst hv
  refine d_dec ?_
  delta Decoder.instr
  refine (d_bind h).trans ?_
  show (do Pure.pure (Instr.if_icmp .eq (← Reader.s2)) : dRd Instr) c (pc + 1) = _
  exact d_bind (d_s2 h1 h2)

set_option maxRecDepth 16384 in
set_option maxHeartbeats 4000000 in
theorem dq_160 {c : ByteArray} {pc : Nat} {a b : Nat} {z : Int} (h : (Reader.u1 : dRd Nat) c (pc) = .ok (160, pc + 1)) (h1 : (Reader.u1 : dRd Nat) c (pc + 1) = .ok (a, pc + 1 + 1)) (h2 : (Reader.u1 : dRd Nat) c (pc + 1 + 1) = .ok (b, pc + 1 + 1 + 1)) (hv : Reader.signed 16 (a * 256 + b) = z) : decode c pc = .ok (.if_icmp .ne z, 3) := by
  subst hv
  refine d_dec ?_
  delta Decoder.instr
  refine (d_bind h).trans ?_
  show (do Pure.pure (Instr.if_icmp .ne (← Reader.s2)) : dRd Instr) c (pc + 1) = _
  exact d_bind (d_s2 h1 h2)

set_option maxRecDepth 16384 in
set_option maxHeartbeats 4000000 in
theorem dq_161 {c : ByteArray} {pc : Nat} {a b : Nat} {z : Int} (h : (Reader.u1 : dRd Nat) c (pc) = .ok (161, pc + 1)) (h1 : (Reader.u1 : dRd Nat) c (pc + 1) = .ok (a, pc + 1 + 1)) (h2 : (Reader.u1 : dRd Nat) c (pc + 1 + 1) = .ok (b, pc + 1 + 1 + 1)) (hv : Reader.signed 16 (a * 256 + b) = z) : decode c pc = .ok (.if_icmp .lt z, 3) := by
  subst hv
  refine d_dec ?_
  delta Decoder.instr
  refine (d_bind h).trans ?_
  show (do Pure.pure (Instr.if_icmp .lt (← Reader.s2)) : dRd Instr) c (pc + 1) = _
  exact d_bind (d_s2 h1 h2)

set_option maxRecDepth 16384 in
set_option maxHeartbeats 4000000 in
theorem dq_162 {c : ByteArray} {pc : Nat} {a b : Nat} {z : Int} (h : (Reader.u1 : dRd Nat) c (pc) = .ok (162, pc + 1)) (h1 : (Reader.u1 : dRd Nat) c (pc + 1) = .ok (a, pc + 1 + 1)) (h2 : (Reader.u1 : dRd Nat) c (pc + 1 + 1) = .ok (b, pc + 1 + 1 + 1)) (hv : Reader.signed 16 (a * 256 + b) = z) : decode c pc = .ok (.if_icmp .ge z, 3) := by
  subst hv
  refine d_dec ?_
  delta Decoder.instr
  refine (d_bind h).trans ?_
  show (do Pure.pure (Instr.if_icmp .ge (← Reader.s2)) : dRd Instr) c (pc + 1) = _
  exact d_bind (d_s2 h1 h2)

set_option maxRecDepth 16384 in
set_option maxHeartbeats 4000000 in
theorem dq_163 {c : ByteArray} {pc : Nat} {a b : Nat} {z : Int} (h : (Reader.u1 : dRd Nat) c (pc) = .ok (163, pc + 1)) (h1 : (Reader.u1 : dRd Nat) c (pc + 1) = .ok (a, pc + 1 + 1)) (h2 : (Reader.u1 : dRd Nat) c (pc + 1 + 1) = .ok (b, pc + 1 + 1 + 1)) (hv : Reader.signed 16 (a * 256 + b) = z) : decode c pc = .ok (.if_icmp .gt z, 3) := by
  subst hv
  refine d_dec ?_
  delta Decoder.instr
  refine (d_bind h).trans ?_
  show (do Pure.pure (Instr.if_icmp .gt (← Reader.s2)) : dRd Instr) c (pc + 1) = _
  exact d_bind (d_s2 h1 h2)

set_option maxRecDepth 16384 in
set_option maxHeartbeats 4000000 in
theorem dq_164 {c : ByteArray} {pc : Nat} {a b : Nat} {z : Int} (h : (Reader.u1 : dRd Nat) c (pc) = .ok (164, pc + 1)) (h1 : (Reader.u1 : dRd Nat) c (pc + 1) = .ok (a, pc + 1 + 1)) (h2 : (Reader.u1 : dRd Nat) c (pc + 1 + 1) = .ok (b, pc + 1 + 1 + 1)) (hv : Reader.signed 16 (a * 256 + b) = z) : decode c pc = .ok (.if_icmp .le z, 3) := by
  subst hv
  refine d_dec ?_
  delta Decoder.instr
  refine (d_bind h).trans ?_
  show (do Pure.pure (Instr.if_icmp .le (← Reader.s2)) : dRd Instr) c (pc + 1) = _
  exact d_bind (d_s2 h1 h2)

set_option maxRecDepth 16384 in
set_option maxHeartbeats 4000000 in
theorem dq_167 {c : ByteArray} {pc : Nat} {a b : Nat} {z : Int} (h : (Reader.u1 : dRd Nat) c (pc) = .ok (167, pc + 1)) (h1 : (Reader.u1 : dRd Nat) c (pc + 1) = .ok (a, pc + 1 + 1)) (h2 : (Reader.u1 : dRd Nat) c (pc + 1 + 1) = .ok (b, pc + 1 + 1 + 1)) (hv : Reader.signed 16 (a * 256 + b) = z) : decode c pc = .ok (.goto z, 3) := by
  subst hv
  refine d_dec ?_
  delta Decoder.instr
  refine (d_bind h).trans ?_
  show (do Pure.pure (Instr.goto (← Reader.s2)) : dRd Instr) c (pc + 1) = _
  exact d_bind (d_s2 h1 h2)

set_option maxRecDepth 16384 in
set_option maxHeartbeats 4000000 in
theorem dq_172 {c : ByteArray} {pc : Nat} (h : (Reader.u1 : dRd Nat) c (pc) = .ok (172, pc + 1)) : decode c pc = .ok (.ireturn, 1) := by
  refine d_dec ?_
  delta Decoder.instr
  refine (d_bind h).trans ?_
  rfl

set_option maxRecDepth 16384 in
set_option maxHeartbeats 4000000 in
theorem dq_177 {c : ByteArray} {pc : Nat} (h : (Reader.u1 : dRd Nat) c (pc) = .ok (177, pc + 1)) : decode c pc = .ok (.return_, 1) := by
  refine d_dec ?_
  delta Decoder.instr
  refine (d_bind h).trans ?_
  rfl

set_option maxRecDepth 16384 in
set_option maxHeartbeats 4000000 in
theorem dq_178 {c : ByteArray} {pc : Nat} {v a b : Nat} (h : (Reader.u1 : dRd Nat) c (pc) = .ok (178, pc + 1)) (h1 : (Reader.u1 : dRd Nat) c (pc + 1) = .ok (a, pc + 1 + 1)) (h2 : (Reader.u1 : dRd Nat) c (pc + 1 + 1) = .ok (b, pc + 1 + 1 + 1)) (hv : a * 256 + b = v) : decode c pc = .ok (.getstatic v, 3) := by
  subst hv
  refine d_dec ?_
  delta Decoder.instr
  refine (d_bind h).trans ?_
  show (do Pure.pure (Instr.getstatic (← Reader.u2)) : dRd Instr) c (pc + 1) = _
  exact d_bind (d_u2 h1 h2)

set_option maxRecDepth 16384 in
set_option maxHeartbeats 4000000 in
theorem dq_180 {c : ByteArray} {pc : Nat} {v a b : Nat} (h : (Reader.u1 : dRd Nat) c (pc) = .ok (180, pc + 1)) (h1 : (Reader.u1 : dRd Nat) c (pc + 1) = .ok (a, pc + 1 + 1)) (h2 : (Reader.u1 : dRd Nat) c (pc + 1 + 1) = .ok (b, pc + 1 + 1 + 1)) (hv : a * 256 + b = v) : decode c pc = .ok (.getfield v, 3) := by
  subst hv
  refine d_dec ?_
  delta Decoder.instr
  refine (d_bind h).trans ?_
  show (do Pure.pure (Instr.getfield (← Reader.u2)) : dRd Instr) c (pc + 1) = _
  exact d_bind (d_u2 h1 h2)

set_option maxRecDepth 16384 in
set_option maxHeartbeats 4000000 in
theorem dq_181 {c : ByteArray} {pc : Nat} {v a b : Nat} (h : (Reader.u1 : dRd Nat) c (pc) = .ok (181, pc + 1)) (h1 : (Reader.u1 : dRd Nat) c (pc + 1) = .ok (a, pc + 1 + 1)) (h2 : (Reader.u1 : dRd Nat) c (pc + 1 + 1) = .ok (b, pc + 1 + 1 + 1)) (hv : a * 256 + b = v) : decode c pc = .ok (.putfield v, 3) := by
  subst hv
  refine d_dec ?_
  delta Decoder.instr
  refine (d_bind h).trans ?_
  show (do Pure.pure (Instr.putfield (← Reader.u2)) : dRd Instr) c (pc + 1) = _
  exact d_bind (d_u2 h1 h2)

set_option maxRecDepth 16384 in
set_option maxHeartbeats 4000000 in
theorem dq_182 {c : ByteArray} {pc : Nat} {v a b : Nat} (h : (Reader.u1 : dRd Nat) c (pc) = .ok (182, pc + 1)) (h1 : (Reader.u1 : dRd Nat) c (pc + 1) = .ok (a, pc + 1 + 1)) (h2 : (Reader.u1 : dRd Nat) c (pc + 1 + 1) = .ok (b, pc + 1 + 1 + 1)) (hv : a * 256 + b = v) : decode c pc = .ok (.invokevirtual v, 3) := by
  subst hv
  refine d_dec ?_
  delta Decoder.instr
  refine (d_bind h).trans ?_
  show (do Pure.pure (Instr.invokevirtual (← Reader.u2)) : dRd Instr) c (pc + 1) = _
  exact d_bind (d_u2 h1 h2)

set_option maxRecDepth 16384 in
set_option maxHeartbeats 4000000 in
theorem dq_183 {c : ByteArray} {pc : Nat} {v a b : Nat} (h : (Reader.u1 : dRd Nat) c (pc) = .ok (183, pc + 1)) (h1 : (Reader.u1 : dRd Nat) c (pc + 1) = .ok (a, pc + 1 + 1)) (h2 : (Reader.u1 : dRd Nat) c (pc + 1 + 1) = .ok (b, pc + 1 + 1 + 1)) (hv : a * 256 + b = v) : decode c pc = .ok (.invokespecial v, 3) := by
  subst hv
  refine d_dec ?_
  delta Decoder.instr
  refine (d_bind h).trans ?_
  show (do Pure.pure (Instr.invokespecial (← Reader.u2)) : dRd Instr) c (pc + 1) = _
  exact d_bind (d_u2 h1 h2)

set_option maxRecDepth 16384 in
set_option maxHeartbeats 4000000 in
theorem dq_184 {c : ByteArray} {pc : Nat} {v a b : Nat} (h : (Reader.u1 : dRd Nat) c (pc) = .ok (184, pc + 1)) (h1 : (Reader.u1 : dRd Nat) c (pc + 1) = .ok (a, pc + 1 + 1)) (h2 : (Reader.u1 : dRd Nat) c (pc + 1 + 1) = .ok (b, pc + 1 + 1 + 1)) (hv : a * 256 + b = v) : decode c pc = .ok (.invokestatic v, 3) := by
  subst hv
  refine d_dec ?_
  delta Decoder.instr
  refine (d_bind h).trans ?_
  show (do Pure.pure (Instr.invokestatic (← Reader.u2)) : dRd Instr) c (pc + 1) = _
  exact d_bind (d_u2 h1 h2)

set_option maxRecDepth 16384 in
set_option maxHeartbeats 4000000 in
theorem dq_187 {c : ByteArray} {pc : Nat} {v a b : Nat} (h : (Reader.u1 : dRd Nat) c (pc) = .ok (187, pc + 1)) (h1 : (Reader.u1 : dRd Nat) c (pc + 1) = .ok (a, pc + 1 + 1)) (h2 : (Reader.u1 : dRd Nat) c (pc + 1 + 1) = .ok (b, pc + 1 + 1 + 1)) (hv : a * 256 + b = v) : decode c pc = .ok (.new v, 3) := by
  subst hv
  refine d_dec ?_
  delta Decoder.instr
  refine (d_bind h).trans ?_
  show (do Pure.pure (Instr.new (← Reader.u2)) : dRd Instr) c (pc + 1) = _
  exact d_bind (d_u2 h1 h2)

set_option maxRecDepth 16384 in
set_option maxHeartbeats 4000000 in
theorem dq_188 {c : ByteArray} {pc : Nat} (h : (Reader.u1 : dRd Nat) c (pc) = .ok (188, pc + 1)) (h1 : (Reader.u1 : dRd Nat) c (pc + 1) = .ok (10, pc + 1 + 1)) : decode c pc = .ok (.newarray .int, 2) := by
  refine d_dec ?_
  delta Decoder.instr
  refine (d_bind h).trans ?_
  show (Decoder.newarray pc : dRd Instr) c (pc + 1) = _
  delta Decoder.newarray
  refine (d_bind h1).trans ?_
  rfl

set_option maxRecDepth 16384 in
set_option maxHeartbeats 4000000 in
theorem dq_190 {c : ByteArray} {pc : Nat} (h : (Reader.u1 : dRd Nat) c (pc) = .ok (190, pc + 1)) : decode c pc = .ok (.arraylength, 1) := by
  refine d_dec ?_
  delta Decoder.instr
  refine (d_bind h).trans ?_
  rfl

set_option maxRecDepth 16384 in
set_option maxHeartbeats 4000000 in
theorem dq_199 {c : ByteArray} {pc : Nat} {a b : Nat} {z : Int} (h : (Reader.u1 : dRd Nat) c (pc) = .ok (199, pc + 1)) (h1 : (Reader.u1 : dRd Nat) c (pc + 1) = .ok (a, pc + 1 + 1)) (h2 : (Reader.u1 : dRd Nat) c (pc + 1 + 1) = .ok (b, pc + 1 + 1 + 1)) (hv : Reader.signed 16 (a * 256 + b) = z) : decode c pc = .ok (.ifnonnull z, 3) := by
  subst hv
  refine d_dec ?_
  delta Decoder.instr
  refine (d_bind h).trans ?_
  show (do Pure.pure (Instr.ifnonnull (← Reader.s2)) : dRd Instr) c (pc + 1) = _
  exact d_bind (d_s2 h1 h2)
