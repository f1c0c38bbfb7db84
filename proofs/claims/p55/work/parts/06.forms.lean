/-! ===== pm: forms of the rules for a program that prints ===== -/
section PM6
variable {M : pm_M} {G : pm_G} {B pc pc' : Nat} {loc loc' : List (Option Value)} {st : List Value} {cs zs cnt : Nat} {σ : pm_S}
theorem pm_top {x v : Int32} (h : x = v) (k : pm_wp M G B pc loc (.int v :: st) cs zs cnt σ) : pm_wp M G B pc loc (.int x :: st) cs zs cnt σ := h ▸ k
theorem pm_topl {x v : Int64} (h : x = v) (k : pm_wp M G B pc loc (.long v :: st) cs zs cnt σ) : pm_wp M G B pc loc (.long x :: st) cs zs cnt σ := h ▸ k
theorem pm_nums {cs' zs' cnt' : Nat} (h1 : cs = cs') (h2 : zs = zs') (h3 : cnt = cnt') (k : pm_wp M G B pc loc st cs' zs' cnt' σ) : pm_wp M G B pc loc st cs zs cnt σ := by
  subst h1; subst h2; subst h3; exact k
def pm_c1B (loc : List (Option Value)) (i : Nat) : Bool := match i with
  | 0 => true
  | j + 1 => match loc[j]? with
    | some (some u) => u.category == 1
    | _ => true
theorem pm_c1b {i : Nat} (h : pm_c1B loc i = true) : pm_c1 loc i := by
  intro j u hi hj
  subst hi
  simp only [pm_c1B, hj] at h
  exact beq_iff_eq.mp h
theorem pm_inb {i : Int32} {n : Nat} (h : ¬ (i < 0 ∨ n ≤ i.toNatClampNeg)) : vp_in i n := h
theorem pm_istoreXn {k : Fin 4} {x : Int32} (hG : pm_ok M G B) (hd : pm_dec M pc (.istore_n k, 1) pc') (hn : (k : Nat) < M.2.2.1) (hc : pm_c1 loc k) (hl : loc.set k (some (.int x)) = loc') (kk : pm_wp M G B pc' loc' st cs zs cnt σ) : pm_wp M G B pc loc (.int x :: st) cs zs cnt σ := pm_istoren hG hd hn hc (hl ▸ kk)
theorem pm_istoreXi {i : Nat} {x : Int32} (hG : pm_ok M G B) (hd : pm_dec M pc (.istore i, 2) pc') (hn : i < M.2.2.1) (hc : pm_c1 loc i) (hl : loc.set i (some (.int x)) = loc') (kk : pm_wp M G B pc' loc' st cs zs cnt σ) : pm_wp M G B pc loc (.int x :: st) cs zs cnt σ := pm_istorei hG hd hn hc (hl ▸ kk)
theorem pm_astoreXn {k : Fin 4} {x : Nat} (hG : pm_ok M G B) (hd : pm_dec M pc (.astore_n k, 1) pc') (hn : (k : Nat) < M.2.2.1) (hc : pm_c1 loc k) (hl : loc.set k (some (.ref x)) = loc') (kk : pm_wp M G B pc' loc' st cs zs cnt σ) : pm_wp M G B pc loc (.ref x :: st) cs zs cnt σ := pm_astoren hG hd hn hc (hl ▸ kk)
theorem pm_astoreXi {i : Nat} {x : Nat} (hG : pm_ok M G B) (hd : pm_dec M pc (.astore i, 2) pc') (hn : i < M.2.2.1) (hc : pm_c1 loc i) (hl : loc.set i (some (.ref x)) = loc') (kk : pm_wp M G B pc' loc' st cs zs cnt σ) : pm_wp M G B pc loc (.ref x :: st) cs zs cnt σ := pm_astorei hG hd hn hc (hl ▸ kk)
theorem pm_lstoreXn {k : Fin 4} {x : Int64} (hG : pm_ok M G B) (hd : pm_dec M pc (.lstore_n k, 1) pc') (hn : (k : Nat) + 1 < M.2.2.1) (hc : pm_c1 loc k) (hl : (loc.set k (some (.long x))).set (k + 1) none = loc') (kk : pm_wp M G B pc' loc' st cs zs cnt σ) : pm_wp M G B pc loc (.long x :: st) cs zs cnt σ := pm_lstoren hG hd hn hc (hl ▸ kk)
theorem pm_iincX {i : Nat} {n : Int} {x v : Int32} (hG : pm_ok M G B) (hd : pm_dec M pc (.iinc i n, 3) pc') (h0 : loc[i]? = some (some (.int x))) (hv : x + Int32.ofInt n = v) (hn : i < M.2.2.1) (hc : pm_c1 loc i) (hl : loc.set i (some (.int v)) = loc') (kk : pm_wp M G B pc' loc' st cs zs cnt σ) : pm_wp M G B pc loc st cs zs cnt σ := pm_iinci hG hd h0 hv hn hc (hl ▸ kk)
theorem pm_ialdX {a n : Nat} {f : Nat → Int32} {i v : Int32} (hG : pm_ok M G B) (hd : pm_dec M pc (.iaload, 1) pc') (ha : σ a = some (.inl (n, f))) (hi : vp_in i n) (hv : f i.toNatClampNeg = v) (kk : pm_wp M G B pc' loc (.int v :: st) cs zs cnt σ) : pm_wp M G B pc loc (.int i :: .ref (B + a) :: st) cs zs cnt σ := pm_iald hG hd ha hi (hv ▸ kk)
end PM6
section PM7
variable {M : pm_M} {G : pm_G} {B pc pc' : Nat} {loc loc' : List (Option Value)} {st : List Value} {cs zs cnt : Nat} {σ : pm_S}
def pm_mw (n : MethodName) (b : ByteArray) (k : Nat) : Prop := Cond.static n ∈ pm_tbl ∧ Cond.initialized "java/lang/Math" ∈ pm_tbl ∧ Cond.code n b k (some .int) ∈ pm_tbl
theorem pm_mmin {i d mc ms : Nat} {x y : Int32} (hG : pm_ok M G B) (hR : pm_rm G d mc ms) (hd : pm_dec M pc (.invokestatic i, 3) pc') (hl : Cond.methodLink M.1.cls i Lib.Math.min.name ∈ pm_tbl) (hm : pm_mw Lib.Math.min.name Lib.Math.min.code 2) (hd1 : 1 ≤ d) (hw : (st.map fun v => v.category).sum ≤ 8) (hcs : cs ≤ mc) (hzs : zs ≤ ms) (kk : pm_wp M G B pc' loc (.int (if y < x then y else x) :: st) cs zs cnt σ) : pm_wp M G B pc loc (.int y :: .int x :: st) cs zs cnt σ := by
  obtain ⟨hd, rfl⟩ := hd
  intro H ls locs h1 h2 h3 h4
  have h6 := hR.2.1
  exact va_mmin hG.x hG.b (hG.ml.trans h3.1.symm) hG.own (hG.ts _ hl) (hG.ts _ hm.1) (hG.ts _ hm.2.1) (hG.ts _ hm.2.2) (Nat.le_trans hd1 hR.1) (by omega) (Nat.le_trans hcs hR.2.2.1) (Nat.le_trans hzs hR.2.2.2) hd (kk H ls locs h1 h2 h3 h4)
theorem pm_mmax {i d mc ms : Nat} {x y : Int32} (hG : pm_ok M G B) (hR : pm_rm G d mc ms) (hd : pm_dec M pc (.invokestatic i, 3) pc') (hl : Cond.methodLink M.1.cls i Lib.Math.max.name ∈ pm_tbl) (hm : pm_mw Lib.Math.max.name Lib.Math.max.code 2) (hd1 : 1 ≤ d) (hw : (st.map fun v => v.category).sum ≤ 8) (hcs : cs ≤ mc) (hzs : zs ≤ ms) (kk : pm_wp M G B pc' loc (.int (if x < y then y else x) :: st) cs zs cnt σ) : pm_wp M G B pc loc (.int y :: .int x :: st) cs zs cnt σ := by
  obtain ⟨hd, rfl⟩ := hd
  intro H ls locs h1 h2 h3 h4
  have h6 := hR.2.1
  exact va_mmax hG.x hG.b (hG.ml.trans h3.1.symm) hG.own (hG.ts _ hl) (hG.ts _ hm.1) (hG.ts _ hm.2.1) (hG.ts _ hm.2.2) (Nat.le_trans hd1 hR.1) (by omega) (Nat.le_trans hcs hR.2.2.1) (Nat.le_trans hzs hR.2.2.2) hd (kk H ls locs h1 h2 h3 h4)
def pm_cw : Prop := Cond.native arraycopyName ∈ pm_tbl ∧ Cond.static arraycopyName ∈ pm_tbl ∧ Cond.initialized "java/lang/System" ∈ pm_tbl
/-- System.arraycopy of ints -/
theorem pm_acopy {i d mc ms a0 a1 n0 n1 : Nat} {f g : Nat → Int32} {sp dp n : Int32} (hG : pm_ok M G B) (hR : pm_rm G d mc ms) (hd : pm_dec M pc (.invokestatic i, 3) pc') (hl : Cond.methodLink M.1.cls i arraycopyName ∈ pm_tbl) (hm : pm_cw) (hd1 : 1 ≤ d) (hw : (st.map fun v => v.category).sum ≤ 8) (ha0 : σ a0 = some (.inl (n0, f))) (ha1 : σ a1 = some (.inl (n1, g)))
    (g1 : ¬ sp < 0) (g2 : ¬ dp < 0) (g3 : ¬ n < 0) (g4 : sp.toNatClampNeg + n.toNatClampNeg ≤ n0) (g5 : dp.toNatClampNeg + n.toNatClampNeg ≤ n1)
    (kk : pm_wp M G B pc' loc st cs zs cnt (pm_up σ a1 (.inl (n1, va_cpy f g sp.toNatClampNeg dp.toNatClampNeg n.toNatClampNeg)))) : pm_wp M G B pc loc (.int n :: .int dp :: .ref (B + a1) :: .int sp :: .ref (B + a0) :: st) cs zs cnt σ := by
  obtain ⟨hd, rfl⟩ := hd
  intro H ls locs h1 h2 h3 h4
  have nn : ∀ z : Int32, ¬ z < 0 → z.toInt = (z.toNatClampNeg : Int) := by
    intro z hz
    have hz0 : (0 : Int) ≤ z.toInt := by
      have := Int32.not_lt.mp hz
      simpa using Int32.le_iff_toInt_le.mp this
    show z.toInt = ((z.toInt.toNat : Nat) : Int)
    omega
  intro T hT X
  have hc0 : H[B + a0]? = some (vp_cell G.2.1.2 (n0, .inl f)) := h1.2 a0 _ ha0
  have hc1 : H[B + a1]? = some (vp_cell G.2.1.2 (n1, .inl g)) := h1.2 a1 _ ha1
  obtain ⟨-, k0, hk0, cm0, hkk0⟩ := (hG.env.1.2 0 _ rfl).1 n0 (fun j => .int (f j))
  have h6 := hR.2.1
  have h7 : nativeFrameWords "java/lang/System" "arraycopy" 5 + 11 + 8 ≤ 40 := by decide
  obtain ⟨vm', X', step⟩ := X.arraycopy hG.x hG.own (hG.ts _ hl) (hG.ts _ hm.1) (hG.ts _ hm.2.1) (hG.ts _ hm.2.2) (src := B + a0) (dst := B + a1) (cs := vp_cell G.2.1.2 (n0, .inl f)) (cd := vp_cell G.2.1.2 (n1, .inl g)) (srcPos := sp) (destPos := dp) (n := n) (by rw [hT]; exact hc0) (by rw [hT]; exact hc1)
    (fun _ h => by cases h) (fun _ h => by cases h) (fun h => by cases h) (fun h => by cases h) hk0 hk0 hkk0 hkk0 (by simp [show refKind .int = false from rfl]) g1 g2 g3
    (by rw [nn sp g1, nn n g3]; show ¬ _ > ((arrV G.2.1.2 n0 (fun j => .int (f j))).slots.size : Int); rw [arrV_size]; omega)
    (by rw [nn dp g2, nn n g3]; show ¬ _ > ((arrV G.2.1.2 n1 (fun j => .int (g j))).slots.size : Int); rw [arrV_size]; omega)
    (fun vm₁ _ i hi => by
      have e : (vp_cell G.2.1.2 (n0, .inl f)).slots.getD (sp.toNatClampNeg + i) .null = .int (f (sp.toNatClampNeg + i)) := by
        show (arrV G.2.1.2 n0 (fun j => .int (f j))).slots.getD _ _ = _
        rw [Array.getD_eq_getD_getElem?, arrV_read _ _ (by omega)]
        rfl
      refine ⟨?_, ?_⟩
      · rw [e]
        rfl
      · rw [e]
        exact trivial)
    (g := F0 (pm_m G) pc ls (.int n :: .int dp :: .ref (B + a1) :: .int sp :: .ref (B + a0) :: st)) rfl (by rw [hG.ml]; exact h3.1) (rest := st) rfl (by rw [hG.b]; exact hd) (Nat.le_trans hd1 hR.1) (by show 2 * 0 + _ + _ ≤ _; omega)
  have e1 : copied (vp_cell G.2.1.2 (n0, .inl f)) (vp_cell G.2.1.2 (n1, .inl g)) sp dp n = vp_cell G.2.1.2 (n1, .inl (va_cpy f g sp.toNatClampNeg dp.toNatClampNeg n.toNatClampNeg)) := va_copied (fun z => .int z) G.2.1.2 G.2.1.2 f g g4
  rw [e1] at X' step
  have hl : B + a1 < H.size := (Array.getElem?_eq_some_iff.mp hc1).1
  have hheap : ((T.setVm vm').setCell (B + a1) (vp_cell G.2.1.2 (n1, .inl (va_cpy f g sp.toNatClampNeg dp.toNatClampNeg n.toNatClampNeg)))).heap = H.setIfInBounds (B + a1) (vp_cell G.2.1.2 (n1, .inl (va_cpy f g sp.toNatClampNeg dp.toNatClampNeg n.toNatClampNeg))) := by rw [← hT]; rfl
  have oq : ∀ q : Nat, q ≠ B + a1 → (H.setIfInBounds (B + a1) (vp_cell G.2.1.2 (n1, .inl (va_cpy f g sp.toNatClampNeg dp.toNatClampNeg n.toNatClampNeg))))[q]? = H[q]? := fun q hq => by simp [Array.getElem?_setIfInBounds, Ne.symm hq]
  obtain ⟨t, b1, b2⟩ := kk _ ls _ (h1.put (x := .inl (n1, va_cpy f g sp.toNatClampNeg dp.toNatClampNeg n.toNatClampNeg)) (show (H.setIfInBounds (B + a1) _)[B + a1]? = some _ by simp [Array.getElem?_setIfInBounds, hl]; rfl) (by simp) oq) (fun q hq => (oq q (Nat.ne_of_lt (Nat.lt_of_lt_of_le hq (Nat.le_add_right B a1)))).trans (h2 q hq)) h3 (fun q hq => by
      rcases List.mem_append.mp hq with h | h
      · exact h4 q h
      · obtain ⟨z, -, hz⟩ := List.mem_map.mp h
        rw [← hz]
        exact Nat.le_add_right B a1) _ hheap X'
  exact ⟨t, step t b1, b2⟩
end PM7
