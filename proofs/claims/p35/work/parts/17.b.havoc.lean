/-! ===== the class's good states, and what a call leaves ===== -/
def gs (I : Nat → Int32) : Prop := ∀ q ∈ gcT, ∃ k : Nat, k ≤ q.2 ∧ I q.1 = nI k
def gqT : List Nat := [2, 6, 102, 18]
/-- a good state whose compared numbers are ε's -/
def gq (ε I : Nat → Int32) : Prop := gs I ∧ ∀ k ∈ gqT, I k = ε k
theorem gq.used {ε I : Nat → Int32} (h : gq ε I) (a n : Nat) (hm : (a, n) ∈ gcT) : ∃ k : Nat, k ≤ n ∧ I a = nI k := h.1 (a, n) hm
theorem gq.wi {ε I : Nat → Int32} {k : Nat} {v : Int32} (hk : (gcT.all (fun q => q.1 != k) && gqT.all (fun q => q != k)) = true) (h : gq ε I) : gq ε (ui I k v) := by
  simp only [Bool.and_eq_true, List.all_eq_true, bne_iff_ne] at hk
  refine ⟨fun q hq => ?_, fun q hq => ?_⟩
  · rw [ui_ne (hk.1 q hq)]; exact h.1 q hq
  · rw [ui_ne (hk.2 q hq)]; exact h.2 q hq
theorem gq.wT {ε I : Nat → Int32} {k : Nat} {v : Int32} (n j : Nat) (hT : (gcT.all (fun q => q.1 != k || q.2 == n) && gqT.all (fun q => q != k)) = true) (hj : j ≤ n) (hv : v = nI j) (h : gq ε I) : gq ε (ui I k v) := by
  simp only [Bool.and_eq_true, List.all_eq_true, bne_iff_ne, Bool.or_eq_true, beq_iff_eq] at hT
  refine ⟨fun q hq => ?_, fun q hq => ?_⟩
  · by_cases e1 : q.1 = k
    · rcases hT.1 q hq with h1 | h1
      · exact absurd e1 h1
      · rw [e1, h1]; exact ⟨j, hj, by rw [ui_eq]; exact hv⟩
    · rw [ui_ne e1]; exact h.1 q hq
  · rw [ui_ne (hT.2 q hq)]; exact h.2 q hq
def hvq (ε : Nat → Int32) (B : Nat) (kp : pm_KP) (ρ : pm_S) (cnt : Nat) (σ' : pm_S) (cnt' : Nat) : Prop := ∃ (I' : Nat → Int32) (A' : Nat → Nat → Int32), σ' = pm_two (cl_L B kp I' A') ρ ∧ cnt = cnt' ∧ gq ε I'
theorem hv_id {ε : Nat → Int32} {B cnt cnt' : Nat} {kp : pm_KP} {ρ σ' : pm_S} {I : Nat → Int32} {A : Nat → Nat → Int32} (h : gq ε I) (hq : σ' = pm_two (cl_L B kp I A) ρ ∧ cnt' = cnt) : hvq ε B kp ρ cnt σ' cnt' := ⟨I, A, hq.1, hq.2.symm, h⟩
theorem pm_nz {v : Int32} (h : v = 0 ∨ v = 1) : narrow .boolean (.int v) = .int v := by rcases h with rfl | rfl <;> rfl
theorem pm_b01 {v : Int32} {p : Prop} [Decidable p] (h : v = if p then 0 else 1) : v = 0 ∨ v = 1 := by
  rw [h]; split
  · exact Or.inl rfl
  · exact Or.inr rfl
theorem pm_b10 {v : Int32} {p : Prop} [Decidable p] (h : v = if p then 1 else 0) : v = 0 ∨ v = 1 := by
  rw [h]; split
  · exact Or.inr rfl
  · exact Or.inl rfl
theorem pm_fg {M : pm_M} {G : pm_G} {B pc : Nat} {loc loc' : List (Option Value)} {st : List Value} {cs zs cnt : Nat} {σ : pm_S} (i : Nat) (h : loc.set i none = loc') (k : pm_wp M G B pc loc' st cs zs cnt σ) : pm_wp M G B pc loc st cs zs cnt σ := by
  refine pm_fl0 (loc' := loc') (fun j v hj => ?_) k
  rw [← h, List.getElem?_set] at hj
  split at hj
  · split at hj <;> simp at hj
  · exact hj
theorem pm_a1 {x : Int32} (h : x.toInt < 2147483647) : (x + 1).toInt = x.toInt + 1 := by
  have h0 := Int32.le_toInt x
  rw [Int32.toInt_add, show (1 : Int32).toInt = 1 from rfl]
  exact Int.bmod_eq_of_le (by omega) (by omega)
theorem pm_s1 {x : Int32} (h : -2147483648 < x.toInt) : (x + (-1)).toInt = x.toInt - 1 := by
  have h0 := Int32.toInt_lt x
  rw [Int32.toInt_add, show (-1 : Int32).toInt = -1 from rfl]
  exact Int.bmod_eq_of_le (by omega) (by omega)
theorem pm_mu1 {x b : Int32} (h : ¬ b ≤ x) : (b.toInt - (x + 1).toInt).toNat < (b.toInt - x.toInt).toNat := by
  rw [Int32.le_iff_toInt_le] at h
  have h0 := Int32.toInt_lt b
  rw [pm_a1 (by omega)]; omega
theorem pm_mu2 {x b : Int32} (h : ¬ b < x) (hb : b.toInt < 2147483647) : (b.toInt + 1 - (x + 1).toInt).toNat < (b.toInt + 1 - x.toInt).toNat := by
  rw [Int32.lt_iff_toInt_lt] at h
  rw [pm_a1 (by omega)]; omega
theorem pm_md1 {x b : Int32} (h : ¬ x < b) (hb : -2147483648 < b.toInt) : ((x + (-1)).toInt + 1 - b.toInt).toNat < (x.toInt + 1 - b.toInt).toNat := by
  rw [Int32.lt_iff_toInt_lt] at h
  rw [pm_s1 (by omega)]; omega
theorem pm_md2 {x b : Int32} (h : ¬ x ≤ b) : ((x + (-1)).toInt - b.toInt).toNat < (x.toInt - b.toInt).toNat := by
  rw [Int32.le_iff_toInt_le] at h
  have h0 := Int32.le_toInt b
  rw [pm_s1 (by omega)]; omega
theorem pm_ibt {i : Int32} {n : Nat} (h : 0 ≤ i.toInt ∧ i.toInt < n) : vp_in i n := by rw [vp_in_iff]; exact h
theorem pm_any {M : pm_M} {G : pm_G} {B pc : Nat} {loc : List (Option Value)} {st : List Value} {cs zs cnt : Nat} {σ : pm_S} {x : Int32} (h : ∀ v : Int32, pm_wp M G B pc loc (.int v :: st) cs zs cnt σ) : pm_wp M G B pc loc (.int x :: st) cs zs cnt σ := h x
theorem pm_hasC {k n : Nat} {u v : Int32} (r : Nat) (hk : k ≤ n) (hu : u = nI k) (hn : n ≤ r) (hr : r < 2 ^ 31) (h : v = if nI r < 0 ∨ u ≤ nI r then 0 else 1) : v = 0 := by
  rw [h, if_pos]
  right
  rw [hu]; exact nI_le (by omega) hr
theorem pm_outL {v x a b : Int32} (o : v = if x < a ∨ b < x then 1 else 0) (c : v = 0) : ¬ x < a := fun q => by
  rw [c, if_pos (Or.inl q)] at o; exact absurd o (by decide)
theorem pm_outR {v x a b : Int32} (o : v = if x < a ∨ b < x then 1 else 0) (c : v = 0) : ¬ b < x := fun q => by
  rw [c, if_pos (Or.inr q)] at o; exact absurd o (by decide)
theorem pm_sd1 {x b : Int32} (c : ¬ b ≤ x) (h : ¬ x < 0) : ¬ x + 1 < 0 := by
  rw [Int32.le_iff_toInt_le] at c
  rw [Int32.lt_iff_toInt_lt, show (0 : Int32).toInt = 0 from rfl] at h ⊢
  have h0 := Int32.toInt_lt b
  rw [pm_a1 (by omega)]; omega
theorem pm_sd2 {x b : Int32} (c : ¬ x < 0) (h : ¬ b < x) : ¬ b < x + (-1) := by
  rw [Int32.lt_iff_toInt_lt, show (0 : Int32).toInt = 0 from rfl] at c
  rw [Int32.lt_iff_toInt_lt] at h ⊢
  rw [pm_s1 (by omega)]; omega
theorem pm_and63 (x : Int32) : ¬ x &&& 63 < 0 ∧ ¬ 64 ≤ x &&& 63 := by
  have h : (x &&& 63).toInt = ((x.toBitVec &&& 63#32).toNat : Int) := by
    rw [Int32.toInt, Int32.toBitVec_and, BitVec.toInt_eq_toNat_of_lt]
    · rfl
    · have := Nat.and_le_right (n := x.toBitVec.toNat) (m := 63)
      show 2 * (x.toBitVec &&& 63#32).toNat < 2 ^ 32
      rw [BitVec.toNat_and]
      show 2 * (x.toBitVec.toNat &&& 63) < 2 ^ 32
      omega
  have h2 : (x.toBitVec &&& 63#32).toNat ≤ 63 := by
    rw [BitVec.toNat_and]; exact Nat.and_le_right
  rw [Int32.lt_iff_toInt_lt, Int32.le_iff_toInt_le, show (0 : Int32).toInt = 0 from rfl, show (64 : Int32).toInt = 64 from rfl, h]
  omega
/-- the static array ABOVE -/
def pm_isAb (G : pm_G) (B z : Nat) : Prop := va_T .int z 6 (fun j => .int (pm_ab.getD j 0)) (fun q => B ≤ q) (pm_s G) (pm_s G).heap
section PMAB
variable {M : pm_M} {G : pm_G} {B pc pc' : Nat} {loc : List (Option Value)} {st : List Value} {cs zs cnt : Nat} {σ : pm_S}
theorem pm_gsAb {i : Nat} {host : String} (hG : pm_ok M G B) (hd : pm_dec M pc (.getstatic i, 3) pc') (hl : Cond.fieldLinkNest M.1.cls i "SealCouncil" "ABOVE" "[I" host ∈ pm_nest) (kk : ∀ z : Nat, pm_isAb G B z → pm_wp M G B pc' loc (.ref z :: st) cs zs cnt σ) : pm_wp M G B pc loc st cs zs cnt σ := by
  obtain ⟨hd, rfl⟩ := hd
  obtain ⟨⟨z, ⟨cf, kf, fi, f, a, cell, e1, e2, e3, e4, e5, e6, e7, e8⟩, hT⟩, -⟩ := hG.ow
  intro H ls locs h1 h2 h3 h4
  exact va_WgetsN hG.x hG.b hG.own (va_Nw.use rfl (hG.env.2 _ hl)) e1 e2 e3 e4 (by rw [h2 a (Nat.lt_of_not_le e8)]; exact e5) (fun e => by rw [e] at e6; cases e6) e7 rfl hd (kk z hT H ls locs h1 h2 h3 h4)
theorem pm_abLen {z : Nat} (hG : pm_ok M G B) (hd : pm_dec M pc (.arraylength, 1) pc') (hz : pm_isAb G B z) (kk : pm_wp M G B pc' loc (.int 6 :: st) cs zs cnt σ) : pm_wp M G B pc loc (.ref z :: st) cs zs cnt σ := by
  obtain ⟨hd, rfl⟩ := hd
  obtain ⟨cell, e1, e2, e3, e4, e5, e6, e7⟩ := hz
  intro H ls locs h1 h2 h3 h4
  exact W.alen (n := Int32.ofNat 6) hG.x hG.b (by rw [h2 z (Nat.lt_of_not_le e7)]; exact e1) e2 e5 rfl rfl hd (kk H ls locs h1 h2 h3 h4)
theorem pm_abLd {z : Nat} {i : Int32} (hG : pm_ok M G B) (hd : pm_dec M pc (.iaload, 1) pc') (hz : pm_isAb G B z) (hin : vp_in i 6) (kk : ∀ v : Int32, pm_wp M G B pc' loc (.int v :: st) cs zs cnt σ) : pm_wp M G B pc loc (.int i :: .ref z :: st) cs zs cnt σ := by
  obtain ⟨hd, rfl⟩ := hd
  obtain ⟨cell, e1, e2, e3, e4, e5, e6, e7⟩ := hz
  intro H ls locs h1 h2 h3 h4
  have hlt : i.toNatClampNeg < 6 := Nat.not_le.mp fun q => hin (Or.inr q)
  have hin' : ¬ (i < 0 ∨ cell.slots.size ≤ i.toNatClampNeg) := by
    intro q
    rcases q with q | q
    · exact hin (Or.inl q)
    · omega
  exact W.iald (v := .int (pm_ab.getD i.toNatClampNeg 0)) hG.x hG.b (by rw [h2 z (Nat.lt_of_not_le e7)]; exact e1) e2 e3 hin' (by rw [e6 _ hlt]) rfl rfl hd (kk _ H ls locs h1 h2 h3 h4)
end PMAB
theorem pm_ibm {x : Int32} {n : Nat} (h : 1 ≤ x.toInt ∧ x.toInt ≤ n) : vp_in (x - 1) n := by
  have h0 := Int32.toInt_lt x
  rw [vp_in_iff, Int32.toInt_sub, show (1 : Int32).toInt = 1 from rfl, Int.bmod_eq_of_le (by omega) (by omega)]
  omega
theorem pm_tr {R W : Nat} {r a k : Int32} (hR : R < 2 ^ 31) (hW : W < 2 ^ 31) (hn : R * W < 2 ^ 31) (h1 : ¬ r < 0) (h2 : ¬ nI R ≤ r) (h3 : ¬ a < 0) (h4 : ¬ k < 0) (h5 : ¬ nI W - k < a) : ¬ r * nI W + a < 0 ∧ (r * nI W + a).toNatClampNeg + k.toNatClampNeg ≤ R * W := by
  obtain ⟨i, hi, rfl⟩ := (pk_ix r hR).resolve_left h1 |>.resolve_left h2
  obtain ⟨x, hx, rfl⟩ := nI_of h3
  obtain ⟨y, hy, rfl⟩ := nI_of h4
  have h6 : x + y ≤ W := by
    rw [Int32.lt_iff_toInt_lt, Int32.toInt_sub, nI_toInt hW, nI_toInt hy, nI_toInt hx, Int.bmod_eq_of_le (by omega) (by omega)] at h5
    omega
  have h7 : (i + 1) * W ≤ R * W := Nat.mul_le_mul_right W hi
  rw [Nat.succ_mul] at h7
  rw [pk_mul, nI_add, nI_clamp (by omega), nI_clamp hy]
  exact ⟨nI_pos (by omega), by omega⟩
theorem pm_ib2 {i b : Int32} {n : Nat} (hb : b.toInt = n) (h0 : ¬ i < 0) (h1 : ¬ b ≤ i) : vp_in i n := by
  rw [Int32.lt_iff_toInt_lt, show (0 : Int32).toInt = 0 from rfl] at h0
  rw [Int32.le_iff_toInt_le] at h1
  rw [vp_in_iff]; omega
set_option maxRecDepth 100000 in
theorem gj_bitCount {d B cnt : Nat} {σ : pm_S} {x : Int32} : pm_met mJ6_bitCount_0f7a4 d 0 0 B [.int x] cnt σ (pm_Qi (fun _ σ' cnt' => σ' = σ ∧ cnt' = cnt)) := by
  refine pm_enter 0 (by decide) (Nat.le_of_ble_eq_true rfl) rfl (fun G hG hR hF => ?_)
  refine pm_iloadn hG dJ6_bitCount_0f7a4_0 rfl ?_
  refine pm_iloadn hG dJ6_bitCount_0f7a4_1 rfl ?_
  refine pm_iconst (v := 1) hG dJ6_bitCount_0f7a4_2 (by decide) ?_
  refine pm_iushr hG dJ6_bitCount_0f7a4_3 rfl ?_
  refine pm_any (fun v1 => ?_)
  refine pm_ldcw hG dJ6_bitCount_0f7a4_4 (ctJ6_265 _ rfl) ?_
  refine pm_iand hG dJ6_bitCount_0f7a4_7 ?_
  refine pm_any (fun v2 => ?_)
  refine pm_isub hG dJ6_bitCount_0f7a4_8 ?_
  refine pm_any (fun v3 => ?_)
  refine pm_istoreXn (loc' := [some (.int v3)]) hG dJ6_bitCount_0f7a4_9 (by decide) (pm_c1b rfl) rfl ?_
  refine pm_iloadn hG dJ6_bitCount_0f7a4_10 rfl ?_
  refine pm_ldcw hG dJ6_bitCount_0f7a4_11 (ctJ6_266 _ rfl) ?_
  refine pm_iand hG dJ6_bitCount_0f7a4_14 ?_
  refine pm_any (fun v4 => ?_)
  refine pm_iloadn hG dJ6_bitCount_0f7a4_15 rfl ?_
  refine pm_iconst (v := 2) hG dJ6_bitCount_0f7a4_16 (by decide) ?_
  refine pm_iushr hG dJ6_bitCount_0f7a4_17 rfl ?_
  refine pm_any (fun v5 => ?_)
  refine pm_ldcw hG dJ6_bitCount_0f7a4_18 (ctJ6_266 _ rfl) ?_
  refine pm_iand hG dJ6_bitCount_0f7a4_21 ?_
  refine pm_any (fun v6 => ?_)
  refine pm_iadd hG dJ6_bitCount_0f7a4_22 ?_
  refine pm_any (fun v7 => ?_)
  refine pm_istoreXn (loc' := [some (.int v7)]) hG dJ6_bitCount_0f7a4_23 (by decide) (pm_c1b rfl) rfl ?_
  refine pm_iloadn hG dJ6_bitCount_0f7a4_24 rfl ?_
  refine pm_iloadn hG dJ6_bitCount_0f7a4_25 rfl ?_
  refine pm_iconst (v := 4) hG dJ6_bitCount_0f7a4_26 (by decide) ?_
  refine pm_iushr hG dJ6_bitCount_0f7a4_27 rfl ?_
  refine pm_any (fun v8 => ?_)
  refine pm_iadd hG dJ6_bitCount_0f7a4_28 ?_
  refine pm_any (fun v9 => ?_)
  refine pm_ldcw hG dJ6_bitCount_0f7a4_29 (ctJ6_267 _ rfl) ?_
  refine pm_iand hG dJ6_bitCount_0f7a4_32 ?_
  refine pm_any (fun v10 => ?_)
  refine pm_istoreXn (loc' := [some (.int v10)]) hG dJ6_bitCount_0f7a4_33 (by decide) (pm_c1b rfl) rfl ?_
  refine pm_iloadn hG dJ6_bitCount_0f7a4_34 rfl ?_
  refine pm_iloadn hG dJ6_bitCount_0f7a4_35 rfl ?_
  refine pm_bipush (v := 8) hG dJ6_bitCount_0f7a4_36 (by decide) ?_
  refine pm_iushr hG dJ6_bitCount_0f7a4_38 rfl ?_
  refine pm_any (fun v11 => ?_)
  refine pm_iadd hG dJ6_bitCount_0f7a4_39 ?_
  refine pm_any (fun v12 => ?_)
  refine pm_istoreXn (loc' := [some (.int v12)]) hG dJ6_bitCount_0f7a4_40 (by decide) (pm_c1b rfl) rfl ?_
  refine pm_iloadn hG dJ6_bitCount_0f7a4_41 rfl ?_
  refine pm_iloadn hG dJ6_bitCount_0f7a4_42 rfl ?_
  refine pm_bipush (v := 16) hG dJ6_bitCount_0f7a4_43 (by decide) ?_
  refine pm_iushr hG dJ6_bitCount_0f7a4_45 rfl ?_
  refine pm_any (fun v13 => ?_)
  refine pm_iadd hG dJ6_bitCount_0f7a4_46 ?_
  refine pm_any (fun v14 => ?_)
  refine pm_istoreXn (loc' := [some (.int v14)]) hG dJ6_bitCount_0f7a4_47 (by decide) (pm_c1b rfl) rfl ?_
  refine pm_iloadn hG dJ6_bitCount_0f7a4_48 rfl ?_
  refine pm_bipush (v := 63) hG dJ6_bitCount_0f7a4_49 (by decide) ?_
  refine pm_iand hG dJ6_bitCount_0f7a4_51 ?_
  refine pm_any (fun v15 => ?_)
  exact pm_iret hG hF dJ6_bitCount_0f7a4_52 rfl (by decide) (by decide) ⟨_, rfl, rfl, rfl⟩
set_option maxRecDepth 100000 in
theorem tb_transfer {d B cnt t c n R W : Nat} {σ : pm_S} {used : Int32} {f : Nat → Int32} {ra fr rb to k : Int32} (hdd : 1 ≤ d) (ht : σ t = some (.inr (9, [.int (nI R), .int (nI W), .ref (B + c), .int used]))) (hc : σ c = some (.inl (n, f))) (hn : n = R * W) (hR0 : R < 2 ^ 31) (hW0 : W < 2 ^ 31) (hn0 : R * W < 2 ^ 31) (htc : t ≠ c) : pm_met mX9_transfer d 0 0 B [.ref (B + t), .int ra, .int fr, .int rb, .int to, .int k] cnt σ (pm_Qv (fun σ' cnt' => (∃ g, σ' = pm_up σ c (.inl (n, g))) ∧ cnt' = cnt)) := by
  refine pm_enter 2 (by decide) (Nat.le_of_ble_eq_true rfl) rfl (fun G hG hR hF => ?_)
  subst hn
  refine pm_iloadn hG dX9_transfer_0 rfl ?_
  refine pm_if_lt (tgt := 36) hG dX9_transfer_1 rfl (fun c1 => ?_) (fun c1 => ?_)
  · refine pm_iconst (v := 0) hG dX9_transfer_36 (by decide) ?_
    refine pm_istoreXi (loc' := [some (.ref (B + t)), some (.int ra), some (.int fr), some (.int rb), some (.int to), some (.int k), some (.int 0), none]) hG dX9_transfer_37 (by decide) (pm_c1b rfl) rfl ?_
    refine pm_iloadn hG dX9_transfer_39 rfl ?_
    refine pm_if_lt (tgt := 77) hG dX9_transfer_40 rfl (fun c2 => ?_) (fun c2 => ?_)
    · refine pm_iconst (v := 0) hG dX9_transfer_77 (by decide) ?_
      refine pm_istoreXi (loc' := [some (.ref (B + t)), some (.int ra), some (.int fr), some (.int rb), some (.int to), some (.int k), some (.int 0), some (.int 0)]) hG dX9_transfer_78 (by decide) (pm_c1b rfl) rfl ?_
      refine pm_iloadi hG dX9_transfer_80 rfl ?_
      refine pm_if_eq (tgt := 120) hG dX9_transfer_82 rfl (fun _ => ?_) (fun q => absurd q (by decide))
      exact pm_vret hG hF dX9_transfer_120 rfl (by decide) (by decide) ⟨rfl, ⟨f, (pm_up_id hc).symm⟩, rfl⟩
    · refine pm_iloadn hG dX9_transfer_43 rfl ?_
      refine pm_aloadn hG dX9_transfer_44 rfl ?_
      refine pm_getf hG dX9_transfer_45 (flX9_16 _ rfl) ht rfl ?_
      refine pm_icmp_ge (tgt := 77) hG dX9_transfer_48 rfl (fun c3 => ?_) (fun c3 => ?_)
      · refine pm_iconst (v := 0) hG dX9_transfer_77 (by decide) ?_
        refine pm_istoreXi (loc' := [some (.ref (B + t)), some (.int ra), some (.int fr), some (.int rb), some (.int to), some (.int k), some (.int 0), some (.int 0)]) hG dX9_transfer_78 (by decide) (pm_c1b rfl) rfl ?_
        refine pm_iloadi hG dX9_transfer_80 rfl ?_
        refine pm_if_eq (tgt := 120) hG dX9_transfer_82 rfl (fun _ => ?_) (fun q => absurd q (by decide))
        exact pm_vret hG hF dX9_transfer_120 rfl (by decide) (by decide) ⟨rfl, ⟨f, (pm_up_id hc).symm⟩, rfl⟩
      · refine pm_iloadi hG dX9_transfer_51 rfl ?_
        refine pm_if_lt (tgt := 77) hG dX9_transfer_53 rfl (fun c4 => ?_) (fun c4 => ?_)
        · refine pm_iconst (v := 0) hG dX9_transfer_77 (by decide) ?_
          refine pm_istoreXi (loc' := [some (.ref (B + t)), some (.int ra), some (.int fr), some (.int rb), some (.int to), some (.int k), some (.int 0), some (.int 0)]) hG dX9_transfer_78 (by decide) (pm_c1b rfl) rfl ?_
          refine pm_iloadi hG dX9_transfer_80 rfl ?_
          refine pm_if_eq (tgt := 120) hG dX9_transfer_82 rfl (fun _ => ?_) (fun q => absurd q (by decide))
          exact pm_vret hG hF dX9_transfer_120 rfl (by decide) (by decide) ⟨rfl, ⟨f, (pm_up_id hc).symm⟩, rfl⟩
        · refine pm_iloadi hG dX9_transfer_56 rfl ?_
          refine pm_if_lt (tgt := 77) hG dX9_transfer_58 rfl (fun c5 => ?_) (fun c5 => ?_)
          · refine pm_iconst (v := 0) hG dX9_transfer_77 (by decide) ?_
            refine pm_istoreXi (loc' := [some (.ref (B + t)), some (.int ra), some (.int fr), some (.int rb), some (.int to), some (.int k), some (.int 0), some (.int 0)]) hG dX9_transfer_78 (by decide) (pm_c1b rfl) rfl ?_
            refine pm_iloadi hG dX9_transfer_80 rfl ?_
            refine pm_if_eq (tgt := 120) hG dX9_transfer_82 rfl (fun _ => ?_) (fun q => absurd q (by decide))
            exact pm_vret hG hF dX9_transfer_120 rfl (by decide) (by decide) ⟨rfl, ⟨f, (pm_up_id hc).symm⟩, rfl⟩
          · refine pm_iloadi hG dX9_transfer_61 rfl ?_
            refine pm_aloadn hG dX9_transfer_63 rfl ?_
            refine pm_getf hG dX9_transfer_64 (flX9_22 _ rfl) ht rfl ?_
            refine pm_iloadi hG dX9_transfer_67 rfl ?_
            refine pm_isub hG dX9_transfer_69 ?_
            refine pm_icmp_gt (tgt := 77) hG dX9_transfer_70 rfl (fun c6 => ?_) (fun c6 => ?_)
            · refine pm_iconst (v := 0) hG dX9_transfer_77 (by decide) ?_
              refine pm_istoreXi (loc' := [some (.ref (B + t)), some (.int ra), some (.int fr), some (.int rb), some (.int to), some (.int k), some (.int 0), some (.int 0)]) hG dX9_transfer_78 (by decide) (pm_c1b rfl) rfl ?_
              refine pm_iloadi hG dX9_transfer_80 rfl ?_
              refine pm_if_eq (tgt := 120) hG dX9_transfer_82 rfl (fun _ => ?_) (fun q => absurd q (by decide))
              exact pm_vret hG hF dX9_transfer_120 rfl (by decide) (by decide) ⟨rfl, ⟨f, (pm_up_id hc).symm⟩, rfl⟩
            · refine pm_iconst (v := 1) hG dX9_transfer_73 (by decide) ?_
              refine pm_goto (tgt := 78) hG dX9_transfer_74 rfl ?_
              refine pm_istoreXi (loc' := [some (.ref (B + t)), some (.int ra), some (.int fr), some (.int rb), some (.int to), some (.int k), some (.int 0), some (.int 1)]) hG dX9_transfer_78 (by decide) (pm_c1b rfl) rfl ?_
              refine pm_iloadi hG dX9_transfer_80 rfl ?_
              refine pm_if_eq (tgt := 120) hG dX9_transfer_82 rfl (fun _ => ?_) (fun q => absurd q (by decide))
              exact pm_vret hG hF dX9_transfer_120 rfl (by decide) (by decide) ⟨rfl, ⟨f, (pm_up_id hc).symm⟩, rfl⟩
  · refine pm_iloadn hG dX9_transfer_4 rfl ?_
    refine pm_aloadn hG dX9_transfer_5 rfl ?_
    refine pm_getf hG dX9_transfer_6 (flX9_16 _ rfl) ht rfl ?_
    refine pm_icmp_ge (tgt := 36) hG dX9_transfer_9 rfl (fun c7 => ?_) (fun c7 => ?_)
    · refine pm_iconst (v := 0) hG dX9_transfer_36 (by decide) ?_
      refine pm_istoreXi (loc' := [some (.ref (B + t)), some (.int ra), some (.int fr), some (.int rb), some (.int to), some (.int k), some (.int 0), none]) hG dX9_transfer_37 (by decide) (pm_c1b rfl) rfl ?_
      refine pm_iloadn hG dX9_transfer_39 rfl ?_
      refine pm_if_lt (tgt := 77) hG dX9_transfer_40 rfl (fun c8 => ?_) (fun c8 => ?_)
      · refine pm_iconst (v := 0) hG dX9_transfer_77 (by decide) ?_
        refine pm_istoreXi (loc' := [some (.ref (B + t)), some (.int ra), some (.int fr), some (.int rb), some (.int to), some (.int k), some (.int 0), some (.int 0)]) hG dX9_transfer_78 (by decide) (pm_c1b rfl) rfl ?_
        refine pm_iloadi hG dX9_transfer_80 rfl ?_
        refine pm_if_eq (tgt := 120) hG dX9_transfer_82 rfl (fun _ => ?_) (fun q => absurd q (by decide))
        exact pm_vret hG hF dX9_transfer_120 rfl (by decide) (by decide) ⟨rfl, ⟨f, (pm_up_id hc).symm⟩, rfl⟩
      · refine pm_iloadn hG dX9_transfer_43 rfl ?_
        refine pm_aloadn hG dX9_transfer_44 rfl ?_
        refine pm_getf hG dX9_transfer_45 (flX9_16 _ rfl) ht rfl ?_
        refine pm_icmp_ge (tgt := 77) hG dX9_transfer_48 rfl (fun c9 => ?_) (fun c9 => ?_)
        · refine pm_iconst (v := 0) hG dX9_transfer_77 (by decide) ?_
          refine pm_istoreXi (loc' := [some (.ref (B + t)), some (.int ra), some (.int fr), some (.int rb), some (.int to), some (.int k), some (.int 0), some (.int 0)]) hG dX9_transfer_78 (by decide) (pm_c1b rfl) rfl ?_
          refine pm_iloadi hG dX9_transfer_80 rfl ?_
          refine pm_if_eq (tgt := 120) hG dX9_transfer_82 rfl (fun _ => ?_) (fun q => absurd q (by decide))
          exact pm_vret hG hF dX9_transfer_120 rfl (by decide) (by decide) ⟨rfl, ⟨f, (pm_up_id hc).symm⟩, rfl⟩
        · refine pm_iloadi hG dX9_transfer_51 rfl ?_
          refine pm_if_lt (tgt := 77) hG dX9_transfer_53 rfl (fun c10 => ?_) (fun c10 => ?_)
          · refine pm_iconst (v := 0) hG dX9_transfer_77 (by decide) ?_
            refine pm_istoreXi (loc' := [some (.ref (B + t)), some (.int ra), some (.int fr), some (.int rb), some (.int to), some (.int k), some (.int 0), some (.int 0)]) hG dX9_transfer_78 (by decide) (pm_c1b rfl) rfl ?_
            refine pm_iloadi hG dX9_transfer_80 rfl ?_
            refine pm_if_eq (tgt := 120) hG dX9_transfer_82 rfl (fun _ => ?_) (fun q => absurd q (by decide))
            exact pm_vret hG hF dX9_transfer_120 rfl (by decide) (by decide) ⟨rfl, ⟨f, (pm_up_id hc).symm⟩, rfl⟩
          · refine pm_iloadi hG dX9_transfer_56 rfl ?_
            refine pm_if_lt (tgt := 77) hG dX9_transfer_58 rfl (fun c11 => ?_) (fun c11 => ?_)
            · refine pm_iconst (v := 0) hG dX9_transfer_77 (by decide) ?_
              refine pm_istoreXi (loc' := [some (.ref (B + t)), some (.int ra), some (.int fr), some (.int rb), some (.int to), some (.int k), some (.int 0), some (.int 0)]) hG dX9_transfer_78 (by decide) (pm_c1b rfl) rfl ?_
              refine pm_iloadi hG dX9_transfer_80 rfl ?_
              refine pm_if_eq (tgt := 120) hG dX9_transfer_82 rfl (fun _ => ?_) (fun q => absurd q (by decide))
              exact pm_vret hG hF dX9_transfer_120 rfl (by decide) (by decide) ⟨rfl, ⟨f, (pm_up_id hc).symm⟩, rfl⟩
            · refine pm_iloadi hG dX9_transfer_61 rfl ?_
              refine pm_aloadn hG dX9_transfer_63 rfl ?_
              refine pm_getf hG dX9_transfer_64 (flX9_22 _ rfl) ht rfl ?_
              refine pm_iloadi hG dX9_transfer_67 rfl ?_
              refine pm_isub hG dX9_transfer_69 ?_
              refine pm_icmp_gt (tgt := 77) hG dX9_transfer_70 rfl (fun c12 => ?_) (fun c12 => ?_)
              · refine pm_iconst (v := 0) hG dX9_transfer_77 (by decide) ?_
                refine pm_istoreXi (loc' := [some (.ref (B + t)), some (.int ra), some (.int fr), some (.int rb), some (.int to), some (.int k), some (.int 0), some (.int 0)]) hG dX9_transfer_78 (by decide) (pm_c1b rfl) rfl ?_
                refine pm_iloadi hG dX9_transfer_80 rfl ?_
                refine pm_if_eq (tgt := 120) hG dX9_transfer_82 rfl (fun _ => ?_) (fun q => absurd q (by decide))
                exact pm_vret hG hF dX9_transfer_120 rfl (by decide) (by decide) ⟨rfl, ⟨f, (pm_up_id hc).symm⟩, rfl⟩
              · refine pm_iconst (v := 1) hG dX9_transfer_73 (by decide) ?_
                refine pm_goto (tgt := 78) hG dX9_transfer_74 rfl ?_
                refine pm_istoreXi (loc' := [some (.ref (B + t)), some (.int ra), some (.int fr), some (.int rb), some (.int to), some (.int k), some (.int 0), some (.int 1)]) hG dX9_transfer_78 (by decide) (pm_c1b rfl) rfl ?_
                refine pm_iloadi hG dX9_transfer_80 rfl ?_
                refine pm_if_eq (tgt := 120) hG dX9_transfer_82 rfl (fun _ => ?_) (fun q => absurd q (by decide))
                exact pm_vret hG hF dX9_transfer_120 rfl (by decide) (by decide) ⟨rfl, ⟨f, (pm_up_id hc).symm⟩, rfl⟩
    · refine pm_iloadn hG dX9_transfer_12 rfl ?_
      refine pm_if_lt (tgt := 36) hG dX9_transfer_13 rfl (fun c13 => ?_) (fun c13 => ?_)
      · refine pm_iconst (v := 0) hG dX9_transfer_36 (by decide) ?_
        refine pm_istoreXi (loc' := [some (.ref (B + t)), some (.int ra), some (.int fr), some (.int rb), some (.int to), some (.int k), some (.int 0), none]) hG dX9_transfer_37 (by decide) (pm_c1b rfl) rfl ?_
        refine pm_iloadn hG dX9_transfer_39 rfl ?_
        refine pm_if_lt (tgt := 77) hG dX9_transfer_40 rfl (fun c14 => ?_) (fun c14 => ?_)
        · refine pm_iconst (v := 0) hG dX9_transfer_77 (by decide) ?_
          refine pm_istoreXi (loc' := [some (.ref (B + t)), some (.int ra), some (.int fr), some (.int rb), some (.int to), some (.int k), some (.int 0), some (.int 0)]) hG dX9_transfer_78 (by decide) (pm_c1b rfl) rfl ?_
          refine pm_iloadi hG dX9_transfer_80 rfl ?_
          refine pm_if_eq (tgt := 120) hG dX9_transfer_82 rfl (fun _ => ?_) (fun q => absurd q (by decide))
          exact pm_vret hG hF dX9_transfer_120 rfl (by decide) (by decide) ⟨rfl, ⟨f, (pm_up_id hc).symm⟩, rfl⟩
        · refine pm_iloadn hG dX9_transfer_43 rfl ?_
          refine pm_aloadn hG dX9_transfer_44 rfl ?_
          refine pm_getf hG dX9_transfer_45 (flX9_16 _ rfl) ht rfl ?_
          refine pm_icmp_ge (tgt := 77) hG dX9_transfer_48 rfl (fun c15 => ?_) (fun c15 => ?_)
          · refine pm_iconst (v := 0) hG dX9_transfer_77 (by decide) ?_
            refine pm_istoreXi (loc' := [some (.ref (B + t)), some (.int ra), some (.int fr), some (.int rb), some (.int to), some (.int k), some (.int 0), some (.int 0)]) hG dX9_transfer_78 (by decide) (pm_c1b rfl) rfl ?_
            refine pm_iloadi hG dX9_transfer_80 rfl ?_
            refine pm_if_eq (tgt := 120) hG dX9_transfer_82 rfl (fun _ => ?_) (fun q => absurd q (by decide))
            exact pm_vret hG hF dX9_transfer_120 rfl (by decide) (by decide) ⟨rfl, ⟨f, (pm_up_id hc).symm⟩, rfl⟩
          · refine pm_iloadi hG dX9_transfer_51 rfl ?_
            refine pm_if_lt (tgt := 77) hG dX9_transfer_53 rfl (fun c16 => ?_) (fun c16 => ?_)
            · refine pm_iconst (v := 0) hG dX9_transfer_77 (by decide) ?_
              refine pm_istoreXi (loc' := [some (.ref (B + t)), some (.int ra), some (.int fr), some (.int rb), some (.int to), some (.int k), some (.int 0), some (.int 0)]) hG dX9_transfer_78 (by decide) (pm_c1b rfl) rfl ?_
              refine pm_iloadi hG dX9_transfer_80 rfl ?_
              refine pm_if_eq (tgt := 120) hG dX9_transfer_82 rfl (fun _ => ?_) (fun q => absurd q (by decide))
              exact pm_vret hG hF dX9_transfer_120 rfl (by decide) (by decide) ⟨rfl, ⟨f, (pm_up_id hc).symm⟩, rfl⟩
            · refine pm_iloadi hG dX9_transfer_56 rfl ?_
              refine pm_if_lt (tgt := 77) hG dX9_transfer_58 rfl (fun c17 => ?_) (fun c17 => ?_)
              · refine pm_iconst (v := 0) hG dX9_transfer_77 (by decide) ?_
                refine pm_istoreXi (loc' := [some (.ref (B + t)), some (.int ra), some (.int fr), some (.int rb), some (.int to), some (.int k), some (.int 0), some (.int 0)]) hG dX9_transfer_78 (by decide) (pm_c1b rfl) rfl ?_
                refine pm_iloadi hG dX9_transfer_80 rfl ?_
                refine pm_if_eq (tgt := 120) hG dX9_transfer_82 rfl (fun _ => ?_) (fun q => absurd q (by decide))
                exact pm_vret hG hF dX9_transfer_120 rfl (by decide) (by decide) ⟨rfl, ⟨f, (pm_up_id hc).symm⟩, rfl⟩
              · refine pm_iloadi hG dX9_transfer_61 rfl ?_
                refine pm_aloadn hG dX9_transfer_63 rfl ?_
                refine pm_getf hG dX9_transfer_64 (flX9_22 _ rfl) ht rfl ?_
                refine pm_iloadi hG dX9_transfer_67 rfl ?_
                refine pm_isub hG dX9_transfer_69 ?_
                refine pm_icmp_gt (tgt := 77) hG dX9_transfer_70 rfl (fun c18 => ?_) (fun c18 => ?_)
                · refine pm_iconst (v := 0) hG dX9_transfer_77 (by decide) ?_
                  refine pm_istoreXi (loc' := [some (.ref (B + t)), some (.int ra), some (.int fr), some (.int rb), some (.int to), some (.int k), some (.int 0), some (.int 0)]) hG dX9_transfer_78 (by decide) (pm_c1b rfl) rfl ?_
                  refine pm_iloadi hG dX9_transfer_80 rfl ?_
                  refine pm_if_eq (tgt := 120) hG dX9_transfer_82 rfl (fun _ => ?_) (fun q => absurd q (by decide))
                  exact pm_vret hG hF dX9_transfer_120 rfl (by decide) (by decide) ⟨rfl, ⟨f, (pm_up_id hc).symm⟩, rfl⟩
                · refine pm_iconst (v := 1) hG dX9_transfer_73 (by decide) ?_
                  refine pm_goto (tgt := 78) hG dX9_transfer_74 rfl ?_
                  refine pm_istoreXi (loc' := [some (.ref (B + t)), some (.int ra), some (.int fr), some (.int rb), some (.int to), some (.int k), some (.int 0), some (.int 1)]) hG dX9_transfer_78 (by decide) (pm_c1b rfl) rfl ?_
                  refine pm_iloadi hG dX9_transfer_80 rfl ?_
                  refine pm_if_eq (tgt := 120) hG dX9_transfer_82 rfl (fun _ => ?_) (fun q => absurd q (by decide))
                  exact pm_vret hG hF dX9_transfer_120 rfl (by decide) (by decide) ⟨rfl, ⟨f, (pm_up_id hc).symm⟩, rfl⟩
      · refine pm_iloadi hG dX9_transfer_16 rfl ?_
        refine pm_if_lt (tgt := 36) hG dX9_transfer_18 rfl (fun c19 => ?_) (fun c19 => ?_)
        · refine pm_iconst (v := 0) hG dX9_transfer_36 (by decide) ?_
          refine pm_istoreXi (loc' := [some (.ref (B + t)), some (.int ra), some (.int fr), some (.int rb), some (.int to), some (.int k), some (.int 0), none]) hG dX9_transfer_37 (by decide) (pm_c1b rfl) rfl ?_
          refine pm_iloadn hG dX9_transfer_39 rfl ?_
          refine pm_if_lt (tgt := 77) hG dX9_transfer_40 rfl (fun c20 => ?_) (fun c20 => ?_)
          · refine pm_iconst (v := 0) hG dX9_transfer_77 (by decide) ?_
            refine pm_istoreXi (loc' := [some (.ref (B + t)), some (.int ra), some (.int fr), some (.int rb), some (.int to), some (.int k), some (.int 0), some (.int 0)]) hG dX9_transfer_78 (by decide) (pm_c1b rfl) rfl ?_
            refine pm_iloadi hG dX9_transfer_80 rfl ?_
            refine pm_if_eq (tgt := 120) hG dX9_transfer_82 rfl (fun _ => ?_) (fun q => absurd q (by decide))
            exact pm_vret hG hF dX9_transfer_120 rfl (by decide) (by decide) ⟨rfl, ⟨f, (pm_up_id hc).symm⟩, rfl⟩
          · refine pm_iloadn hG dX9_transfer_43 rfl ?_
            refine pm_aloadn hG dX9_transfer_44 rfl ?_
            refine pm_getf hG dX9_transfer_45 (flX9_16 _ rfl) ht rfl ?_
            refine pm_icmp_ge (tgt := 77) hG dX9_transfer_48 rfl (fun c21 => ?_) (fun c21 => ?_)
            · refine pm_iconst (v := 0) hG dX9_transfer_77 (by decide) ?_
              refine pm_istoreXi (loc' := [some (.ref (B + t)), some (.int ra), some (.int fr), some (.int rb), some (.int to), some (.int k), some (.int 0), some (.int 0)]) hG dX9_transfer_78 (by decide) (pm_c1b rfl) rfl ?_
              refine pm_iloadi hG dX9_transfer_80 rfl ?_
              refine pm_if_eq (tgt := 120) hG dX9_transfer_82 rfl (fun _ => ?_) (fun q => absurd q (by decide))
              exact pm_vret hG hF dX9_transfer_120 rfl (by decide) (by decide) ⟨rfl, ⟨f, (pm_up_id hc).symm⟩, rfl⟩
            · refine pm_iloadi hG dX9_transfer_51 rfl ?_
              refine pm_if_lt (tgt := 77) hG dX9_transfer_53 rfl (fun c22 => ?_) (fun c22 => ?_)
              · refine pm_iconst (v := 0) hG dX9_transfer_77 (by decide) ?_
                refine pm_istoreXi (loc' := [some (.ref (B + t)), some (.int ra), some (.int fr), some (.int rb), some (.int to), some (.int k), some (.int 0), some (.int 0)]) hG dX9_transfer_78 (by decide) (pm_c1b rfl) rfl ?_
                refine pm_iloadi hG dX9_transfer_80 rfl ?_
                refine pm_if_eq (tgt := 120) hG dX9_transfer_82 rfl (fun _ => ?_) (fun q => absurd q (by decide))
                exact pm_vret hG hF dX9_transfer_120 rfl (by decide) (by decide) ⟨rfl, ⟨f, (pm_up_id hc).symm⟩, rfl⟩
              · refine pm_iloadi hG dX9_transfer_56 rfl ?_
                refine pm_if_lt (tgt := 77) hG dX9_transfer_58 rfl (fun c23 => ?_) (fun c23 => ?_)
                · refine pm_iconst (v := 0) hG dX9_transfer_77 (by decide) ?_
                  refine pm_istoreXi (loc' := [some (.ref (B + t)), some (.int ra), some (.int fr), some (.int rb), some (.int to), some (.int k), some (.int 0), some (.int 0)]) hG dX9_transfer_78 (by decide) (pm_c1b rfl) rfl ?_
                  refine pm_iloadi hG dX9_transfer_80 rfl ?_
                  refine pm_if_eq (tgt := 120) hG dX9_transfer_82 rfl (fun _ => ?_) (fun q => absurd q (by decide))
                  exact pm_vret hG hF dX9_transfer_120 rfl (by decide) (by decide) ⟨rfl, ⟨f, (pm_up_id hc).symm⟩, rfl⟩
                · refine pm_iloadi hG dX9_transfer_61 rfl ?_
                  refine pm_aloadn hG dX9_transfer_63 rfl ?_
                  refine pm_getf hG dX9_transfer_64 (flX9_22 _ rfl) ht rfl ?_
                  refine pm_iloadi hG dX9_transfer_67 rfl ?_
                  refine pm_isub hG dX9_transfer_69 ?_
                  refine pm_icmp_gt (tgt := 77) hG dX9_transfer_70 rfl (fun c24 => ?_) (fun c24 => ?_)
                  · refine pm_iconst (v := 0) hG dX9_transfer_77 (by decide) ?_
                    refine pm_istoreXi (loc' := [some (.ref (B + t)), some (.int ra), some (.int fr), some (.int rb), some (.int to), some (.int k), some (.int 0), some (.int 0)]) hG dX9_transfer_78 (by decide) (pm_c1b rfl) rfl ?_
                    refine pm_iloadi hG dX9_transfer_80 rfl ?_
                    refine pm_if_eq (tgt := 120) hG dX9_transfer_82 rfl (fun _ => ?_) (fun q => absurd q (by decide))
                    exact pm_vret hG hF dX9_transfer_120 rfl (by decide) (by decide) ⟨rfl, ⟨f, (pm_up_id hc).symm⟩, rfl⟩
                  · refine pm_iconst (v := 1) hG dX9_transfer_73 (by decide) ?_
                    refine pm_goto (tgt := 78) hG dX9_transfer_74 rfl ?_
                    refine pm_istoreXi (loc' := [some (.ref (B + t)), some (.int ra), some (.int fr), some (.int rb), some (.int to), some (.int k), some (.int 0), some (.int 1)]) hG dX9_transfer_78 (by decide) (pm_c1b rfl) rfl ?_
                    refine pm_iloadi hG dX9_transfer_80 rfl ?_
                    refine pm_if_eq (tgt := 120) hG dX9_transfer_82 rfl (fun _ => ?_) (fun q => absurd q (by decide))
                    exact pm_vret hG hF dX9_transfer_120 rfl (by decide) (by decide) ⟨rfl, ⟨f, (pm_up_id hc).symm⟩, rfl⟩
        · refine pm_iloadn hG dX9_transfer_21 rfl ?_
          refine pm_aloadn hG dX9_transfer_22 rfl ?_
          refine pm_getf hG dX9_transfer_23 (flX9_22 _ rfl) ht rfl ?_
          refine pm_iloadi hG dX9_transfer_26 rfl ?_
          refine pm_isub hG dX9_transfer_28 ?_
          refine pm_icmp_gt (tgt := 36) hG dX9_transfer_29 rfl (fun c25 => ?_) (fun c25 => ?_)
          · refine pm_iconst (v := 0) hG dX9_transfer_36 (by decide) ?_
            refine pm_istoreXi (loc' := [some (.ref (B + t)), some (.int ra), some (.int fr), some (.int rb), some (.int to), some (.int k), some (.int 0), none]) hG dX9_transfer_37 (by decide) (pm_c1b rfl) rfl ?_
            refine pm_iloadn hG dX9_transfer_39 rfl ?_
            refine pm_if_lt (tgt := 77) hG dX9_transfer_40 rfl (fun c26 => ?_) (fun c26 => ?_)
            · refine pm_iconst (v := 0) hG dX9_transfer_77 (by decide) ?_
              refine pm_istoreXi (loc' := [some (.ref (B + t)), some (.int ra), some (.int fr), some (.int rb), some (.int to), some (.int k), some (.int 0), some (.int 0)]) hG dX9_transfer_78 (by decide) (pm_c1b rfl) rfl ?_
              refine pm_iloadi hG dX9_transfer_80 rfl ?_
              refine pm_if_eq (tgt := 120) hG dX9_transfer_82 rfl (fun _ => ?_) (fun q => absurd q (by decide))
              exact pm_vret hG hF dX9_transfer_120 rfl (by decide) (by decide) ⟨rfl, ⟨f, (pm_up_id hc).symm⟩, rfl⟩
            · refine pm_iloadn hG dX9_transfer_43 rfl ?_
              refine pm_aloadn hG dX9_transfer_44 rfl ?_
              refine pm_getf hG dX9_transfer_45 (flX9_16 _ rfl) ht rfl ?_
              refine pm_icmp_ge (tgt := 77) hG dX9_transfer_48 rfl (fun c27 => ?_) (fun c27 => ?_)
              · refine pm_iconst (v := 0) hG dX9_transfer_77 (by decide) ?_
                refine pm_istoreXi (loc' := [some (.ref (B + t)), some (.int ra), some (.int fr), some (.int rb), some (.int to), some (.int k), some (.int 0), some (.int 0)]) hG dX9_transfer_78 (by decide) (pm_c1b rfl) rfl ?_
                refine pm_iloadi hG dX9_transfer_80 rfl ?_
                refine pm_if_eq (tgt := 120) hG dX9_transfer_82 rfl (fun _ => ?_) (fun q => absurd q (by decide))
                exact pm_vret hG hF dX9_transfer_120 rfl (by decide) (by decide) ⟨rfl, ⟨f, (pm_up_id hc).symm⟩, rfl⟩
              · refine pm_iloadi hG dX9_transfer_51 rfl ?_
                refine pm_if_lt (tgt := 77) hG dX9_transfer_53 rfl (fun c28 => ?_) (fun c28 => ?_)
                · refine pm_iconst (v := 0) hG dX9_transfer_77 (by decide) ?_
                  refine pm_istoreXi (loc' := [some (.ref (B + t)), some (.int ra), some (.int fr), some (.int rb), some (.int to), some (.int k), some (.int 0), some (.int 0)]) hG dX9_transfer_78 (by decide) (pm_c1b rfl) rfl ?_
                  refine pm_iloadi hG dX9_transfer_80 rfl ?_
                  refine pm_if_eq (tgt := 120) hG dX9_transfer_82 rfl (fun _ => ?_) (fun q => absurd q (by decide))
                  exact pm_vret hG hF dX9_transfer_120 rfl (by decide) (by decide) ⟨rfl, ⟨f, (pm_up_id hc).symm⟩, rfl⟩
                · refine pm_iloadi hG dX9_transfer_56 rfl ?_
                  refine pm_if_lt (tgt := 77) hG dX9_transfer_58 rfl (fun c29 => ?_) (fun c29 => ?_)
                  · refine pm_iconst (v := 0) hG dX9_transfer_77 (by decide) ?_
                    refine pm_istoreXi (loc' := [some (.ref (B + t)), some (.int ra), some (.int fr), some (.int rb), some (.int to), some (.int k), some (.int 0), some (.int 0)]) hG dX9_transfer_78 (by decide) (pm_c1b rfl) rfl ?_
                    refine pm_iloadi hG dX9_transfer_80 rfl ?_
                    refine pm_if_eq (tgt := 120) hG dX9_transfer_82 rfl (fun _ => ?_) (fun q => absurd q (by decide))
                    exact pm_vret hG hF dX9_transfer_120 rfl (by decide) (by decide) ⟨rfl, ⟨f, (pm_up_id hc).symm⟩, rfl⟩
                  · refine pm_iloadi hG dX9_transfer_61 rfl ?_
                    refine pm_aloadn hG dX9_transfer_63 rfl ?_
                    refine pm_getf hG dX9_transfer_64 (flX9_22 _ rfl) ht rfl ?_
                    refine pm_iloadi hG dX9_transfer_67 rfl ?_
                    refine pm_isub hG dX9_transfer_69 ?_
                    refine pm_icmp_gt (tgt := 77) hG dX9_transfer_70 rfl (fun c30 => ?_) (fun c30 => ?_)
                    · refine pm_iconst (v := 0) hG dX9_transfer_77 (by decide) ?_
                      refine pm_istoreXi (loc' := [some (.ref (B + t)), some (.int ra), some (.int fr), some (.int rb), some (.int to), some (.int k), some (.int 0), some (.int 0)]) hG dX9_transfer_78 (by decide) (pm_c1b rfl) rfl ?_
                      refine pm_iloadi hG dX9_transfer_80 rfl ?_
                      refine pm_if_eq (tgt := 120) hG dX9_transfer_82 rfl (fun _ => ?_) (fun q => absurd q (by decide))
                      exact pm_vret hG hF dX9_transfer_120 rfl (by decide) (by decide) ⟨rfl, ⟨f, (pm_up_id hc).symm⟩, rfl⟩
                    · refine pm_iconst (v := 1) hG dX9_transfer_73 (by decide) ?_
                      refine pm_goto (tgt := 78) hG dX9_transfer_74 rfl ?_
                      refine pm_istoreXi (loc' := [some (.ref (B + t)), some (.int ra), some (.int fr), some (.int rb), some (.int to), some (.int k), some (.int 0), some (.int 1)]) hG dX9_transfer_78 (by decide) (pm_c1b rfl) rfl ?_
                      refine pm_iloadi hG dX9_transfer_80 rfl ?_
                      refine pm_if_eq (tgt := 120) hG dX9_transfer_82 rfl (fun _ => ?_) (fun q => absurd q (by decide))
                      exact pm_vret hG hF dX9_transfer_120 rfl (by decide) (by decide) ⟨rfl, ⟨f, (pm_up_id hc).symm⟩, rfl⟩
          · refine pm_iconst (v := 1) hG dX9_transfer_32 (by decide) ?_
            refine pm_goto (tgt := 37) hG dX9_transfer_33 rfl ?_
            refine pm_istoreXi (loc' := [some (.ref (B + t)), some (.int ra), some (.int fr), some (.int rb), some (.int to), some (.int k), some (.int 1), none]) hG dX9_transfer_37 (by decide) (pm_c1b rfl) rfl ?_
            refine pm_iloadn hG dX9_transfer_39 rfl ?_
            refine pm_if_lt (tgt := 77) hG dX9_transfer_40 rfl (fun c31 => ?_) (fun c31 => ?_)
            · refine pm_iconst (v := 0) hG dX9_transfer_77 (by decide) ?_
              refine pm_istoreXi (loc' := [some (.ref (B + t)), some (.int ra), some (.int fr), some (.int rb), some (.int to), some (.int k), some (.int 1), some (.int 0)]) hG dX9_transfer_78 (by decide) (pm_c1b rfl) rfl ?_
              refine pm_iloadi hG dX9_transfer_80 rfl ?_
              refine pm_if_eq (tgt := 120) hG dX9_transfer_82 rfl (fun q => absurd q (by decide)) (fun _ => ?_)
              refine pm_iloadi hG dX9_transfer_85 rfl ?_
              refine pm_if_eq (tgt := 120) hG dX9_transfer_87 rfl (fun _ => ?_) (fun q => absurd q (by decide))
              exact pm_vret hG hF dX9_transfer_120 rfl (by decide) (by decide) ⟨rfl, ⟨f, (pm_up_id hc).symm⟩, rfl⟩
            · refine pm_iloadn hG dX9_transfer_43 rfl ?_
              refine pm_aloadn hG dX9_transfer_44 rfl ?_
              refine pm_getf hG dX9_transfer_45 (flX9_16 _ rfl) ht rfl ?_
              refine pm_icmp_ge (tgt := 77) hG dX9_transfer_48 rfl (fun c32 => ?_) (fun c32 => ?_)
              · refine pm_iconst (v := 0) hG dX9_transfer_77 (by decide) ?_
                refine pm_istoreXi (loc' := [some (.ref (B + t)), some (.int ra), some (.int fr), some (.int rb), some (.int to), some (.int k), some (.int 1), some (.int 0)]) hG dX9_transfer_78 (by decide) (pm_c1b rfl) rfl ?_
                refine pm_iloadi hG dX9_transfer_80 rfl ?_
                refine pm_if_eq (tgt := 120) hG dX9_transfer_82 rfl (fun q => absurd q (by decide)) (fun _ => ?_)
                refine pm_iloadi hG dX9_transfer_85 rfl ?_
                refine pm_if_eq (tgt := 120) hG dX9_transfer_87 rfl (fun _ => ?_) (fun q => absurd q (by decide))
                exact pm_vret hG hF dX9_transfer_120 rfl (by decide) (by decide) ⟨rfl, ⟨f, (pm_up_id hc).symm⟩, rfl⟩
              · refine pm_iloadi hG dX9_transfer_51 rfl ?_
                refine pm_if_lt (tgt := 77) hG dX9_transfer_53 rfl (fun c33 => ?_) (fun c33 => ?_)
                · refine pm_iconst (v := 0) hG dX9_transfer_77 (by decide) ?_
                  refine pm_istoreXi (loc' := [some (.ref (B + t)), some (.int ra), some (.int fr), some (.int rb), some (.int to), some (.int k), some (.int 1), some (.int 0)]) hG dX9_transfer_78 (by decide) (pm_c1b rfl) rfl ?_
                  refine pm_iloadi hG dX9_transfer_80 rfl ?_
                  refine pm_if_eq (tgt := 120) hG dX9_transfer_82 rfl (fun q => absurd q (by decide)) (fun _ => ?_)
                  refine pm_iloadi hG dX9_transfer_85 rfl ?_
                  refine pm_if_eq (tgt := 120) hG dX9_transfer_87 rfl (fun _ => ?_) (fun q => absurd q (by decide))
                  exact pm_vret hG hF dX9_transfer_120 rfl (by decide) (by decide) ⟨rfl, ⟨f, (pm_up_id hc).symm⟩, rfl⟩
                · refine pm_iloadi hG dX9_transfer_56 rfl ?_
                  refine pm_if_lt (tgt := 77) hG dX9_transfer_58 rfl (fun c34 => ?_) (fun c34 => ?_)
                  · refine pm_iconst (v := 0) hG dX9_transfer_77 (by decide) ?_
                    refine pm_istoreXi (loc' := [some (.ref (B + t)), some (.int ra), some (.int fr), some (.int rb), some (.int to), some (.int k), some (.int 1), some (.int 0)]) hG dX9_transfer_78 (by decide) (pm_c1b rfl) rfl ?_
                    refine pm_iloadi hG dX9_transfer_80 rfl ?_
                    refine pm_if_eq (tgt := 120) hG dX9_transfer_82 rfl (fun q => absurd q (by decide)) (fun _ => ?_)
                    refine pm_iloadi hG dX9_transfer_85 rfl ?_
                    refine pm_if_eq (tgt := 120) hG dX9_transfer_87 rfl (fun _ => ?_) (fun q => absurd q (by decide))
                    exact pm_vret hG hF dX9_transfer_120 rfl (by decide) (by decide) ⟨rfl, ⟨f, (pm_up_id hc).symm⟩, rfl⟩
                  · refine pm_iloadi hG dX9_transfer_61 rfl ?_
                    refine pm_aloadn hG dX9_transfer_63 rfl ?_
                    refine pm_getf hG dX9_transfer_64 (flX9_22 _ rfl) ht rfl ?_
                    refine pm_iloadi hG dX9_transfer_67 rfl ?_
                    refine pm_isub hG dX9_transfer_69 ?_
                    refine pm_icmp_gt (tgt := 77) hG dX9_transfer_70 rfl (fun c35 => ?_) (fun c35 => ?_)
                    · refine pm_iconst (v := 0) hG dX9_transfer_77 (by decide) ?_
                      refine pm_istoreXi (loc' := [some (.ref (B + t)), some (.int ra), some (.int fr), some (.int rb), some (.int to), some (.int k), some (.int 1), some (.int 0)]) hG dX9_transfer_78 (by decide) (pm_c1b rfl) rfl ?_
                      refine pm_iloadi hG dX9_transfer_80 rfl ?_
                      refine pm_if_eq (tgt := 120) hG dX9_transfer_82 rfl (fun q => absurd q (by decide)) (fun _ => ?_)
                      refine pm_iloadi hG dX9_transfer_85 rfl ?_
                      refine pm_if_eq (tgt := 120) hG dX9_transfer_87 rfl (fun _ => ?_) (fun q => absurd q (by decide))
                      exact pm_vret hG hF dX9_transfer_120 rfl (by decide) (by decide) ⟨rfl, ⟨f, (pm_up_id hc).symm⟩, rfl⟩
                    · refine pm_iconst (v := 1) hG dX9_transfer_73 (by decide) ?_
                      refine pm_goto (tgt := 78) hG dX9_transfer_74 rfl ?_
                      refine pm_istoreXi (loc' := [some (.ref (B + t)), some (.int ra), some (.int fr), some (.int rb), some (.int to), some (.int k), some (.int 1), some (.int 1)]) hG dX9_transfer_78 (by decide) (pm_c1b rfl) rfl ?_
                      refine pm_iloadi hG dX9_transfer_80 rfl ?_
                      refine pm_if_eq (tgt := 120) hG dX9_transfer_82 rfl (fun q => absurd q (by decide)) (fun _ => ?_)
                      refine pm_iloadi hG dX9_transfer_85 rfl ?_
                      refine pm_if_eq (tgt := 120) hG dX9_transfer_87 rfl (fun q => absurd q (by decide)) (fun _ => ?_)
                      refine pm_aloadn hG dX9_transfer_90 rfl ?_
                      refine pm_getf hG dX9_transfer_91 (flX9_25 _ rfl) ht rfl ?_
                      refine pm_iloadn hG dX9_transfer_94 rfl ?_
                      refine pm_aloadn hG dX9_transfer_95 rfl ?_
                      refine pm_getf hG dX9_transfer_96 (flX9_22 _ rfl) ht rfl ?_
                      refine pm_imul hG dX9_transfer_99 ?_
                      refine pm_iloadn hG dX9_transfer_100 rfl ?_
                      refine pm_iadd hG dX9_transfer_101 ?_
                      refine pm_aloadn hG dX9_transfer_102 rfl ?_
                      refine pm_getf hG dX9_transfer_103 (flX9_25 _ rfl) ht rfl ?_
                      refine pm_iloadn hG dX9_transfer_106 rfl ?_
                      refine pm_aloadn hG dX9_transfer_107 rfl ?_
                      refine pm_getf hG dX9_transfer_108 (flX9_22 _ rfl) ht rfl ?_
                      refine pm_imul hG dX9_transfer_111 ?_
                      refine pm_iloadi hG dX9_transfer_112 rfl ?_
                      refine pm_iadd hG dX9_transfer_114 ?_
                      refine pm_iloadi hG dX9_transfer_115 rfl ?_
                      refine pm_acopy hG hR dX9_transfer_117 (acX9_49 _ rfl) pm_cwok hdd (by decide) hc hc (pm_tr hR0 hW0 hn0 c1 c7 c13 c19 c25).1 (pm_tr hR0 hW0 hn0 c31 c32 c33 c19 c35).1 c19 (pm_tr hR0 hW0 hn0 c1 c7 c13 c19 c25).2 (pm_tr hR0 hW0 hn0 c31 c32 c33 c19 c35).2 ?_
                      exact pm_vret hG hF dX9_transfer_120 rfl (by decide) (by decide) ⟨rfl, ⟨_, rfl⟩, rfl⟩
set_option maxRecDepth 100000 in
theorem gj_before {d B cnt : Nat} {σ : pm_S} {x y : Int32} : pm_met mX5_before d 0 0 B [.int x, .int y] cnt σ (pm_Qi (fun v σ' cnt' => ¬ v < 0 ∧ ¬ 64 ≤ v ∧ σ' = σ ∧ cnt' = cnt)) := by
  refine pm_enter 1 (by decide) (Nat.le_of_ble_eq_true rfl) rfl (fun G hG hR hF => ?_)
  refine pm_iloadn hG dX5_before_0 rfl ?_
  refine pm_if_ne (tgt := 8) hG dX5_before_1 rfl (fun c1 => ?_) (fun c1 => ?_)
  · refine pm_iloadn hG dX5_before_8 rfl ?_
    refine pm_iconst (v := 1) hG dX5_before_9 (by decide) ?_
    refine pm_iloadn hG dX5_before_10 rfl ?_
    refine pm_iconst (v := 1) hG dX5_before_11 (by decide) ?_
    refine pm_isub hG dX5_before_12 ?_
    refine pm_ishl hG dX5_before_13 ?_
    refine pm_iconst (v := (-1)) hG dX5_before_14 (by decide) ?_
    refine pm_ixor hG dX5_before_15 ?_
    refine pm_iand hG dX5_before_16 ?_
    refine pm_istoreXn (loc' := [some (.int x), some (.int y), some (.int (x &&& ((1 <<< ((y - 1) &&& 31)) ^^^ (-1))))]) hG dX5_before_17 (by decide) (pm_c1b rfl) rfl ?_
    refine pm_iloadn hG dX5_before_18 rfl ?_
    refine pm_bipush (v := 63) hG dX5_before_19 (by decide) ?_
    refine pm_iand hG dX5_before_21 ?_
    exact pm_iret hG hF dX5_before_22 rfl (by decide) (by decide) ⟨_, rfl, (pm_and63 _).1, (pm_and63 _).2, rfl, rfl⟩
  · refine pm_iloadn hG dX5_before_4 rfl ?_
    refine pm_goto (tgt := 17) hG dX5_before_5 rfl ?_
    refine pm_istoreXn (loc' := [some (.int x), some (.int y), some (.int x)]) hG dX5_before_17 (by decide) (pm_c1b rfl) rfl ?_
    refine pm_iloadn hG dX5_before_18 rfl ?_
    refine pm_bipush (v := 63) hG dX5_before_19 (by decide) ?_
    refine pm_iand hG dX5_before_21 ?_
    exact pm_iret hG hF dX5_before_22 rfl (by decide) (by decide) ⟨_, rfl, (pm_and63 _).1, (pm_and63 _).2, rfl, rfl⟩
set_option maxRecDepth 100000 in
theorem sx_told {d B cnt k q : Nat} {σ : pm_S} {f : Nat → Int32} {x : Int32} {a0 a1 a2 a3 a4 a5 a6 a7 a8 a10 a11 : Value} (hkq : k ≠ q) (h0 : σ k = some (.inr (11, [a0, a1, a2, a3, a4, a5, a6, a7, a8, .ref (B + q), a10, a11]))) (hq : σ q = some (.inl (6, f))) : pm_met mX11_told d 0 0 B [.ref (B + k), .int x] cnt σ (pm_Qi (fun v σ' cnt' => v = x ∧ (∃ g, σ' = pm_up σ q (.inl (6, g))) ∧ cnt' = cnt)) := by
  refine pm_enter 2 (by decide) (Nat.le_of_ble_eq_true rfl) rfl (fun G hG hR hF => ?_)
  refine pm_ldc2 hG dX11_told_0 (ctX11_404 _ rfl) ?_
  refine pm_iloadn hG dX11_told_3 rfl ?_
  refine pm_i2l hG dX11_told_4 rfl ?_
  refine pm_lsub hG dX11_told_5 ?_
  refine pm_lstoreXn (loc' := [some (.ref (B + k)), some (.int x), some (.long ((-1000000) - x.toInt64)), none]) hG dX11_told_6 (by decide) (pm_c1b rfl) rfl ?_
  refine pm_lloadn hG dX11_told_7 rfl ?_
  refine pm_lconst (v := 1) hG dX11_told_8 (by decide) ?_
  refine pm_lcmp hG dX11_told_9 ?_
  refine pm_if_lt (tgt := 43) hG dX11_told_10 rfl (fun c1 => ?_) (fun c1 => ?_)
  · refine pm_iloadn hG dX11_told_43 rfl ?_
    exact pm_iret hG hF dX11_told_44 rfl (by decide) (by decide) ⟨_, rfl, rfl, ⟨f, (pm_up_id hq).symm⟩, rfl⟩
  · refine pm_lloadn hG dX11_told_13 rfl ?_
    refine pm_ldc2 hG dX11_told_14 (ctX11_406 _ rfl) ?_
    refine pm_lcmp hG dX11_told_17 ?_
    refine pm_if_gt (tgt := 43) hG dX11_told_18 rfl (fun c2 => ?_) (fun c2 => ?_)
    · refine pm_iloadn hG dX11_told_43 rfl ?_
      exact pm_iret hG hF dX11_told_44 rfl (by decide) (by decide) ⟨_, rfl, rfl, ⟨f, (pm_up_id hq).symm⟩, rfl⟩
    · refine pm_lloadn hG dX11_told_21 rfl ?_
      refine pm_aloadn hG dX11_told_22 rfl ?_
      refine pm_getf hG dX11_told_23 (flX11_78 _ rfl) h0 rfl ?_
      refine pm_alen (v := 6) hG dX11_told_26 hq (by decide) ?_
      refine pm_i2l (v := 6) hG dX11_told_27 (by decide) ?_
      refine pm_lcmp hG dX11_told_28 ?_
      refine pm_if_ge (tgt := 43) hG dX11_told_29 rfl (fun c3 => ?_) (fun c3 => ?_)
      · refine pm_iloadn hG dX11_told_43 rfl ?_
        exact pm_iret hG hF dX11_told_44 rfl (by decide) (by decide) ⟨_, rfl, rfl, ⟨f, (pm_up_id hq).symm⟩, rfl⟩
      · refine pm_aloadn hG dX11_told_32 rfl ?_
        refine pm_getf hG dX11_told_33 (flX11_78 _ rfl) h0 rfl ?_
        refine pm_lloadn hG dX11_told_36 rfl ?_
        refine pm_l2i hG dX11_told_37 rfl ?_
        refine pm_dup2 hG dX11_told_38 rfl rfl ?_
        refine pm_iald hG dX11_told_39 hq (pm_told_in c1 c3) ?_
        refine pm_iconst (v := 1) hG dX11_told_40 (by decide) ?_
        refine pm_iadd hG dX11_told_41 ?_
        refine pm_iast hG dX11_told_42 hq (pm_told_in c1 c3) ?_
        refine pm_iloadn hG dX11_told_43 rfl ?_
        exact pm_iret hG hF dX11_told_44 rfl (by decide) (by decide) ⟨_, rfl, rfl, ⟨_, rfl⟩, rfl⟩
theorem nm_a3 {M : pm_M} {G : pm_G} {B pc : Nat} {loc : List (Option Value)} {st : List Value} {cs zs cnt : Nat} {kp : pm_KP} {ρ : pm_S} {I : Nat → Int32} {A : Nat → Nat → Int32} {f : Nat → Int32} (k : ∀ A' : Nat → Nat → Int32, pm_wp M G B pc loc st cs zs cnt (pm_two (cl_L B kp I A') ρ)) : pm_wp M G B pc loc st cs zs cnt (pm_up (pm_two (cl_L B kp I A) ρ) 3 (.inl (30, f))) := by
  rw [pm_two_up (by decide) (Nat.le_of_ble_eq_true rfl)]; exact k (ua A 3 f)
theorem nm_a5 {M : pm_M} {G : pm_G} {B pc : Nat} {loc : List (Option Value)} {st : List Value} {cs zs cnt : Nat} {kp : pm_KP} {ρ : pm_S} {I : Nat → Int32} {A : Nat → Nat → Int32} {f : Nat → Int32} (k : ∀ A' : Nat → Nat → Int32, pm_wp M G B pc loc st cs zs cnt (pm_two (cl_L B kp I A') ρ)) : pm_wp M G B pc loc st cs zs cnt (pm_up (pm_two (cl_L B kp I A) ρ) 5 (.inl (100, f))) := by
  rw [pm_two_up (by decide) (Nat.le_of_ble_eq_true rfl)]; exact k (ua A 5 f)
theorem nm_a9 {M : pm_M} {G : pm_G} {B pc : Nat} {loc : List (Option Value)} {st : List Value} {cs zs cnt : Nat} {kp : pm_KP} {ρ : pm_S} {I : Nat → Int32} {A : Nat → Nat → Int32} {f : Nat → Int32} (k : ∀ A' : Nat → Nat → Int32, pm_wp M G B pc loc st cs zs cnt (pm_two (cl_L B kp I A') ρ)) : pm_wp M G B pc loc st cs zs cnt (pm_up (pm_two (cl_L B kp I A) ρ) 9 (.inl (120, f))) := by
  rw [pm_two_up (by decide) (Nat.le_of_ble_eq_true rfl)]; exact k (ua A 9 f)
theorem nm_a11 {M : pm_M} {G : pm_G} {B pc : Nat} {loc : List (Option Value)} {st : List Value} {cs zs cnt : Nat} {kp : pm_KP} {ρ : pm_S} {I : Nat → Int32} {A : Nat → Nat → Int32} {f : Nat → Int32} (k : ∀ A' : Nat → Nat → Int32, pm_wp M G B pc loc st cs zs cnt (pm_two (cl_L B kp I A') ρ)) : pm_wp M G B pc loc st cs zs cnt (pm_up (pm_two (cl_L B kp I A) ρ) 11 (.inl (72, f))) := by
  rw [pm_two_up (by decide) (Nat.le_of_ble_eq_true rfl)]; exact k (ua A 11 f)
theorem nm_a13 {M : pm_M} {G : pm_G} {B pc : Nat} {loc : List (Option Value)} {st : List Value} {cs zs cnt : Nat} {kp : pm_KP} {ρ : pm_S} {I : Nat → Int32} {A : Nat → Nat → Int32} {f : Nat → Int32} (k : ∀ A' : Nat → Nat → Int32, pm_wp M G B pc loc st cs zs cnt (pm_two (cl_L B kp I A') ρ)) : pm_wp M G B pc loc st cs zs cnt (pm_up (pm_two (cl_L B kp I A) ρ) 13 (.inl (720, f))) := by
  rw [pm_two_up (by decide) (Nat.le_of_ble_eq_true rfl)]; exact k (ua A 13 f)
theorem nm_a15 {M : pm_M} {G : pm_G} {B pc : Nat} {loc : List (Option Value)} {st : List Value} {cs zs cnt : Nat} {kp : pm_KP} {ρ : pm_S} {I : Nat → Int32} {A : Nat → Nat → Int32} {f : Nat → Int32} (k : ∀ A' : Nat → Nat → Int32, pm_wp M G B pc loc st cs zs cnt (pm_two (cl_L B kp I A') ρ)) : pm_wp M G B pc loc st cs zs cnt (pm_up (pm_two (cl_L B kp I A) ρ) 15 (.inl (480, f))) := by
  rw [pm_two_up (by decide) (Nat.le_of_ble_eq_true rfl)]; exact k (ua A 15 f)
theorem nm_a17 {M : pm_M} {G : pm_G} {B pc : Nat} {loc : List (Option Value)} {st : List Value} {cs zs cnt : Nat} {kp : pm_KP} {ρ : pm_S} {I : Nat → Int32} {A : Nat → Nat → Int32} {f : Nat → Int32} (k : ∀ A' : Nat → Nat → Int32, pm_wp M G B pc loc st cs zs cnt (pm_two (cl_L B kp I A') ρ)) : pm_wp M G B pc loc st cs zs cnt (pm_up (pm_two (cl_L B kp I A) ρ) 17 (.inl (30, f))) := by
  rw [pm_two_up (by decide) (Nat.le_of_ble_eq_true rfl)]; exact k (ua A 17 f)
theorem nm_a19 {M : pm_M} {G : pm_G} {B pc : Nat} {loc : List (Option Value)} {st : List Value} {cs zs cnt : Nat} {kp : pm_KP} {ρ : pm_S} {I : Nat → Int32} {A : Nat → Nat → Int32} {f : Nat → Int32} (k : ∀ A' : Nat → Nat → Int32, pm_wp M G B pc loc st cs zs cnt (pm_two (cl_L B kp I A') ρ)) : pm_wp M G B pc loc st cs zs cnt (pm_up (pm_two (cl_L B kp I A) ρ) 19 (.inl (150, f))) := by
  rw [pm_two_up (by decide) (Nat.le_of_ble_eq_true rfl)]; exact k (ua A 19 f)
theorem nm_a21 {M : pm_M} {G : pm_G} {B pc : Nat} {loc : List (Option Value)} {st : List Value} {cs zs cnt : Nat} {kp : pm_KP} {ρ : pm_S} {I : Nat → Int32} {A : Nat → Nat → Int32} {f : Nat → Int32} (k : ∀ A' : Nat → Nat → Int32, pm_wp M G B pc loc st cs zs cnt (pm_two (cl_L B kp I A') ρ)) : pm_wp M G B pc loc st cs zs cnt (pm_up (pm_two (cl_L B kp I A) ρ) 21 (.inl (5, f))) := by
  rw [pm_two_up (by decide) (Nat.le_of_ble_eq_true rfl)]; exact k (ua A 21 f)
theorem nm_a23 {M : pm_M} {G : pm_G} {B pc : Nat} {loc : List (Option Value)} {st : List Value} {cs zs cnt : Nat} {kp : pm_KP} {ρ : pm_S} {I : Nat → Int32} {A : Nat → Nat → Int32} {f : Nat → Int32} (k : ∀ A' : Nat → Nat → Int32, pm_wp M G B pc loc st cs zs cnt (pm_two (cl_L B kp I A') ρ)) : pm_wp M G B pc loc st cs zs cnt (pm_up (pm_two (cl_L B kp I A) ρ) 23 (.inl (20, f))) := by
  rw [pm_two_up (by decide) (Nat.le_of_ble_eq_true rfl)]; exact k (ua A 23 f)
theorem nm_a25 {M : pm_M} {G : pm_G} {B pc : Nat} {loc : List (Option Value)} {st : List Value} {cs zs cnt : Nat} {kp : pm_KP} {ρ : pm_S} {I : Nat → Int32} {A : Nat → Nat → Int32} {f : Nat → Int32} (k : ∀ A' : Nat → Nat → Int32, pm_wp M G B pc loc st cs zs cnt (pm_two (cl_L B kp I A') ρ)) : pm_wp M G B pc loc st cs zs cnt (pm_up (pm_two (cl_L B kp I A) ρ) 25 (.inl (60, f))) := by
  rw [pm_two_up (by decide) (Nat.le_of_ble_eq_true rfl)]; exact k (ua A 25 f)
theorem nm_a29 {M : pm_M} {G : pm_G} {B pc : Nat} {loc : List (Option Value)} {st : List Value} {cs zs cnt : Nat} {kp : pm_KP} {ρ : pm_S} {I : Nat → Int32} {A : Nat → Nat → Int32} {f : Nat → Int32} (k : ∀ A' : Nat → Nat → Int32, pm_wp M G B pc loc st cs zs cnt (pm_two (cl_L B kp I A') ρ)) : pm_wp M G B pc loc st cs zs cnt (pm_up (pm_two (cl_L B kp I A) ρ) 29 (.inl (60, f))) := by
  rw [pm_two_up (by decide) (Nat.le_of_ble_eq_true rfl)]; exact k (ua A 29 f)
theorem nm_a30 {M : pm_M} {G : pm_G} {B pc : Nat} {loc : List (Option Value)} {st : List Value} {cs zs cnt : Nat} {kp : pm_KP} {ρ : pm_S} {I : Nat → Int32} {A : Nat → Nat → Int32} {f : Nat → Int32} (k : ∀ A' : Nat → Nat → Int32, pm_wp M G B pc loc st cs zs cnt (pm_two (cl_L B kp I A') ρ)) : pm_wp M G B pc loc st cs zs cnt (pm_up (pm_two (cl_L B kp I A) ρ) 30 (.inl (60, f))) := by
  rw [pm_two_up (by decide) (Nat.le_of_ble_eq_true rfl)]; exact k (ua A 30 f)
theorem nm_a33 {M : pm_M} {G : pm_G} {B pc : Nat} {loc : List (Option Value)} {st : List Value} {cs zs cnt : Nat} {kp : pm_KP} {ρ : pm_S} {I : Nat → Int32} {A : Nat → Nat → Int32} {f : Nat → Int32} (k : ∀ A' : Nat → Nat → Int32, pm_wp M G B pc loc st cs zs cnt (pm_two (cl_L B kp I A') ρ)) : pm_wp M G B pc loc st cs zs cnt (pm_up (pm_two (cl_L B kp I A) ρ) 33 (.inl (20, f))) := by
  rw [pm_two_up (by decide) (Nat.le_of_ble_eq_true rfl)]; exact k (ua A 33 f)
theorem nm_a35 {M : pm_M} {G : pm_G} {B pc : Nat} {loc : List (Option Value)} {st : List Value} {cs zs cnt : Nat} {kp : pm_KP} {ρ : pm_S} {I : Nat → Int32} {A : Nat → Nat → Int32} {f : Nat → Int32} (k : ∀ A' : Nat → Nat → Int32, pm_wp M G B pc loc st cs zs cnt (pm_two (cl_L B kp I A') ρ)) : pm_wp M G B pc loc st cs zs cnt (pm_up (pm_two (cl_L B kp I A) ρ) 35 (.inl (9, f))) := by
  rw [pm_two_up (by decide) (Nat.le_of_ble_eq_true rfl)]; exact k (ua A 35 f)
theorem nm_a39 {M : pm_M} {G : pm_G} {B pc : Nat} {loc : List (Option Value)} {st : List Value} {cs zs cnt : Nat} {kp : pm_KP} {ρ : pm_S} {I : Nat → Int32} {A : Nat → Nat → Int32} {f : Nat → Int32} (k : ∀ A' : Nat → Nat → Int32, pm_wp M G B pc loc st cs zs cnt (pm_two (cl_L B kp I A') ρ)) : pm_wp M G B pc loc st cs zs cnt (pm_up (pm_two (cl_L B kp I A) ρ) 39 (.inl (20, f))) := by
  rw [pm_two_up (by decide) (Nat.le_of_ble_eq_true rfl)]; exact k (ua A 39 f)
theorem nm_a41 {M : pm_M} {G : pm_G} {B pc : Nat} {loc : List (Option Value)} {st : List Value} {cs zs cnt : Nat} {kp : pm_KP} {ρ : pm_S} {I : Nat → Int32} {A : Nat → Nat → Int32} {f : Nat → Int32} (k : ∀ A' : Nat → Nat → Int32, pm_wp M G B pc loc st cs zs cnt (pm_two (cl_L B kp I A') ρ)) : pm_wp M G B pc loc st cs zs cnt (pm_up (pm_two (cl_L B kp I A) ρ) 41 (.inl (5, f))) := by
  rw [pm_two_up (by decide) (Nat.le_of_ble_eq_true rfl)]; exact k (ua A 41 f)
theorem nm_a43 {M : pm_M} {G : pm_G} {B pc : Nat} {loc : List (Option Value)} {st : List Value} {cs zs cnt : Nat} {kp : pm_KP} {ρ : pm_S} {I : Nat → Int32} {A : Nat → Nat → Int32} {f : Nat → Int32} (k : ∀ A' : Nat → Nat → Int32, pm_wp M G B pc loc st cs zs cnt (pm_two (cl_L B kp I A') ρ)) : pm_wp M G B pc loc st cs zs cnt (pm_up (pm_two (cl_L B kp I A) ρ) 43 (.inl (64, f))) := by
  rw [pm_two_up (by decide) (Nat.le_of_ble_eq_true rfl)]; exact k (ua A 43 f)
theorem nm_a44 {M : pm_M} {G : pm_G} {B pc : Nat} {loc : List (Option Value)} {st : List Value} {cs zs cnt : Nat} {kp : pm_KP} {ρ : pm_S} {I : Nat → Int32} {A : Nat → Nat → Int32} {f : Nat → Int32} (k : ∀ A' : Nat → Nat → Int32, pm_wp M G B pc loc st cs zs cnt (pm_two (cl_L B kp I A') ρ)) : pm_wp M G B pc loc st cs zs cnt (pm_up (pm_two (cl_L B kp I A) ρ) 44 (.inl (64, f))) := by
  rw [pm_two_up (by decide) (Nat.le_of_ble_eq_true rfl)]; exact k (ua A 44 f)
theorem nm_a45 {M : pm_M} {G : pm_G} {B pc : Nat} {loc : List (Option Value)} {st : List Value} {cs zs cnt : Nat} {kp : pm_KP} {ρ : pm_S} {I : Nat → Int32} {A : Nat → Nat → Int32} {f : Nat → Int32} (k : ∀ A' : Nat → Nat → Int32, pm_wp M G B pc loc st cs zs cnt (pm_two (cl_L B kp I A') ρ)) : pm_wp M G B pc loc st cs zs cnt (pm_up (pm_two (cl_L B kp I A) ρ) 45 (.inl (64, f))) := by
  rw [pm_two_up (by decide) (Nat.le_of_ble_eq_true rfl)]; exact k (ua A 45 f)
theorem nm_a47 {M : pm_M} {G : pm_G} {B pc : Nat} {loc : List (Option Value)} {st : List Value} {cs zs cnt : Nat} {kp : pm_KP} {ρ : pm_S} {I : Nat → Int32} {A : Nat → Nat → Int32} {f : Nat → Int32} (k : ∀ A' : Nat → Nat → Int32, pm_wp M G B pc loc st cs zs cnt (pm_two (cl_L B kp I A') ρ)) : pm_wp M G B pc loc st cs zs cnt (pm_up (pm_two (cl_L B kp I A) ρ) 47 (.inl (40, f))) := by
  rw [pm_two_up (by decide) (Nat.le_of_ble_eq_true rfl)]; exact k (ua A 47 f)
theorem nm_a49 {M : pm_M} {G : pm_G} {B pc : Nat} {loc : List (Option Value)} {st : List Value} {cs zs cnt : Nat} {kp : pm_KP} {ρ : pm_S} {I : Nat → Int32} {A : Nat → Nat → Int32} {f : Nat → Int32} (k : ∀ A' : Nat → Nat → Int32, pm_wp M G B pc loc st cs zs cnt (pm_two (cl_L B kp I A') ρ)) : pm_wp M G B pc loc st cs zs cnt (pm_up (pm_two (cl_L B kp I A) ρ) 49 (.inl (4, f))) := by
  rw [pm_two_up (by decide) (Nat.le_of_ble_eq_true rfl)]; exact k (ua A 49 f)
theorem nm_a50 {M : pm_M} {G : pm_G} {B pc : Nat} {loc : List (Option Value)} {st : List Value} {cs zs cnt : Nat} {kp : pm_KP} {ρ : pm_S} {I : Nat → Int32} {A : Nat → Nat → Int32} {f : Nat → Int32} (k : ∀ A' : Nat → Nat → Int32, pm_wp M G B pc loc st cs zs cnt (pm_two (cl_L B kp I A') ρ)) : pm_wp M G B pc loc st cs zs cnt (pm_up (pm_two (cl_L B kp I A) ρ) 50 (.inl (4, f))) := by
  rw [pm_two_up (by decide) (Nat.le_of_ble_eq_true rfl)]; exact k (ua A 50 f)
theorem nm_a52 {M : pm_M} {G : pm_G} {B pc : Nat} {loc : List (Option Value)} {st : List Value} {cs zs cnt : Nat} {kp : pm_KP} {ρ : pm_S} {I : Nat → Int32} {A : Nat → Nat → Int32} {f : Nat → Int32} (k : ∀ A' : Nat → Nat → Int32, pm_wp M G B pc loc st cs zs cnt (pm_two (cl_L B kp I A') ρ)) : pm_wp M G B pc loc st cs zs cnt (pm_up (pm_two (cl_L B kp I A) ρ) 52 (.inl (96, f))) := by
  rw [pm_two_up (by decide) (Nat.le_of_ble_eq_true rfl)]; exact k (ua A 52 f)
theorem nm_a53 {M : pm_M} {G : pm_G} {B pc : Nat} {loc : List (Option Value)} {st : List Value} {cs zs cnt : Nat} {kp : pm_KP} {ρ : pm_S} {I : Nat → Int32} {A : Nat → Nat → Int32} {f : Nat → Int32} (k : ∀ A' : Nat → Nat → Int32, pm_wp M G B pc loc st cs zs cnt (pm_two (cl_L B kp I A') ρ)) : pm_wp M G B pc loc st cs zs cnt (pm_up (pm_two (cl_L B kp I A) ρ) 53 (.inl (6, f))) := by
  rw [pm_two_up (by decide) (Nat.le_of_ble_eq_true rfl)]; exact k (ua A 53 f)
theorem nm_i100 {ε : Nat → Int32} {M : pm_M} {G : pm_G} {B pc : Nat} {loc : List (Option Value)} {st : List Value} {cs zs cnt : Nat} {kp : pm_KP} {ρ : pm_S} {I : Nat → Int32} {A : Nat → Nat → Int32} {v : Int32} (h : gq ε I) (k : ∀ I' : Nat → Int32, gq ε I' → pm_wp M G B pc loc st cs zs cnt (pm_two (cl_L B kp I' A) ρ)) : pm_wp M G B pc loc st cs zs cnt (pm_up (pm_two (cl_L B kp I A) ρ) 0 (.inr (11, [.ref (B + 1), .ref (B + 26), .ref (B + 31), .ref (B + 36), .ref (B + 37), .ref (B + 40), .ref (B + 42), .ref (B + 46), .ref (B + 48), .ref (B + 53), kp.1, .int v]))) := by
  rw [pm_two_up (by decide) (Nat.le_of_ble_eq_true rfl)]; exact k (ui I 100 v) (gq.wi (k := 100) rfl h)
theorem nm_i101 {ε : Nat → Int32} {M : pm_M} {G : pm_G} {B pc : Nat} {loc : List (Option Value)} {st : List Value} {cs zs cnt : Nat} {kp : pm_KP} {ρ : pm_S} {I : Nat → Int32} {A : Nat → Nat → Int32} {v : Int32} (h : gq ε I) (k : ∀ I' : Nat → Int32, gq ε I' → pm_wp M G B pc loc st cs zs cnt (pm_two (cl_L B kp I' A) ρ)) : pm_wp M G B pc loc st cs zs cnt (pm_up (pm_two (cl_L B kp I A) ρ) 1 (.inr (7, [.ref (B + 2), .ref (B + 4), .ref (B + 6), .ref (B + 8), .ref (B + 10), .ref (B + 12), .ref (B + 14), .ref (B + 16), .ref (B + 18), .ref (B + 20), .ref (B + 22), .ref (B + 24), .int v, .int (I 102), .int (I 103)]))) := by
  rw [pm_two_up (by decide) (Nat.le_of_ble_eq_true rfl)]; exact k (ui I 101 v) (gq.wi (k := 101) rfl h)
theorem nm_i103 {ε : Nat → Int32} {M : pm_M} {G : pm_G} {B pc : Nat} {loc : List (Option Value)} {st : List Value} {cs zs cnt : Nat} {kp : pm_KP} {ρ : pm_S} {I : Nat → Int32} {A : Nat → Nat → Int32} {v : Int32} (h : gq ε I) (k : ∀ I' : Nat → Int32, gq ε I' → pm_wp M G B pc loc st cs zs cnt (pm_two (cl_L B kp I' A) ρ)) : pm_wp M G B pc loc st cs zs cnt (pm_up (pm_two (cl_L B kp I A) ρ) 1 (.inr (7, [.ref (B + 2), .ref (B + 4), .ref (B + 6), .ref (B + 8), .ref (B + 10), .ref (B + 12), .ref (B + 14), .ref (B + 16), .ref (B + 18), .ref (B + 20), .ref (B + 22), .ref (B + 24), .int (I 101), .int (I 102), .int v]))) := by
  rw [pm_two_up (by decide) (Nat.le_of_ble_eq_true rfl)]; exact k (ui I 103 v) (gq.wi (k := 103) rfl h)
theorem nm_i104 {ε : Nat → Int32} {M : pm_M} {G : pm_G} {B pc : Nat} {loc : List (Option Value)} {st : List Value} {cs zs cnt : Nat} {kp : pm_KP} {ρ : pm_S} {I : Nat → Int32} {A : Nat → Nat → Int32} {v : Int32} (h : gq ε I) (k : ∀ I' : Nat → Int32, gq ε I' → pm_wp M G B pc loc st cs zs cnt (pm_two (cl_L B kp I' A) ρ)) : pm_wp M G B pc loc st cs zs cnt (pm_up (pm_two (cl_L B kp I A) ρ) 26 (.inr (2, [.ref (B + 1), .ref (B + 27), .ref (B + 30), .int v]))) := by
  rw [pm_two_up (by decide) (Nat.le_of_ble_eq_true rfl)]; exact k (ui I 104 v) (gq.wi (k := 104) rfl h)
theorem nm_i105 {ε : Nat → Int32} {M : pm_M} {G : pm_G} {B pc : Nat} {loc : List (Option Value)} {st : List Value} {cs zs cnt : Nat} {kp : pm_KP} {ρ : pm_S} {I : Nat → Int32} {A : Nat → Nat → Int32} {v : Int32} (h : gq ε I) (k : ∀ I' : Nat → Int32, gq ε I' → pm_wp M G B pc loc st cs zs cnt (pm_two (cl_L B kp I' A) ρ)) : pm_wp M G B pc loc st cs zs cnt (pm_up (pm_two (cl_L B kp I A) ρ) 27 (.inr (6, [.ref (B + 24), .ref (B + 28), .int v, .int (I 106)]))) := by
  rw [pm_two_up (by decide) (Nat.le_of_ble_eq_true rfl)]; exact k (ui I 105 v) (gq.wi (k := 105) rfl h)
theorem nm_i106 {ε : Nat → Int32} {M : pm_M} {G : pm_G} {B pc : Nat} {loc : List (Option Value)} {st : List Value} {cs zs cnt : Nat} {kp : pm_KP} {ρ : pm_S} {I : Nat → Int32} {A : Nat → Nat → Int32} {v : Int32} (h : gq ε I) (k : ∀ I' : Nat → Int32, gq ε I' → pm_wp M G B pc loc st cs zs cnt (pm_two (cl_L B kp I' A) ρ)) : pm_wp M G B pc loc st cs zs cnt (pm_up (pm_two (cl_L B kp I A) ρ) 27 (.inr (6, [.ref (B + 24), .ref (B + 28), .int (I 105), .int v]))) := by
  rw [pm_two_up (by decide) (Nat.le_of_ble_eq_true rfl)]; exact k (ui I 106 v) (gq.wi (k := 106) rfl h)
theorem nm_i107 {ε : Nat → Int32} {M : pm_M} {G : pm_G} {B pc : Nat} {loc : List (Option Value)} {st : List Value} {cs zs cnt : Nat} {kp : pm_KP} {ρ : pm_S} {I : Nat → Int32} {A : Nat → Nat → Int32} {v : Int32} (h : gq ε I) (k : ∀ I' : Nat → Int32, gq ε I' → pm_wp M G B pc loc st cs zs cnt (pm_two (cl_L B kp I' A) ρ)) : pm_wp M G B pc loc st cs zs cnt (pm_up (pm_two (cl_L B kp I A) ρ) 31 (.inr (0, [.ref (B + 1), .ref (B + 26), .ref (B + 18), .ref (B + 32), .ref (B + 34), .int v, .int (I 108), .int (I 109), .int (I 110)]))) := by
  rw [pm_two_up (by decide) (Nat.le_of_ble_eq_true rfl)]; exact k (ui I 107 v) (gq.wi (k := 107) rfl h)
theorem nm_i108 {ε : Nat → Int32} {M : pm_M} {G : pm_G} {B pc : Nat} {loc : List (Option Value)} {st : List Value} {cs zs cnt : Nat} {kp : pm_KP} {ρ : pm_S} {I : Nat → Int32} {A : Nat → Nat → Int32} {v : Int32} (h : gq ε I) (k : ∀ I' : Nat → Int32, gq ε I' → pm_wp M G B pc loc st cs zs cnt (pm_two (cl_L B kp I' A) ρ)) : pm_wp M G B pc loc st cs zs cnt (pm_up (pm_two (cl_L B kp I A) ρ) 31 (.inr (0, [.ref (B + 1), .ref (B + 26), .ref (B + 18), .ref (B + 32), .ref (B + 34), .int (I 107), .int v, .int (I 109), .int (I 110)]))) := by
  rw [pm_two_up (by decide) (Nat.le_of_ble_eq_true rfl)]; exact k (ui I 108 v) (gq.wi (k := 108) rfl h)
theorem nm_i109 {ε : Nat → Int32} {M : pm_M} {G : pm_G} {B pc : Nat} {loc : List (Option Value)} {st : List Value} {cs zs cnt : Nat} {kp : pm_KP} {ρ : pm_S} {I : Nat → Int32} {A : Nat → Nat → Int32} {v : Int32} (h : gq ε I) (k : ∀ I' : Nat → Int32, gq ε I' → pm_wp M G B pc loc st cs zs cnt (pm_two (cl_L B kp I' A) ρ)) : pm_wp M G B pc loc st cs zs cnt (pm_up (pm_two (cl_L B kp I A) ρ) 31 (.inr (0, [.ref (B + 1), .ref (B + 26), .ref (B + 18), .ref (B + 32), .ref (B + 34), .int (I 107), .int (I 108), .int v, .int (I 110)]))) := by
  rw [pm_two_up (by decide) (Nat.le_of_ble_eq_true rfl)]; exact k (ui I 109 v) (gq.wi (k := 109) rfl h)
theorem nm_i110 {ε : Nat → Int32} {M : pm_M} {G : pm_G} {B pc : Nat} {loc : List (Option Value)} {st : List Value} {cs zs cnt : Nat} {kp : pm_KP} {ρ : pm_S} {I : Nat → Int32} {A : Nat → Nat → Int32} {v : Int32} (h : gq ε I) (k : ∀ I' : Nat → Int32, gq ε I' → pm_wp M G B pc loc st cs zs cnt (pm_two (cl_L B kp I' A) ρ)) : pm_wp M G B pc loc st cs zs cnt (pm_up (pm_two (cl_L B kp I A) ρ) 31 (.inr (0, [.ref (B + 1), .ref (B + 26), .ref (B + 18), .ref (B + 32), .ref (B + 34), .int (I 107), .int (I 108), .int (I 109), .int v]))) := by
  rw [pm_two_up (by decide) (Nat.le_of_ble_eq_true rfl)]; exact k (ui I 110 v) (gq.wi (k := 110) rfl h)
theorem nm_i111 {ε : Nat → Int32} {M : pm_M} {G : pm_G} {B pc : Nat} {loc : List (Option Value)} {st : List Value} {cs zs cnt : Nat} {kp : pm_KP} {ρ : pm_S} {I : Nat → Int32} {A : Nat → Nat → Int32} {v : Int32} (h : gq ε I) (k : ∀ I' : Nat → Int32, gq ε I' → pm_wp M G B pc loc st cs zs cnt (pm_two (cl_L B kp I' A) ρ)) : pm_wp M G B pc loc st cs zs cnt (pm_up (pm_two (cl_L B kp I A) ρ) 40 (.inr (1, [.ref (B + 1), .ref (B + 41), .int v]))) := by
  rw [pm_two_up (by decide) (Nat.le_of_ble_eq_true rfl)]; exact k (ui I 111 v) (gq.wi (k := 111) rfl h)
theorem nm_i112 {ε : Nat → Int32} {M : pm_M} {G : pm_G} {B pc : Nat} {loc : List (Option Value)} {st : List Value} {cs zs cnt : Nat} {kp : pm_KP} {ρ : pm_S} {I : Nat → Int32} {A : Nat → Nat → Int32} {v : Int32} (h : gq ε I) (k : ∀ I' : Nat → Int32, gq ε I' → pm_wp M G B pc loc st cs zs cnt (pm_two (cl_L B kp I' A) ρ)) : pm_wp M G B pc loc st cs zs cnt (pm_up (pm_two (cl_L B kp I A) ρ) 42 (.inr (5, [.ref (B + 1), .ref (B + 43), .ref (B + 44), .ref (B + 45), .int v, .int (I 113), .int (I 114)]))) := by
  rw [pm_two_up (by decide) (Nat.le_of_ble_eq_true rfl)]; exact k (ui I 112 v) (gq.wi (k := 112) rfl h)
theorem nm_i113 {ε : Nat → Int32} {M : pm_M} {G : pm_G} {B pc : Nat} {loc : List (Option Value)} {st : List Value} {cs zs cnt : Nat} {kp : pm_KP} {ρ : pm_S} {I : Nat → Int32} {A : Nat → Nat → Int32} {v : Int32} (h : gq ε I) (k : ∀ I' : Nat → Int32, gq ε I' → pm_wp M G B pc loc st cs zs cnt (pm_two (cl_L B kp I' A) ρ)) : pm_wp M G B pc loc st cs zs cnt (pm_up (pm_two (cl_L B kp I A) ρ) 42 (.inr (5, [.ref (B + 1), .ref (B + 43), .ref (B + 44), .ref (B + 45), .int (I 112), .int v, .int (I 114)]))) := by
  rw [pm_two_up (by decide) (Nat.le_of_ble_eq_true rfl)]; exact k (ui I 113 v) (gq.wi (k := 113) rfl h)
theorem nm_i114 {ε : Nat → Int32} {M : pm_M} {G : pm_G} {B pc : Nat} {loc : List (Option Value)} {st : List Value} {cs zs cnt : Nat} {kp : pm_KP} {ρ : pm_S} {I : Nat → Int32} {A : Nat → Nat → Int32} {v : Int32} (h : gq ε I) (k : ∀ I' : Nat → Int32, gq ε I' → pm_wp M G B pc loc st cs zs cnt (pm_two (cl_L B kp I' A) ρ)) : pm_wp M G B pc loc st cs zs cnt (pm_up (pm_two (cl_L B kp I A) ρ) 42 (.inr (5, [.ref (B + 1), .ref (B + 43), .ref (B + 44), .ref (B + 45), .int (I 112), .int (I 113), .int v]))) := by
  rw [pm_two_up (by decide) (Nat.le_of_ble_eq_true rfl)]; exact k (ui I 114 v) (gq.wi (k := 114) rfl h)
theorem nm_i115 {ε : Nat → Int32} {M : pm_M} {G : pm_G} {B pc : Nat} {loc : List (Option Value)} {st : List Value} {cs zs cnt : Nat} {kp : pm_KP} {ρ : pm_S} {I : Nat → Int32} {A : Nat → Nat → Int32} {v : Int32} (h : gq ε I) (k : ∀ I' : Nat → Int32, gq ε I' → pm_wp M G B pc loc st cs zs cnt (pm_two (cl_L B kp I' A) ρ)) : pm_wp M G B pc loc st cs zs cnt (pm_up (pm_two (cl_L B kp I A) ρ) 46 (.inr (10, [.ref (B + 47), .int v, .int (I 116), .int (I 117), .int (I 118)]))) := by
  rw [pm_two_up (by decide) (Nat.le_of_ble_eq_true rfl)]; exact k (ui I 115 v) (gq.wi (k := 115) rfl h)
theorem nm_i116 {ε : Nat → Int32} {M : pm_M} {G : pm_G} {B pc : Nat} {loc : List (Option Value)} {st : List Value} {cs zs cnt : Nat} {kp : pm_KP} {ρ : pm_S} {I : Nat → Int32} {A : Nat → Nat → Int32} {v : Int32} (h : gq ε I) (k : ∀ I' : Nat → Int32, gq ε I' → pm_wp M G B pc loc st cs zs cnt (pm_two (cl_L B kp I' A) ρ)) : pm_wp M G B pc loc st cs zs cnt (pm_up (pm_two (cl_L B kp I A) ρ) 46 (.inr (10, [.ref (B + 47), .int (I 115), .int v, .int (I 117), .int (I 118)]))) := by
  rw [pm_two_up (by decide) (Nat.le_of_ble_eq_true rfl)]; exact k (ui I 116 v) (gq.wi (k := 116) rfl h)
theorem nm_i117 {ε : Nat → Int32} {M : pm_M} {G : pm_G} {B pc : Nat} {loc : List (Option Value)} {st : List Value} {cs zs cnt : Nat} {kp : pm_KP} {ρ : pm_S} {I : Nat → Int32} {A : Nat → Nat → Int32} {v : Int32} (h : gq ε I) (k : ∀ I' : Nat → Int32, gq ε I' → pm_wp M G B pc loc st cs zs cnt (pm_two (cl_L B kp I' A) ρ)) : pm_wp M G B pc loc st cs zs cnt (pm_up (pm_two (cl_L B kp I A) ρ) 46 (.inr (10, [.ref (B + 47), .int (I 115), .int (I 116), .int v, .int (I 118)]))) := by
  rw [pm_two_up (by decide) (Nat.le_of_ble_eq_true rfl)]; exact k (ui I 117 v) (gq.wi (k := 117) rfl h)
theorem nm_i118 {ε : Nat → Int32} {M : pm_M} {G : pm_G} {B pc : Nat} {loc : List (Option Value)} {st : List Value} {cs zs cnt : Nat} {kp : pm_KP} {ρ : pm_S} {I : Nat → Int32} {A : Nat → Nat → Int32} {v : Int32} (h : gq ε I) (k : ∀ I' : Nat → Int32, gq ε I' → pm_wp M G B pc loc st cs zs cnt (pm_two (cl_L B kp I' A) ρ)) : pm_wp M G B pc loc st cs zs cnt (pm_up (pm_two (cl_L B kp I A) ρ) 46 (.inr (10, [.ref (B + 47), .int (I 115), .int (I 116), .int (I 117), .int v]))) := by
  rw [pm_two_up (by decide) (Nat.le_of_ble_eq_true rfl)]; exact k (ui I 118 v) (gq.wi (k := 118) rfl h)
theorem hv_a3 {ε : Nat → Int32} {B cnt cnt' : Nat} {kp : pm_KP} {ρ σ' : pm_S} {I : Nat → Int32} {A : Nat → Nat → Int32} {f : Nat → Int32} (h : gq ε I) (hq : σ' = pm_up (pm_two (cl_L B kp I A) ρ) 3 (.inl (30, f)) ∧ cnt' = cnt) : hvq ε B kp ρ cnt σ' cnt' := ⟨I, ua A 3 f, by rw [hq.1, pm_two_up (by decide) (Nat.le_of_ble_eq_true rfl)]; rfl, hq.2.symm, h⟩
theorem hv_a5 {ε : Nat → Int32} {B cnt cnt' : Nat} {kp : pm_KP} {ρ σ' : pm_S} {I : Nat → Int32} {A : Nat → Nat → Int32} {f : Nat → Int32} (h : gq ε I) (hq : σ' = pm_up (pm_two (cl_L B kp I A) ρ) 5 (.inl (100, f)) ∧ cnt' = cnt) : hvq ε B kp ρ cnt σ' cnt' := ⟨I, ua A 5 f, by rw [hq.1, pm_two_up (by decide) (Nat.le_of_ble_eq_true rfl)]; rfl, hq.2.symm, h⟩
theorem hv_c4 {ε : Nat → Int32} {B cnt cnt' : Nat} {kp : pm_KP} {ρ σ' : pm_S} {I : Nat → Int32} {A : Nat → Nat → Int32} (h : gq ε I) (hq : σ' = pm_up (pm_two (cl_L B kp I A) ρ) 4 (.inr (9, [.int 10, .int 10, .ref (B + 5), .int 0])) ∧ cnt' = cnt) : hvq ε B kp ρ cnt σ' cnt' := ⟨ui I 4 0, A, by rw [hq.1, pm_two_up (by decide) (Nat.le_of_ble_eq_true rfl)]; rfl, hq.2.symm, gq.wT 10 0 rfl (Nat.zero_le _) rfl h⟩
theorem hv_p4 {ε : Nat → Int32} {B cnt cnt' : Nat} {kp : pm_KP} {ρ σ' : pm_S} {I : Nat → Int32} {A : Nat → Nat → Int32} {u : Nat} {v : Int32} {f : Nat → Int32} (hk : u ≤ 10) (h : gq ε I) (hq : ((u = 10 ∧ v = -1 ∧ σ' = pm_two (cl_L B kp I A) ρ) ∨ (u < 10 ∧ v = nI u ∧ σ' = pm_up (pm_up (pm_two (cl_L B kp I A) ρ) 4 (.inr (9, [.int (nI 10), .int (nI 10), .ref (B + 5), .int (nI (u + 1))]))) 5 (.inl (100, f)))) ∧ cnt' = cnt) : hvq ε B kp ρ cnt σ' cnt' := by
  obtain ⟨⟨-, -, e1⟩ | ⟨h1, -, e1⟩, e2⟩ := hq
  · exact ⟨I, A, e1, e2.symm, h⟩
  · refine ⟨ui I 4 (nI (u + 1)), ua A 5 f, ?_, e2.symm, gq.wT 10 (u + 1) rfl h1 rfl h⟩
    rw [e1, pm_two_up (by decide) (Nat.le_of_ble_eq_true rfl), pm_two_up (by decide) (Nat.le_of_ble_eq_true rfl)]; rfl
theorem ts7 {T g : Nat → Int32} {row x : Int32} (c : Nat) (hc : c < 14) (hn : c ≠ 0 ∧ c ≠ 1 ∧ c ≠ 9 ∧ c ≠ 13) : ∀ j : Nat, t7 j = true → pm_ts (nI 20) (nI 14) (cmx T g) row (nI c) x j = T j := by
  intro j hj
  have h1 := t7_iff.mp hj
  have e : j = j / 14 * 14 + j % 14 := by omega
  have h2 := pm_ts_col (R := 20) (W := 14) (c := c) (k := j % 14) (p := j / 14) (f := cmx T g) (row := row) (x := x) (by decide) (by decide) (by decide) hc (by omega) (by omega)
  rw [← e] at h2
  rw [h2]; exact cmx_t hj
theorem hv_s7 {ε : Nat → Int32} {B cnt cnt' : Nat} {kp : pm_KP} {ρ σ' : pm_S} {I : Nat → Int32} {A : Nat → Nat → Int32} {F : Nat → Int32} (hF : ∀ j : Nat, t7 j = true → F j = kp.2 j) (h : gq ε I) (hq : σ' = pm_up (pm_two (cl_L B kp I A) ρ) 7 (.inl (280, F)) ∧ cnt' = cnt) : hvq ε B kp ρ cnt σ' cnt' := by
  refine ⟨I, ua A 7 F, ?_, hq.2.symm, h⟩
  have e : (cl_L B kp I A).set 7 (.inl (280, cmx kp.2 F)) = cl_L B kp I (ua A 7 F) := rfl
  rw [cmx_of hF] at e
  rw [hq.1, pm_two_up (by decide) (Nat.le_of_ble_eq_true rfl), e]
theorem hv_a9 {ε : Nat → Int32} {B cnt cnt' : Nat} {kp : pm_KP} {ρ σ' : pm_S} {I : Nat → Int32} {A : Nat → Nat → Int32} {f : Nat → Int32} (h : gq ε I) (hq : σ' = pm_up (pm_two (cl_L B kp I A) ρ) 9 (.inl (120, f)) ∧ cnt' = cnt) : hvq ε B kp ρ cnt σ' cnt' := ⟨I, ua A 9 f, by rw [hq.1, pm_two_up (by decide) (Nat.le_of_ble_eq_true rfl)]; rfl, hq.2.symm, h⟩
theorem hv_c8 {ε : Nat → Int32} {B cnt cnt' : Nat} {kp : pm_KP} {ρ σ' : pm_S} {I : Nat → Int32} {A : Nat → Nat → Int32} (h : gq ε I) (hq : σ' = pm_up (pm_two (cl_L B kp I A) ρ) 8 (.inr (9, [.int 20, .int 6, .ref (B + 9), .int 0])) ∧ cnt' = cnt) : hvq ε B kp ρ cnt σ' cnt' := ⟨ui I 8 0, A, by rw [hq.1, pm_two_up (by decide) (Nat.le_of_ble_eq_true rfl)]; rfl, hq.2.symm, gq.wT 20 0 rfl (Nat.zero_le _) rfl h⟩
theorem hv_p8 {ε : Nat → Int32} {B cnt cnt' : Nat} {kp : pm_KP} {ρ σ' : pm_S} {I : Nat → Int32} {A : Nat → Nat → Int32} {u : Nat} {v : Int32} {f : Nat → Int32} (hk : u ≤ 20) (h : gq ε I) (hq : ((u = 20 ∧ v = -1 ∧ σ' = pm_two (cl_L B kp I A) ρ) ∨ (u < 20 ∧ v = nI u ∧ σ' = pm_up (pm_up (pm_two (cl_L B kp I A) ρ) 8 (.inr (9, [.int (nI 20), .int (nI 6), .ref (B + 9), .int (nI (u + 1))]))) 9 (.inl (120, f)))) ∧ cnt' = cnt) : hvq ε B kp ρ cnt σ' cnt' := by
  obtain ⟨⟨-, -, e1⟩ | ⟨h1, -, e1⟩, e2⟩ := hq
  · exact ⟨I, A, e1, e2.symm, h⟩
  · refine ⟨ui I 8 (nI (u + 1)), ua A 9 f, ?_, e2.symm, gq.wT 20 (u + 1) rfl h1 rfl h⟩
    rw [e1, pm_two_up (by decide) (Nat.le_of_ble_eq_true rfl), pm_two_up (by decide) (Nat.le_of_ble_eq_true rfl)]; rfl
theorem hv_a11 {ε : Nat → Int32} {B cnt cnt' : Nat} {kp : pm_KP} {ρ σ' : pm_S} {I : Nat → Int32} {A : Nat → Nat → Int32} {f : Nat → Int32} (h : gq ε I) (hq : σ' = pm_up (pm_two (cl_L B kp I A) ρ) 11 (.inl (72, f)) ∧ cnt' = cnt) : hvq ε B kp ρ cnt σ' cnt' := ⟨I, ua A 11 f, by rw [hq.1, pm_two_up (by decide) (Nat.le_of_ble_eq_true rfl)]; rfl, hq.2.symm, h⟩
theorem hv_c10 {ε : Nat → Int32} {B cnt cnt' : Nat} {kp : pm_KP} {ρ σ' : pm_S} {I : Nat → Int32} {A : Nat → Nat → Int32} (h : gq ε I) (hq : σ' = pm_up (pm_two (cl_L B kp I A) ρ) 10 (.inr (9, [.int 12, .int 6, .ref (B + 11), .int 0])) ∧ cnt' = cnt) : hvq ε B kp ρ cnt σ' cnt' := ⟨ui I 10 0, A, by rw [hq.1, pm_two_up (by decide) (Nat.le_of_ble_eq_true rfl)]; rfl, hq.2.symm, gq.wT 12 0 rfl (Nat.zero_le _) rfl h⟩
theorem hv_p10 {ε : Nat → Int32} {B cnt cnt' : Nat} {kp : pm_KP} {ρ σ' : pm_S} {I : Nat → Int32} {A : Nat → Nat → Int32} {u : Nat} {v : Int32} {f : Nat → Int32} (hk : u ≤ 12) (h : gq ε I) (hq : ((u = 12 ∧ v = -1 ∧ σ' = pm_two (cl_L B kp I A) ρ) ∨ (u < 12 ∧ v = nI u ∧ σ' = pm_up (pm_up (pm_two (cl_L B kp I A) ρ) 10 (.inr (9, [.int (nI 12), .int (nI 6), .ref (B + 11), .int (nI (u + 1))]))) 11 (.inl (72, f)))) ∧ cnt' = cnt) : hvq ε B kp ρ cnt σ' cnt' := by
  obtain ⟨⟨-, -, e1⟩ | ⟨h1, -, e1⟩, e2⟩ := hq
  · exact ⟨I, A, e1, e2.symm, h⟩
  · refine ⟨ui I 10 (nI (u + 1)), ua A 11 f, ?_, e2.symm, gq.wT 12 (u + 1) rfl h1 rfl h⟩
    rw [e1, pm_two_up (by decide) (Nat.le_of_ble_eq_true rfl), pm_two_up (by decide) (Nat.le_of_ble_eq_true rfl)]; rfl
theorem hv_a13 {ε : Nat → Int32} {B cnt cnt' : Nat} {kp : pm_KP} {ρ σ' : pm_S} {I : Nat → Int32} {A : Nat → Nat → Int32} {f : Nat → Int32} (h : gq ε I) (hq : σ' = pm_up (pm_two (cl_L B kp I A) ρ) 13 (.inl (720, f)) ∧ cnt' = cnt) : hvq ε B kp ρ cnt σ' cnt' := ⟨I, ua A 13 f, by rw [hq.1, pm_two_up (by decide) (Nat.le_of_ble_eq_true rfl)]; rfl, hq.2.symm, h⟩
theorem hv_c12 {ε : Nat → Int32} {B cnt cnt' : Nat} {kp : pm_KP} {ρ σ' : pm_S} {I : Nat → Int32} {A : Nat → Nat → Int32} (h : gq ε I) (hq : σ' = pm_up (pm_two (cl_L B kp I A) ρ) 12 (.inr (9, [.int 12, .int 60, .ref (B + 13), .int 0])) ∧ cnt' = cnt) : hvq ε B kp ρ cnt σ' cnt' := ⟨ui I 12 0, A, by rw [hq.1, pm_two_up (by decide) (Nat.le_of_ble_eq_true rfl)]; rfl, hq.2.symm, gq.wT 12 0 rfl (Nat.zero_le _) rfl h⟩
theorem hv_p12 {ε : Nat → Int32} {B cnt cnt' : Nat} {kp : pm_KP} {ρ σ' : pm_S} {I : Nat → Int32} {A : Nat → Nat → Int32} {u : Nat} {v : Int32} {f : Nat → Int32} (hk : u ≤ 12) (h : gq ε I) (hq : ((u = 12 ∧ v = -1 ∧ σ' = pm_two (cl_L B kp I A) ρ) ∨ (u < 12 ∧ v = nI u ∧ σ' = pm_up (pm_up (pm_two (cl_L B kp I A) ρ) 12 (.inr (9, [.int (nI 12), .int (nI 60), .ref (B + 13), .int (nI (u + 1))]))) 13 (.inl (720, f)))) ∧ cnt' = cnt) : hvq ε B kp ρ cnt σ' cnt' := by
  obtain ⟨⟨-, -, e1⟩ | ⟨h1, -, e1⟩, e2⟩ := hq
  · exact ⟨I, A, e1, e2.symm, h⟩
  · refine ⟨ui I 12 (nI (u + 1)), ua A 13 f, ?_, e2.symm, gq.wT 12 (u + 1) rfl h1 rfl h⟩
    rw [e1, pm_two_up (by decide) (Nat.le_of_ble_eq_true rfl), pm_two_up (by decide) (Nat.le_of_ble_eq_true rfl)]; rfl
theorem hv_a15 {ε : Nat → Int32} {B cnt cnt' : Nat} {kp : pm_KP} {ρ σ' : pm_S} {I : Nat → Int32} {A : Nat → Nat → Int32} {f : Nat → Int32} (h : gq ε I) (hq : σ' = pm_up (pm_two (cl_L B kp I A) ρ) 15 (.inl (480, f)) ∧ cnt' = cnt) : hvq ε B kp ρ cnt σ' cnt' := ⟨I, ua A 15 f, by rw [hq.1, pm_two_up (by decide) (Nat.le_of_ble_eq_true rfl)]; rfl, hq.2.symm, h⟩
theorem hv_c14 {ε : Nat → Int32} {B cnt cnt' : Nat} {kp : pm_KP} {ρ σ' : pm_S} {I : Nat → Int32} {A : Nat → Nat → Int32} (h : gq ε I) (hq : σ' = pm_up (pm_two (cl_L B kp I A) ρ) 14 (.inr (9, [.int 40, .int 12, .ref (B + 15), .int 0])) ∧ cnt' = cnt) : hvq ε B kp ρ cnt σ' cnt' := ⟨ui I 14 0, A, by rw [hq.1, pm_two_up (by decide) (Nat.le_of_ble_eq_true rfl)]; rfl, hq.2.symm, gq.wT 40 0 rfl (Nat.zero_le _) rfl h⟩
theorem hv_p14 {ε : Nat → Int32} {B cnt cnt' : Nat} {kp : pm_KP} {ρ σ' : pm_S} {I : Nat → Int32} {A : Nat → Nat → Int32} {u : Nat} {v : Int32} {f : Nat → Int32} (hk : u ≤ 40) (h : gq ε I) (hq : ((u = 40 ∧ v = -1 ∧ σ' = pm_two (cl_L B kp I A) ρ) ∨ (u < 40 ∧ v = nI u ∧ σ' = pm_up (pm_up (pm_two (cl_L B kp I A) ρ) 14 (.inr (9, [.int (nI 40), .int (nI 12), .ref (B + 15), .int (nI (u + 1))]))) 15 (.inl (480, f)))) ∧ cnt' = cnt) : hvq ε B kp ρ cnt σ' cnt' := by
  obtain ⟨⟨-, -, e1⟩ | ⟨h1, -, e1⟩, e2⟩ := hq
  · exact ⟨I, A, e1, e2.symm, h⟩
  · refine ⟨ui I 14 (nI (u + 1)), ua A 15 f, ?_, e2.symm, gq.wT 40 (u + 1) rfl h1 rfl h⟩
    rw [e1, pm_two_up (by decide) (Nat.le_of_ble_eq_true rfl), pm_two_up (by decide) (Nat.le_of_ble_eq_true rfl)]; rfl
theorem hv_a17 {ε : Nat → Int32} {B cnt cnt' : Nat} {kp : pm_KP} {ρ σ' : pm_S} {I : Nat → Int32} {A : Nat → Nat → Int32} {f : Nat → Int32} (h : gq ε I) (hq : σ' = pm_up (pm_two (cl_L B kp I A) ρ) 17 (.inl (30, f)) ∧ cnt' = cnt) : hvq ε B kp ρ cnt σ' cnt' := ⟨I, ua A 17 f, by rw [hq.1, pm_two_up (by decide) (Nat.le_of_ble_eq_true rfl)]; rfl, hq.2.symm, h⟩
theorem hv_c16 {ε : Nat → Int32} {B cnt cnt' : Nat} {kp : pm_KP} {ρ σ' : pm_S} {I : Nat → Int32} {A : Nat → Nat → Int32} (h : gq ε I) (hq : σ' = pm_up (pm_two (cl_L B kp I A) ρ) 16 (.inr (9, [.int 6, .int 5, .ref (B + 17), .int 0])) ∧ cnt' = cnt) : hvq ε B kp ρ cnt σ' cnt' := ⟨ui I 16 0, A, by rw [hq.1, pm_two_up (by decide) (Nat.le_of_ble_eq_true rfl)]; rfl, hq.2.symm, gq.wT 6 0 rfl (Nat.zero_le _) rfl h⟩
theorem hv_p16 {ε : Nat → Int32} {B cnt cnt' : Nat} {kp : pm_KP} {ρ σ' : pm_S} {I : Nat → Int32} {A : Nat → Nat → Int32} {u : Nat} {v : Int32} {f : Nat → Int32} (hk : u ≤ 6) (h : gq ε I) (hq : ((u = 6 ∧ v = -1 ∧ σ' = pm_two (cl_L B kp I A) ρ) ∨ (u < 6 ∧ v = nI u ∧ σ' = pm_up (pm_up (pm_two (cl_L B kp I A) ρ) 16 (.inr (9, [.int (nI 6), .int (nI 5), .ref (B + 17), .int (nI (u + 1))]))) 17 (.inl (30, f)))) ∧ cnt' = cnt) : hvq ε B kp ρ cnt σ' cnt' := by
  obtain ⟨⟨-, -, e1⟩ | ⟨h1, -, e1⟩, e2⟩ := hq
  · exact ⟨I, A, e1, e2.symm, h⟩
  · refine ⟨ui I 16 (nI (u + 1)), ua A 17 f, ?_, e2.symm, gq.wT 6 (u + 1) rfl h1 rfl h⟩
    rw [e1, pm_two_up (by decide) (Nat.le_of_ble_eq_true rfl), pm_two_up (by decide) (Nat.le_of_ble_eq_true rfl)]; rfl
theorem hv_a19 {ε : Nat → Int32} {B cnt cnt' : Nat} {kp : pm_KP} {ρ σ' : pm_S} {I : Nat → Int32} {A : Nat → Nat → Int32} {f : Nat → Int32} (h : gq ε I) (hq : σ' = pm_up (pm_two (cl_L B kp I A) ρ) 19 (.inl (150, f)) ∧ cnt' = cnt) : hvq ε B kp ρ cnt σ' cnt' := ⟨I, ua A 19 f, by rw [hq.1, pm_two_up (by decide) (Nat.le_of_ble_eq_true rfl)]; rfl, hq.2.symm, h⟩
theorem hv_a21 {ε : Nat → Int32} {B cnt cnt' : Nat} {kp : pm_KP} {ρ σ' : pm_S} {I : Nat → Int32} {A : Nat → Nat → Int32} {f : Nat → Int32} (h : gq ε I) (hq : σ' = pm_up (pm_two (cl_L B kp I A) ρ) 21 (.inl (5, f)) ∧ cnt' = cnt) : hvq ε B kp ρ cnt σ' cnt' := ⟨I, ua A 21 f, by rw [hq.1, pm_two_up (by decide) (Nat.le_of_ble_eq_true rfl)]; rfl, hq.2.symm, h⟩
theorem hv_c20 {ε : Nat → Int32} {B cnt cnt' : Nat} {kp : pm_KP} {ρ σ' : pm_S} {I : Nat → Int32} {A : Nat → Nat → Int32} (h : gq ε I) (hq : σ' = pm_up (pm_two (cl_L B kp I A) ρ) 20 (.inr (9, [.int 5, .int 1, .ref (B + 21), .int 0])) ∧ cnt' = cnt) : hvq ε B kp ρ cnt σ' cnt' := ⟨ui I 20 0, A, by rw [hq.1, pm_two_up (by decide) (Nat.le_of_ble_eq_true rfl)]; rfl, hq.2.symm, gq.wT 5 0 rfl (Nat.zero_le _) rfl h⟩
theorem hv_p20 {ε : Nat → Int32} {B cnt cnt' : Nat} {kp : pm_KP} {ρ σ' : pm_S} {I : Nat → Int32} {A : Nat → Nat → Int32} {u : Nat} {v : Int32} {f : Nat → Int32} (hk : u ≤ 5) (h : gq ε I) (hq : ((u = 5 ∧ v = -1 ∧ σ' = pm_two (cl_L B kp I A) ρ) ∨ (u < 5 ∧ v = nI u ∧ σ' = pm_up (pm_up (pm_two (cl_L B kp I A) ρ) 20 (.inr (9, [.int (nI 5), .int (nI 1), .ref (B + 21), .int (nI (u + 1))]))) 21 (.inl (5, f)))) ∧ cnt' = cnt) : hvq ε B kp ρ cnt σ' cnt' := by
  obtain ⟨⟨-, -, e1⟩ | ⟨h1, -, e1⟩, e2⟩ := hq
  · exact ⟨I, A, e1, e2.symm, h⟩
  · refine ⟨ui I 20 (nI (u + 1)), ua A 21 f, ?_, e2.symm, gq.wT 5 (u + 1) rfl h1 rfl h⟩
    rw [e1, pm_two_up (by decide) (Nat.le_of_ble_eq_true rfl), pm_two_up (by decide) (Nat.le_of_ble_eq_true rfl)]; rfl
theorem hv_a23 {ε : Nat → Int32} {B cnt cnt' : Nat} {kp : pm_KP} {ρ σ' : pm_S} {I : Nat → Int32} {A : Nat → Nat → Int32} {f : Nat → Int32} (h : gq ε I) (hq : σ' = pm_up (pm_two (cl_L B kp I A) ρ) 23 (.inl (20, f)) ∧ cnt' = cnt) : hvq ε B kp ρ cnt σ' cnt' := ⟨I, ua A 23 f, by rw [hq.1, pm_two_up (by decide) (Nat.le_of_ble_eq_true rfl)]; rfl, hq.2.symm, h⟩
theorem hv_c22 {ε : Nat → Int32} {B cnt cnt' : Nat} {kp : pm_KP} {ρ σ' : pm_S} {I : Nat → Int32} {A : Nat → Nat → Int32} (h : gq ε I) (hq : σ' = pm_up (pm_two (cl_L B kp I A) ρ) 22 (.inr (9, [.int 20, .int 1, .ref (B + 23), .int 0])) ∧ cnt' = cnt) : hvq ε B kp ρ cnt σ' cnt' := ⟨ui I 22 0, A, by rw [hq.1, pm_two_up (by decide) (Nat.le_of_ble_eq_true rfl)]; rfl, hq.2.symm, gq.wT 20 0 rfl (Nat.zero_le _) rfl h⟩
theorem hv_p22 {ε : Nat → Int32} {B cnt cnt' : Nat} {kp : pm_KP} {ρ σ' : pm_S} {I : Nat → Int32} {A : Nat → Nat → Int32} {u : Nat} {v : Int32} {f : Nat → Int32} (hk : u ≤ 20) (h : gq ε I) (hq : ((u = 20 ∧ v = -1 ∧ σ' = pm_two (cl_L B kp I A) ρ) ∨ (u < 20 ∧ v = nI u ∧ σ' = pm_up (pm_up (pm_two (cl_L B kp I A) ρ) 22 (.inr (9, [.int (nI 20), .int (nI 1), .ref (B + 23), .int (nI (u + 1))]))) 23 (.inl (20, f)))) ∧ cnt' = cnt) : hvq ε B kp ρ cnt σ' cnt' := by
  obtain ⟨⟨-, -, e1⟩ | ⟨h1, -, e1⟩, e2⟩ := hq
  · exact ⟨I, A, e1, e2.symm, h⟩
  · refine ⟨ui I 22 (nI (u + 1)), ua A 23 f, ?_, e2.symm, gq.wT 20 (u + 1) rfl h1 rfl h⟩
    rw [e1, pm_two_up (by decide) (Nat.le_of_ble_eq_true rfl), pm_two_up (by decide) (Nat.le_of_ble_eq_true rfl)]; rfl
theorem hv_a25 {ε : Nat → Int32} {B cnt cnt' : Nat} {kp : pm_KP} {ρ σ' : pm_S} {I : Nat → Int32} {A : Nat → Nat → Int32} {f : Nat → Int32} (h : gq ε I) (hq : σ' = pm_up (pm_two (cl_L B kp I A) ρ) 25 (.inl (60, f)) ∧ cnt' = cnt) : hvq ε B kp ρ cnt σ' cnt' := ⟨I, ua A 25 f, by rw [hq.1, pm_two_up (by decide) (Nat.le_of_ble_eq_true rfl)]; rfl, hq.2.symm, h⟩
theorem hv_c24 {ε : Nat → Int32} {B cnt cnt' : Nat} {kp : pm_KP} {ρ σ' : pm_S} {I : Nat → Int32} {A : Nat → Nat → Int32} (h : gq ε I) (hq : σ' = pm_up (pm_two (cl_L B kp I A) ρ) 24 (.inr (9, [.int 60, .int 1, .ref (B + 25), .int 0])) ∧ cnt' = cnt) : hvq ε B kp ρ cnt σ' cnt' := ⟨ui I 24 0, A, by rw [hq.1, pm_two_up (by decide) (Nat.le_of_ble_eq_true rfl)]; rfl, hq.2.symm, gq.wT 60 0 rfl (Nat.zero_le _) rfl h⟩
theorem hv_p24 {ε : Nat → Int32} {B cnt cnt' : Nat} {kp : pm_KP} {ρ σ' : pm_S} {I : Nat → Int32} {A : Nat → Nat → Int32} {u : Nat} {v : Int32} {f : Nat → Int32} (hk : u ≤ 60) (h : gq ε I) (hq : ((u = 60 ∧ v = -1 ∧ σ' = pm_two (cl_L B kp I A) ρ) ∨ (u < 60 ∧ v = nI u ∧ σ' = pm_up (pm_up (pm_two (cl_L B kp I A) ρ) 24 (.inr (9, [.int (nI 60), .int (nI 1), .ref (B + 25), .int (nI (u + 1))]))) 25 (.inl (60, f)))) ∧ cnt' = cnt) : hvq ε B kp ρ cnt σ' cnt' := by
  obtain ⟨⟨-, -, e1⟩ | ⟨h1, -, e1⟩, e2⟩ := hq
  · exact ⟨I, A, e1, e2.symm, h⟩
  · refine ⟨ui I 24 (nI (u + 1)), ua A 25 f, ?_, e2.symm, gq.wT 60 (u + 1) rfl h1 rfl h⟩
    rw [e1, pm_two_up (by decide) (Nat.le_of_ble_eq_true rfl), pm_two_up (by decide) (Nat.le_of_ble_eq_true rfl)]; rfl
theorem hv_a29 {ε : Nat → Int32} {B cnt cnt' : Nat} {kp : pm_KP} {ρ σ' : pm_S} {I : Nat → Int32} {A : Nat → Nat → Int32} {f : Nat → Int32} (h : gq ε I) (hq : σ' = pm_up (pm_two (cl_L B kp I A) ρ) 29 (.inl (60, f)) ∧ cnt' = cnt) : hvq ε B kp ρ cnt σ' cnt' := ⟨I, ua A 29 f, by rw [hq.1, pm_two_up (by decide) (Nat.le_of_ble_eq_true rfl)]; rfl, hq.2.symm, h⟩
theorem hv_c28 {ε : Nat → Int32} {B cnt cnt' : Nat} {kp : pm_KP} {ρ σ' : pm_S} {I : Nat → Int32} {A : Nat → Nat → Int32} (h : gq ε I) (hq : σ' = pm_up (pm_two (cl_L B kp I A) ρ) 28 (.inr (9, [.int 60, .int 1, .ref (B + 29), .int 0])) ∧ cnt' = cnt) : hvq ε B kp ρ cnt σ' cnt' := ⟨ui I 28 0, A, by rw [hq.1, pm_two_up (by decide) (Nat.le_of_ble_eq_true rfl)]; rfl, hq.2.symm, gq.wT 60 0 rfl (Nat.zero_le _) rfl h⟩
theorem hv_p28 {ε : Nat → Int32} {B cnt cnt' : Nat} {kp : pm_KP} {ρ σ' : pm_S} {I : Nat → Int32} {A : Nat → Nat → Int32} {u : Nat} {v : Int32} {f : Nat → Int32} (hk : u ≤ 60) (h : gq ε I) (hq : ((u = 60 ∧ v = -1 ∧ σ' = pm_two (cl_L B kp I A) ρ) ∨ (u < 60 ∧ v = nI u ∧ σ' = pm_up (pm_up (pm_two (cl_L B kp I A) ρ) 28 (.inr (9, [.int (nI 60), .int (nI 1), .ref (B + 29), .int (nI (u + 1))]))) 29 (.inl (60, f)))) ∧ cnt' = cnt) : hvq ε B kp ρ cnt σ' cnt' := by
  obtain ⟨⟨-, -, e1⟩ | ⟨h1, -, e1⟩, e2⟩ := hq
  · exact ⟨I, A, e1, e2.symm, h⟩
  · refine ⟨ui I 28 (nI (u + 1)), ua A 29 f, ?_, e2.symm, gq.wT 60 (u + 1) rfl h1 rfl h⟩
    rw [e1, pm_two_up (by decide) (Nat.le_of_ble_eq_true rfl), pm_two_up (by decide) (Nat.le_of_ble_eq_true rfl)]; rfl
theorem hv_a30 {ε : Nat → Int32} {B cnt cnt' : Nat} {kp : pm_KP} {ρ σ' : pm_S} {I : Nat → Int32} {A : Nat → Nat → Int32} {f : Nat → Int32} (h : gq ε I) (hq : σ' = pm_up (pm_two (cl_L B kp I A) ρ) 30 (.inl (60, f)) ∧ cnt' = cnt) : hvq ε B kp ρ cnt σ' cnt' := ⟨I, ua A 30 f, by rw [hq.1, pm_two_up (by decide) (Nat.le_of_ble_eq_true rfl)]; rfl, hq.2.symm, h⟩
theorem hv_a33 {ε : Nat → Int32} {B cnt cnt' : Nat} {kp : pm_KP} {ρ σ' : pm_S} {I : Nat → Int32} {A : Nat → Nat → Int32} {f : Nat → Int32} (h : gq ε I) (hq : σ' = pm_up (pm_two (cl_L B kp I A) ρ) 33 (.inl (20, f)) ∧ cnt' = cnt) : hvq ε B kp ρ cnt σ' cnt' := ⟨I, ua A 33 f, by rw [hq.1, pm_two_up (by decide) (Nat.le_of_ble_eq_true rfl)]; rfl, hq.2.symm, h⟩
theorem hv_c32 {ε : Nat → Int32} {B cnt cnt' : Nat} {kp : pm_KP} {ρ σ' : pm_S} {I : Nat → Int32} {A : Nat → Nat → Int32} (h : gq ε I) (hq : σ' = pm_up (pm_two (cl_L B kp I A) ρ) 32 (.inr (9, [.int 20, .int 1, .ref (B + 33), .int 0])) ∧ cnt' = cnt) : hvq ε B kp ρ cnt σ' cnt' := ⟨ui I 32 0, A, by rw [hq.1, pm_two_up (by decide) (Nat.le_of_ble_eq_true rfl)]; rfl, hq.2.symm, gq.wT 20 0 rfl (Nat.zero_le _) rfl h⟩
theorem hv_p32 {ε : Nat → Int32} {B cnt cnt' : Nat} {kp : pm_KP} {ρ σ' : pm_S} {I : Nat → Int32} {A : Nat → Nat → Int32} {u : Nat} {v : Int32} {f : Nat → Int32} (hk : u ≤ 20) (h : gq ε I) (hq : ((u = 20 ∧ v = -1 ∧ σ' = pm_two (cl_L B kp I A) ρ) ∨ (u < 20 ∧ v = nI u ∧ σ' = pm_up (pm_up (pm_two (cl_L B kp I A) ρ) 32 (.inr (9, [.int (nI 20), .int (nI 1), .ref (B + 33), .int (nI (u + 1))]))) 33 (.inl (20, f)))) ∧ cnt' = cnt) : hvq ε B kp ρ cnt σ' cnt' := by
  obtain ⟨⟨-, -, e1⟩ | ⟨h1, -, e1⟩, e2⟩ := hq
  · exact ⟨I, A, e1, e2.symm, h⟩
  · refine ⟨ui I 32 (nI (u + 1)), ua A 33 f, ?_, e2.symm, gq.wT 20 (u + 1) rfl h1 rfl h⟩
    rw [e1, pm_two_up (by decide) (Nat.le_of_ble_eq_true rfl), pm_two_up (by decide) (Nat.le_of_ble_eq_true rfl)]; rfl
theorem hv_a35 {ε : Nat → Int32} {B cnt cnt' : Nat} {kp : pm_KP} {ρ σ' : pm_S} {I : Nat → Int32} {A : Nat → Nat → Int32} {f : Nat → Int32} (h : gq ε I) (hq : σ' = pm_up (pm_two (cl_L B kp I A) ρ) 35 (.inl (9, f)) ∧ cnt' = cnt) : hvq ε B kp ρ cnt σ' cnt' := ⟨I, ua A 35 f, by rw [hq.1, pm_two_up (by decide) (Nat.le_of_ble_eq_true rfl)]; rfl, hq.2.symm, h⟩
theorem hv_c34 {ε : Nat → Int32} {B cnt cnt' : Nat} {kp : pm_KP} {ρ σ' : pm_S} {I : Nat → Int32} {A : Nat → Nat → Int32} (h : gq ε I) (hq : σ' = pm_up (pm_two (cl_L B kp I A) ρ) 34 (.inr (9, [.int 9, .int 1, .ref (B + 35), .int 0])) ∧ cnt' = cnt) : hvq ε B kp ρ cnt σ' cnt' := ⟨ui I 34 0, A, by rw [hq.1, pm_two_up (by decide) (Nat.le_of_ble_eq_true rfl)]; rfl, hq.2.symm, gq.wT 9 0 rfl (Nat.zero_le _) rfl h⟩
theorem hv_p34 {ε : Nat → Int32} {B cnt cnt' : Nat} {kp : pm_KP} {ρ σ' : pm_S} {I : Nat → Int32} {A : Nat → Nat → Int32} {u : Nat} {v : Int32} {f : Nat → Int32} (hk : u ≤ 9) (h : gq ε I) (hq : ((u = 9 ∧ v = -1 ∧ σ' = pm_two (cl_L B kp I A) ρ) ∨ (u < 9 ∧ v = nI u ∧ σ' = pm_up (pm_up (pm_two (cl_L B kp I A) ρ) 34 (.inr (9, [.int (nI 9), .int (nI 1), .ref (B + 35), .int (nI (u + 1))]))) 35 (.inl (9, f)))) ∧ cnt' = cnt) : hvq ε B kp ρ cnt σ' cnt' := by
  obtain ⟨⟨-, -, e1⟩ | ⟨h1, -, e1⟩, e2⟩ := hq
  · exact ⟨I, A, e1, e2.symm, h⟩
  · refine ⟨ui I 34 (nI (u + 1)), ua A 35 f, ?_, e2.symm, gq.wT 9 (u + 1) rfl h1 rfl h⟩
    rw [e1, pm_two_up (by decide) (Nat.le_of_ble_eq_true rfl), pm_two_up (by decide) (Nat.le_of_ble_eq_true rfl)]; rfl
theorem hv_a39 {ε : Nat → Int32} {B cnt cnt' : Nat} {kp : pm_KP} {ρ σ' : pm_S} {I : Nat → Int32} {A : Nat → Nat → Int32} {f : Nat → Int32} (h : gq ε I) (hq : σ' = pm_up (pm_two (cl_L B kp I A) ρ) 39 (.inl (20, f)) ∧ cnt' = cnt) : hvq ε B kp ρ cnt σ' cnt' := ⟨I, ua A 39 f, by rw [hq.1, pm_two_up (by decide) (Nat.le_of_ble_eq_true rfl)]; rfl, hq.2.symm, h⟩
theorem hv_c38 {ε : Nat → Int32} {B cnt cnt' : Nat} {kp : pm_KP} {ρ σ' : pm_S} {I : Nat → Int32} {A : Nat → Nat → Int32} (h : gq ε I) (hq : σ' = pm_up (pm_two (cl_L B kp I A) ρ) 38 (.inr (9, [.int 20, .int 1, .ref (B + 39), .int 0])) ∧ cnt' = cnt) : hvq ε B kp ρ cnt σ' cnt' := ⟨ui I 38 0, A, by rw [hq.1, pm_two_up (by decide) (Nat.le_of_ble_eq_true rfl)]; rfl, hq.2.symm, gq.wT 20 0 rfl (Nat.zero_le _) rfl h⟩
theorem hv_p38 {ε : Nat → Int32} {B cnt cnt' : Nat} {kp : pm_KP} {ρ σ' : pm_S} {I : Nat → Int32} {A : Nat → Nat → Int32} {u : Nat} {v : Int32} {f : Nat → Int32} (hk : u ≤ 20) (h : gq ε I) (hq : ((u = 20 ∧ v = -1 ∧ σ' = pm_two (cl_L B kp I A) ρ) ∨ (u < 20 ∧ v = nI u ∧ σ' = pm_up (pm_up (pm_two (cl_L B kp I A) ρ) 38 (.inr (9, [.int (nI 20), .int (nI 1), .ref (B + 39), .int (nI (u + 1))]))) 39 (.inl (20, f)))) ∧ cnt' = cnt) : hvq ε B kp ρ cnt σ' cnt' := by
  obtain ⟨⟨-, -, e1⟩ | ⟨h1, -, e1⟩, e2⟩ := hq
  · exact ⟨I, A, e1, e2.symm, h⟩
  · refine ⟨ui I 38 (nI (u + 1)), ua A 39 f, ?_, e2.symm, gq.wT 20 (u + 1) rfl h1 rfl h⟩
    rw [e1, pm_two_up (by decide) (Nat.le_of_ble_eq_true rfl), pm_two_up (by decide) (Nat.le_of_ble_eq_true rfl)]; rfl
theorem hv_a41 {ε : Nat → Int32} {B cnt cnt' : Nat} {kp : pm_KP} {ρ σ' : pm_S} {I : Nat → Int32} {A : Nat → Nat → Int32} {f : Nat → Int32} (h : gq ε I) (hq : σ' = pm_up (pm_two (cl_L B kp I A) ρ) 41 (.inl (5, f)) ∧ cnt' = cnt) : hvq ε B kp ρ cnt σ' cnt' := ⟨I, ua A 41 f, by rw [hq.1, pm_two_up (by decide) (Nat.le_of_ble_eq_true rfl)]; rfl, hq.2.symm, h⟩
theorem hv_a43 {ε : Nat → Int32} {B cnt cnt' : Nat} {kp : pm_KP} {ρ σ' : pm_S} {I : Nat → Int32} {A : Nat → Nat → Int32} {f : Nat → Int32} (h : gq ε I) (hq : σ' = pm_up (pm_two (cl_L B kp I A) ρ) 43 (.inl (64, f)) ∧ cnt' = cnt) : hvq ε B kp ρ cnt σ' cnt' := ⟨I, ua A 43 f, by rw [hq.1, pm_two_up (by decide) (Nat.le_of_ble_eq_true rfl)]; rfl, hq.2.symm, h⟩
theorem hv_a44 {ε : Nat → Int32} {B cnt cnt' : Nat} {kp : pm_KP} {ρ σ' : pm_S} {I : Nat → Int32} {A : Nat → Nat → Int32} {f : Nat → Int32} (h : gq ε I) (hq : σ' = pm_up (pm_two (cl_L B kp I A) ρ) 44 (.inl (64, f)) ∧ cnt' = cnt) : hvq ε B kp ρ cnt σ' cnt' := ⟨I, ua A 44 f, by rw [hq.1, pm_two_up (by decide) (Nat.le_of_ble_eq_true rfl)]; rfl, hq.2.symm, h⟩
theorem hv_a45 {ε : Nat → Int32} {B cnt cnt' : Nat} {kp : pm_KP} {ρ σ' : pm_S} {I : Nat → Int32} {A : Nat → Nat → Int32} {f : Nat → Int32} (h : gq ε I) (hq : σ' = pm_up (pm_two (cl_L B kp I A) ρ) 45 (.inl (64, f)) ∧ cnt' = cnt) : hvq ε B kp ρ cnt σ' cnt' := ⟨I, ua A 45 f, by rw [hq.1, pm_two_up (by decide) (Nat.le_of_ble_eq_true rfl)]; rfl, hq.2.symm, h⟩
theorem hv_a47 {ε : Nat → Int32} {B cnt cnt' : Nat} {kp : pm_KP} {ρ σ' : pm_S} {I : Nat → Int32} {A : Nat → Nat → Int32} {f : Nat → Int32} (h : gq ε I) (hq : σ' = pm_up (pm_two (cl_L B kp I A) ρ) 47 (.inl (40, f)) ∧ cnt' = cnt) : hvq ε B kp ρ cnt σ' cnt' := ⟨I, ua A 47 f, by rw [hq.1, pm_two_up (by decide) (Nat.le_of_ble_eq_true rfl)]; rfl, hq.2.symm, h⟩
theorem hv_a49 {ε : Nat → Int32} {B cnt cnt' : Nat} {kp : pm_KP} {ρ σ' : pm_S} {I : Nat → Int32} {A : Nat → Nat → Int32} {f : Nat → Int32} (h : gq ε I) (hq : σ' = pm_up (pm_two (cl_L B kp I A) ρ) 49 (.inl (4, f)) ∧ cnt' = cnt) : hvq ε B kp ρ cnt σ' cnt' := ⟨I, ua A 49 f, by rw [hq.1, pm_two_up (by decide) (Nat.le_of_ble_eq_true rfl)]; rfl, hq.2.symm, h⟩
theorem hv_a50 {ε : Nat → Int32} {B cnt cnt' : Nat} {kp : pm_KP} {ρ σ' : pm_S} {I : Nat → Int32} {A : Nat → Nat → Int32} {f : Nat → Int32} (h : gq ε I) (hq : σ' = pm_up (pm_two (cl_L B kp I A) ρ) 50 (.inl (4, f)) ∧ cnt' = cnt) : hvq ε B kp ρ cnt σ' cnt' := ⟨I, ua A 50 f, by rw [hq.1, pm_two_up (by decide) (Nat.le_of_ble_eq_true rfl)]; rfl, hq.2.symm, h⟩
theorem hv_a52 {ε : Nat → Int32} {B cnt cnt' : Nat} {kp : pm_KP} {ρ σ' : pm_S} {I : Nat → Int32} {A : Nat → Nat → Int32} {f : Nat → Int32} (h : gq ε I) (hq : σ' = pm_up (pm_two (cl_L B kp I A) ρ) 52 (.inl (96, f)) ∧ cnt' = cnt) : hvq ε B kp ρ cnt σ' cnt' := ⟨I, ua A 52 f, by rw [hq.1, pm_two_up (by decide) (Nat.le_of_ble_eq_true rfl)]; rfl, hq.2.symm, h⟩
theorem hv_c51 {ε : Nat → Int32} {B cnt cnt' : Nat} {kp : pm_KP} {ρ σ' : pm_S} {I : Nat → Int32} {A : Nat → Nat → Int32} (h : gq ε I) (hq : σ' = pm_up (pm_two (cl_L B kp I A) ρ) 51 (.inr (9, [.int 4, .int 24, .ref (B + 52), .int 0])) ∧ cnt' = cnt) : hvq ε B kp ρ cnt σ' cnt' := ⟨ui I 51 0, A, by rw [hq.1, pm_two_up (by decide) (Nat.le_of_ble_eq_true rfl)]; rfl, hq.2.symm, gq.wT 4 0 rfl (Nat.zero_le _) rfl h⟩
theorem hv_p51 {ε : Nat → Int32} {B cnt cnt' : Nat} {kp : pm_KP} {ρ σ' : pm_S} {I : Nat → Int32} {A : Nat → Nat → Int32} {u : Nat} {v : Int32} {f : Nat → Int32} (hk : u ≤ 4) (h : gq ε I) (hq : ((u = 4 ∧ v = -1 ∧ σ' = pm_two (cl_L B kp I A) ρ) ∨ (u < 4 ∧ v = nI u ∧ σ' = pm_up (pm_up (pm_two (cl_L B kp I A) ρ) 51 (.inr (9, [.int (nI 4), .int (nI 24), .ref (B + 52), .int (nI (u + 1))]))) 52 (.inl (96, f)))) ∧ cnt' = cnt) : hvq ε B kp ρ cnt σ' cnt' := by
  obtain ⟨⟨-, -, e1⟩ | ⟨h1, -, e1⟩, e2⟩ := hq
  · exact ⟨I, A, e1, e2.symm, h⟩
  · refine ⟨ui I 51 (nI (u + 1)), ua A 52 f, ?_, e2.symm, gq.wT 4 (u + 1) rfl h1 rfl h⟩
    rw [e1, pm_two_up (by decide) (Nat.le_of_ble_eq_true rfl), pm_two_up (by decide) (Nat.le_of_ble_eq_true rfl)]; rfl
theorem hv_a53 {ε : Nat → Int32} {B cnt cnt' : Nat} {kp : pm_KP} {ρ σ' : pm_S} {I : Nat → Int32} {A : Nat → Nat → Int32} {f : Nat → Int32} (h : gq ε I) (hq : σ' = pm_up (pm_two (cl_L B kp I A) ρ) 53 (.inl (6, f)) ∧ cnt' = cnt) : hvq ε B kp ρ cnt σ' cnt' := ⟨I, ua A 53 f, by rw [hq.1, pm_two_up (by decide) (Nat.le_of_ble_eq_true rfl)]; rfl, hq.2.symm, h⟩
