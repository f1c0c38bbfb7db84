def gcT : List (Nat × Nat) := [(2, 10), (4, 10), (6, 20), (8, 20), (10, 12), (12, 12), (14, 40), (16, 6), (18, 30), (20, 5), (22, 20), (24, 60), (28, 60), (32, 20), (34, 9), (38, 20), (51, 4)]
theorem pm_nz {v : Int32} (h : v = 0 ∨ v = 1) : narrow .boolean (.int v) = .int v := by rcases h with rfl | rfl <;> rfl
theorem pm_b01 {v : Int32} {p : Prop} [Decidable p] (h : v = if p then 0 else 1) : v = 0 ∨ v = 1 := by
  rw [h]; split
  · exact Or.inl rfl
  · exact Or.inr rfl
theorem pm_b10 {v : Int32} {p : Prop} [Decidable p] (h : v = if p then 1 else 0) : v = 0 ∨ v = 1 := by
  rw [h]; split
  · exact Or.inr rfl
  · exact Or.inl rfl
theorem pm_fg {M : pm_M} {G : pm_G} {B pc : Nat} {loc loc' : List (Option Value)} {st : List Value} {cs zs cnt : Nat} {σ : pm_S} (i : Nat) (h : loc.set i none = loc') (k : pm_wp M G B pc loc' st cs zs cnt σ) : pm_wp M G B pc loc st cs zs cnt σ := by
  refine pm_fl0 (loc' := loc') (fun j v hj => ?_) k
  rw [← h, List.getElem?_set] at hj
  split at hj
  · split at hj <;> simp at hj
  · exact hj
theorem pm_a1 {x : Int32} (h : x.toInt < 2147483647) : (x + 1).toInt = x.toInt + 1 := by
  have h0 := Int32.le_toInt x
  rw [Int32.toInt_add, show (1 : Int32).toInt = 1 from rfl]
  exact Int.bmod_eq_of_le (by omega) (by omega)
theorem pm_s1 {x : Int32} (h : -2147483648 < x.toInt) : (x + (-1)).toInt = x.toInt - 1 := by
  have h0 := Int32.toInt_lt x
  rw [Int32.toInt_add, show (-1 : Int32).toInt = -1 from rfl]
  exact Int.bmod_eq_of_le (by omega) (by omega)
theorem pm_mu1 {x b : Int32} (h : ¬ b ≤ x) : (b.toInt - (x + 1).toInt).toNat < (b.toInt - x.toInt).toNat := by
  rw [Int32.le_iff_toInt_le] at h
  have h0 := Int32.toInt_lt b
  rw [pm_a1 (by omega)]; omega
theorem pm_mu2 {x b : Int32} (h : ¬ b < x) (hb : b.toInt < 2147483647) : (b.toInt + 1 - (x + 1).toInt).toNat < (b.toInt + 1 - x.toInt).toNat := by
  rw [Int32.lt_iff_toInt_lt] at h
  rw [pm_a1 (by omega)]; omega
theorem pm_md1 {x b : Int32} (h : ¬ x < b) (hb : -2147483648 < b.toInt) : ((x + (-1)).toInt + 1 - b.toInt).toNat < (x.toInt + 1 - b.toInt).toNat := by
  rw [Int32.lt_iff_toInt_lt] at h
  rw [pm_s1 (by omega)]; omega
theorem pm_md2 {x b : Int32} (h : ¬ x ≤ b) : ((x + (-1)).toInt - b.toInt).toNat < (x.toInt - b.toInt).toNat := by
  rw [Int32.le_iff_toInt_le] at h
  have h0 := Int32.le_toInt b
  rw [pm_s1 (by omega)]; omega
theorem pm_ibt {i : Int32} {n : Nat} (h : 0 ≤ i.toInt ∧ i.toInt < n) : vp_in i n := by rw [vp_in_iff]; exact h
theorem pm_any {M : pm_M} {G : pm_G} {B pc : Nat} {loc : List (Option Value)} {st : List Value} {cs zs cnt : Nat} {σ : pm_S} {x : Int32} (h : ∀ v : Int32, pm_wp M G B pc loc (.int v :: st) cs zs cnt σ) : pm_wp M G B pc loc (.int x :: st) cs zs cnt σ := h x
theorem pm_hasC {k n : Nat} {u v : Int32} (r : Nat) (hk : k ≤ n) (hu : u = nI k) (hn : n ≤ r) (hr : r < 2 ^ 31) (h : v = if nI r < 0 ∨ u ≤ nI r then 0 else 1) : v = 0 := by
  rw [h, if_pos]
  right
  rw [hu]; exact nI_le (by omega) hr
theorem pm_outL {v x a b : Int32} (o : v = if x < a ∨ b < x then 1 else 0) (c : v = 0) : ¬ x < a := fun q => by
  rw [c, if_pos (Or.inl q)] at o; exact absurd o (by decide)
theorem pm_outR {v x a b : Int32} (o : v = if x < a ∨ b < x then 1 else 0) (c : v = 0) : ¬ b < x := fun q => by
  rw [c, if_pos (Or.inr q)] at o; exact absurd o (by decide)
theorem pm_sd1 {x b : Int32} (c : ¬ b ≤ x) (h : ¬ x < 0) : ¬ x + 1 < 0 := by
  rw [Int32.le_iff_toInt_le] at c
  rw [Int32.lt_iff_toInt_lt, show (0 : Int32).toInt = 0 from rfl] at h ⊢
  have h0 := Int32.toInt_lt b
  rw [pm_a1 (by omega)]; omega
theorem pm_sd2 {x b : Int32} (c : ¬ x < 0) (h : ¬ b < x) : ¬ b < x + (-1) := by
  rw [Int32.lt_iff_toInt_lt, show (0 : Int32).toInt = 0 from rfl] at c
  rw [Int32.lt_iff_toInt_lt] at h ⊢
  rw [pm_s1 (by omega)]; omega
theorem pm_and63 (x : Int32) : ¬ x &&& 63 < 0 ∧ ¬ 64 ≤ x &&& 63 := by
  have h : (x &&& 63).toInt = ((x.toBitVec &&& 63#32).toNat : Int) := by
    rw [Int32.toInt, Int32.toBitVec_and, BitVec.toInt_eq_toNat_of_lt]
    · rfl
    · have := Nat.and_le_right (n := x.toBitVec.toNat) (m := 63)
      show 2 * (x.toBitVec &&& 63#32).toNat < 2 ^ 32
      rw [BitVec.toNat_and]
      show 2 * (x.toBitVec.toNat &&& 63) < 2 ^ 32
      omega
  have h2 : (x.toBitVec &&& 63#32).toNat ≤ 63 := by
    rw [BitVec.toNat_and]; exact Nat.and_le_right
  rw [Int32.lt_iff_toInt_lt, Int32.le_iff_toInt_le, show (0 : Int32).toInt = 0 from rfl, show (64 : Int32).toInt = 64 from rfl, h]
  omega
/-- the static array ABOVE -/
def pm_isAb (G : pm_G) (B z : Nat) : Prop := va_T .int z 6 (fun j => .int (pm_ab.getD j 0)) (fun q => B ≤ q) (pm_s G) (pm_s G).heap
section PMAB
variable {M : pm_M} {G : pm_G} {B pc pc' : Nat} {loc : List (Option Value)} {st : List Value} {cs zs cnt : Nat} {σ : pm_S}
theorem pm_gsAb {i : Nat} {host : String} (hG : pm_ok M G B) (hd : pm_dec M pc (.getstatic i, 3) pc') (hl : Cond.fieldLinkNest M.1.cls i "SealCouncil" "ABOVE" "[I" host ∈ pm_nest) (kk : ∀ z : Nat, pm_isAb G B z → pm_wp M G B pc' loc (.ref z :: st) cs zs cnt σ) : pm_wp M G B pc loc st cs zs cnt σ := by
  obtain ⟨hd, rfl⟩ := hd
  obtain ⟨⟨z, ⟨cf, kf, fi, f, a, cell, e1, e2, e3, e4, e5, e6, e7, e8⟩, hT⟩, -⟩ := hG.ow
  intro H ls locs h1 h2 h3 h4
  exact va_WgetsN hG.x hG.b hG.own (va_Nw.use rfl (hG.env.2 _ hl)) e1 e2 e3 e4 (by rw [h2 a (Nat.lt_of_not_le e8)]; exact e5) (fun e => by rw [e] at e6; cases e6) e7 rfl hd (kk z hT H ls locs h1 h2 h3 h4)
theorem pm_abLen {z : Nat} (hG : pm_ok M G B) (hd : pm_dec M pc (.arraylength, 1) pc') (hz : pm_isAb G B z) (kk : pm_wp M G B pc' loc (.int 6 :: st) cs zs cnt σ) : pm_wp M G B pc loc (.ref z :: st) cs zs cnt σ := by
  obtain ⟨hd, rfl⟩ := hd
  obtain ⟨cell, e1, e2, e3, e4, e5, e6, e7⟩ := hz
  intro H ls locs h1 h2 h3 h4
  exact W.alen (n := Int32.ofNat 6) hG.x hG.b (by rw [h2 z (Nat.lt_of_not_le e7)]; exact e1) e2 e5 rfl rfl hd (kk H ls locs h1 h2 h3 h4)
theorem pm_abLd {z : Nat} {i : Int32} (hG : pm_ok M G B) (hd : pm_dec M pc (.iaload, 1) pc') (hz : pm_isAb G B z) (hin : vp_in i 6) (kk : ∀ v : Int32, pm_wp M G B pc' loc (.int v :: st) cs zs cnt σ) : pm_wp M G B pc loc (.int i :: .ref z :: st) cs zs cnt σ := by
  obtain ⟨hd, rfl⟩ := hd
  obtain ⟨cell, e1, e2, e3, e4, e5, e6, e7⟩ := hz
  intro H ls locs h1 h2 h3 h4
  have hlt : i.toNatClampNeg < 6 := Nat.not_le.mp fun q => hin (Or.inr q)
  have hin' : ¬ (i < 0 ∨ cell.slots.size ≤ i.toNatClampNeg) := by
    intro q
    rcases q with q | q
    · exact hin (Or.inl q)
    · omega
  exact W.iald (v := .int (pm_ab.getD i.toNatClampNeg 0)) hG.x hG.b (by rw [h2 z (Nat.lt_of_not_le e7)]; exact e1) e2 e3 hin' (by rw [e6 _ hlt]) rfl rfl hd (kk _ H ls locs h1 h2 h3 h4)
end PMAB
theorem pm_ibm {x : Int32} {n : Nat} (h : 1 ≤ x.toInt ∧ x.toInt ≤ n) : vp_in (x - 1) n := by
  have h0 := Int32.toInt_lt x
  rw [vp_in_iff, Int32.toInt_sub, show (1 : Int32).toInt = 1 from rfl, Int.bmod_eq_of_le (by omega) (by omega)]
  omega
theorem pm_tr {R W : Nat} {r a k : Int32} (hR : R < 2 ^ 31) (hW : W < 2 ^ 31) (hn : R * W < 2 ^ 31) (h1 : ¬ r < 0) (h2 : ¬ nI R ≤ r) (h3 : ¬ a < 0) (h4 : ¬ k < 0) (h5 : ¬ nI W - k < a) : ¬ r * nI W + a < 0 ∧ (r * nI W + a).toNatClampNeg + k.toNatClampNeg ≤ R * W := by
  obtain ⟨i, hi, rfl⟩ := (pk_ix r hR).resolve_left h1 |>.resolve_left h2
  obtain ⟨x, hx, rfl⟩ := nI_of h3
  obtain ⟨y, hy, rfl⟩ := nI_of h4
  have h6 : x + y ≤ W := by
    rw [Int32.lt_iff_toInt_lt, Int32.toInt_sub, nI_toInt hW, nI_toInt hy, nI_toInt hx, Int.bmod_eq_of_le (by omega) (by omega)] at h5
    omega
  have h7 : (i + 1) * W ≤ R * W := Nat.mul_le_mul_right W hi
  rw [Nat.succ_mul] at h7
  rw [pk_mul, nI_add, nI_clamp (by omega), nI_clamp hy]
  exact ⟨nI_pos (by omega), by omega⟩
theorem pm_ib2 {i b : Int32} {n : Nat} (hb : b.toInt = n) (h0 : ¬ i < 0) (h1 : ¬ b ≤ i) : vp_in i n := by
  rw [Int32.lt_iff_toInt_lt, show (0 : Int32).toInt = 0 from rfl] at h0
  rw [Int32.le_iff_toInt_le] at h1
  rw [vp_in_iff]; omega
set_option maxRecDepth 100000 in
theorem tb_transferE {d B cnt t c R W : Nat} {σ : pm_S} {used : Int32} {f : Nat → Int32} {ra fr rb to k : Int32} (hdd : 1 ≤ d) (ht : σ t = some (.inr (9, [.int (nI R), .int (nI W), .ref (B + c), .int used]))) (hc : σ c = some (.inl (R * W, f))) (hR0 : R < 2 ^ 31) (hW0 : W < 2 ^ 31) (hn0 : R * W < 2 ^ 31) (htc : t ≠ c) : pm_met mX9_transfer d 0 0 B [.ref (B + t), .int ra, .int fr, .int rb, .int to, .int k] cnt σ (pm_Qv (fun σ' cnt' => σ' = pm_up σ c (.inl (R * W, fTr R W f ra fr rb to k)) ∧ cnt' = cnt)) := by
  refine pm_enter 2 (by decide) (Nat.le_of_ble_eq_true rfl) rfl (fun G hG hR hF => ?_)
  refine pm_iloadn hG dX9_transfer_0 rfl ?_
  refine pm_if_lt (tgt := 36) hG dX9_transfer_1 rfl (fun c1 => ?_) (fun c1 => ?_)
  · refine pm_iconst (v := 0) hG dX9_transfer_36 (by decide) ?_
    refine pm_istoreXi (loc' := [some (.ref (B + t)), some (.int ra), some (.int fr), some (.int rb), some (.int to), some (.int k), some (.int 0), none]) hG dX9_transfer_37 (by decide) (pm_c1b rfl) rfl ?_
    refine pm_iloadn hG dX9_transfer_39 rfl ?_
    refine pm_if_lt (tgt := 77) hG dX9_transfer_40 rfl (fun c2 => ?_) (fun c2 => ?_)
    · refine pm_iconst (v := 0) hG dX9_transfer_77 (by decide) ?_
      refine pm_istoreXi (loc' := [some (.ref (B + t)), some (.int ra), some (.int fr), some (.int rb), some (.int to), some (.int k), some (.int 0), some (.int 0)]) hG dX9_transfer_78 (by decide) (pm_c1b rfl) rfl ?_
      refine pm_iloadi hG dX9_transfer_80 rfl ?_
      refine pm_if_eq (tgt := 120) hG dX9_transfer_82 rfl (fun _ => ?_) (fun q => absurd q (by decide))
      exact pm_vret hG hF dX9_transfer_120 rfl (by decide) (by decide) ⟨rfl, by simp [fTr, c1, c2, pm_up_id hc], rfl⟩
    · refine pm_iloadn hG dX9_transfer_43 rfl ?_
      refine pm_aloadn hG dX9_transfer_44 rfl ?_
      refine pm_getf hG dX9_transfer_45 (flX9_16 _ rfl) ht rfl ?_
      refine pm_icmp_ge (tgt := 77) hG dX9_transfer_48 rfl (fun c3 => ?_) (fun c3 => ?_)
      · refine pm_iconst (v := 0) hG dX9_transfer_77 (by decide) ?_
        refine pm_istoreXi (loc' := [some (.ref (B + t)), some (.int ra), some (.int fr), some (.int rb), some (.int to), some (.int k), some (.int 0), some (.int 0)]) hG dX9_transfer_78 (by decide) (pm_c1b rfl) rfl ?_
        refine pm_iloadi hG dX9_transfer_80 rfl ?_
        refine pm_if_eq (tgt := 120) hG dX9_transfer_82 rfl (fun _ => ?_) (fun q => absurd q (by decide))
        exact pm_vret hG hF dX9_transfer_120 rfl (by decide) (by decide) ⟨rfl, by simp [fTr, c1, c2, c3, pm_up_id hc], rfl⟩
      · refine pm_iloadi hG dX9_transfer_51 rfl ?_
        refine pm_if_lt (tgt := 77) hG dX9_transfer_53 rfl (fun c4 => ?_) (fun c4 => ?_)
        · refine pm_iconst (v := 0) hG dX9_transfer_77 (by decide) ?_
          refine pm_istoreXi (loc' := [some (.ref (B + t)), some (.int ra), some (.int fr), some (.int rb), some (.int to), some (.int k), some (.int 0), some (.int 0)]) hG dX9_transfer_78 (by decide) (pm_c1b rfl) rfl ?_
          refine pm_iloadi hG dX9_transfer_80 rfl ?_
          refine pm_if_eq (tgt := 120) hG dX9_transfer_82 rfl (fun _ => ?_) (fun q => absurd q (by decide))
          exact pm_vret hG hF dX9_transfer_120 rfl (by decide) (by decide) ⟨rfl, by simp [fTr, c1, c2, c3, c4, pm_up_id hc], rfl⟩
        · refine pm_iloadi hG dX9_transfer_56 rfl ?_
          refine pm_if_lt (tgt := 77) hG dX9_transfer_58 rfl (fun c5 => ?_) (fun c5 => ?_)
          · refine pm_iconst (v := 0) hG dX9_transfer_77 (by decide) ?_
            refine pm_istoreXi (loc' := [some (.ref (B + t)), some (.int ra), some (.int fr), some (.int rb), some (.int to), some (.int k), some (.int 0), some (.int 0)]) hG dX9_transfer_78 (by decide) (pm_c1b rfl) rfl ?_
            refine pm_iloadi hG dX9_transfer_80 rfl ?_
            refine pm_if_eq (tgt := 120) hG dX9_transfer_82 rfl (fun _ => ?_) (fun q => absurd q (by decide))
            exact pm_vret hG hF dX9_transfer_120 rfl (by decide) (by decide) ⟨rfl, by simp [fTr, c1, c2, c3, c4, c5, pm_up_id hc], rfl⟩
          · refine pm_iloadi hG dX9_transfer_61 rfl ?_
            refine pm_aloadn hG dX9_transfer_63 rfl ?_
            refine pm_getf hG dX9_transfer_64 (flX9_22 _ rfl) ht rfl ?_
            refine pm_iloadi hG dX9_transfer_67 rfl ?_
            refine pm_isub hG dX9_transfer_69 ?_
            refine pm_icmp_gt (tgt := 77) hG dX9_transfer_70 rfl (fun c6 => ?_) (fun c6 => ?_)
            · refine pm_iconst (v := 0) hG dX9_transfer_77 (by decide) ?_
              refine pm_istoreXi (loc' := [some (.ref (B + t)), some (.int ra), some (.int fr), some (.int rb), some (.int to), some (.int k), some (.int 0), some (.int 0)]) hG dX9_transfer_78 (by decide) (pm_c1b rfl) rfl ?_
              refine pm_iloadi hG dX9_transfer_80 rfl ?_
              refine pm_if_eq (tgt := 120) hG dX9_transfer_82 rfl (fun _ => ?_) (fun q => absurd q (by decide))
              exact pm_vret hG hF dX9_transfer_120 rfl (by decide) (by decide) ⟨rfl, by simp [fTr, c1, c2, c3, c4, c5, c6, pm_up_id hc], rfl⟩
            · refine pm_iconst (v := 1) hG dX9_transfer_73 (by decide) ?_
              refine pm_goto (tgt := 78) hG dX9_transfer_74 rfl ?_
              refine pm_istoreXi (loc' := [some (.ref (B + t)), some (.int ra), some (.int fr), some (.int rb), some (.int to), some (.int k), some (.int 0), some (.int 1)]) hG dX9_transfer_78 (by decide) (pm_c1b rfl) rfl ?_
              refine pm_iloadi hG dX9_transfer_80 rfl ?_
              refine pm_if_eq (tgt := 120) hG dX9_transfer_82 rfl (fun _ => ?_) (fun q => absurd q (by decide))
              exact pm_vret hG hF dX9_transfer_120 rfl (by decide) (by decide) ⟨rfl, by simp [fTr, c1, c2, c3, c4, c5, c6, pm_up_id hc], rfl⟩
  · refine pm_iloadn hG dX9_transfer_4 rfl ?_
    refine pm_aloadn hG dX9_transfer_5 rfl ?_
    refine pm_getf hG dX9_transfer_6 (flX9_16 _ rfl) ht rfl ?_
    refine pm_icmp_ge (tgt := 36) hG dX9_transfer_9 rfl (fun c7 => ?_) (fun c7 => ?_)
    · refine pm_iconst (v := 0) hG dX9_transfer_36 (by decide) ?_
      refine pm_istoreXi (loc' := [some (.ref (B + t)), some (.int ra), some (.int fr), some (.int rb), some (.int to), some (.int k), some (.int 0), none]) hG dX9_transfer_37 (by decide) (pm_c1b rfl) rfl ?_
      refine pm_iloadn hG dX9_transfer_39 rfl ?_
      refine pm_if_lt (tgt := 77) hG dX9_transfer_40 rfl (fun c8 => ?_) (fun c8 => ?_)
      · refine pm_iconst (v := 0) hG dX9_transfer_77 (by decide) ?_
        refine pm_istoreXi (loc' := [some (.ref (B + t)), some (.int ra), some (.int fr), some (.int rb), some (.int to), some (.int k), some (.int 0), some (.int 0)]) hG dX9_transfer_78 (by decide) (pm_c1b rfl) rfl ?_
        refine pm_iloadi hG dX9_transfer_80 rfl ?_
        refine pm_if_eq (tgt := 120) hG dX9_transfer_82 rfl (fun _ => ?_) (fun q => absurd q (by decide))
        exact pm_vret hG hF dX9_transfer_120 rfl (by decide) (by decide) ⟨rfl, by simp [fTr, c1, c7, c8, pm_up_id hc], rfl⟩
      · refine pm_iloadn hG dX9_transfer_43 rfl ?_
        refine pm_aloadn hG dX9_transfer_44 rfl ?_
        refine pm_getf hG dX9_transfer_45 (flX9_16 _ rfl) ht rfl ?_
        refine pm_icmp_ge (tgt := 77) hG dX9_transfer_48 rfl (fun c9 => ?_) (fun c9 => ?_)
        · refine pm_iconst (v := 0) hG dX9_transfer_77 (by decide) ?_
          refine pm_istoreXi (loc' := [some (.ref (B + t)), some (.int ra), some (.int fr), some (.int rb), some (.int to), some (.int k), some (.int 0), some (.int 0)]) hG dX9_transfer_78 (by decide) (pm_c1b rfl) rfl ?_
          refine pm_iloadi hG dX9_transfer_80 rfl ?_
          refine pm_if_eq (tgt := 120) hG dX9_transfer_82 rfl (fun _ => ?_) (fun q => absurd q (by decide))
          exact pm_vret hG hF dX9_transfer_120 rfl (by decide) (by decide) ⟨rfl, by simp [fTr, c1, c7, c8, c9, pm_up_id hc], rfl⟩
        · refine pm_iloadi hG dX9_transfer_51 rfl ?_
          refine pm_if_lt (tgt := 77) hG dX9_transfer_53 rfl (fun c10 => ?_) (fun c10 => ?_)
          · refine pm_iconst (v := 0) hG dX9_transfer_77 (by decide) ?_
            refine pm_istoreXi (loc' := [some (.ref (B + t)), some (.int ra), some (.int fr), some (.int rb), some (.int to), some (.int k), some (.int 0), some (.int 0)]) hG dX9_transfer_78 (by decide) (pm_c1b rfl) rfl ?_
            refine pm_iloadi hG dX9_transfer_80 rfl ?_
            refine pm_if_eq (tgt := 120) hG dX9_transfer_82 rfl (fun _ => ?_) (fun q => absurd q (by decide))
            exact pm_vret hG hF dX9_transfer_120 rfl (by decide) (by decide) ⟨rfl, by simp [fTr, c1, c7, c8, c9, c10, pm_up_id hc], rfl⟩
          · refine pm_iloadi hG dX9_transfer_56 rfl ?_
            refine pm_if_lt (tgt := 77) hG dX9_transfer_58 rfl (fun c11 => ?_) (fun c11 => ?_)
            · refine pm_iconst (v := 0) hG dX9_transfer_77 (by decide) ?_
              refine pm_istoreXi (loc' := [some (.ref (B + t)), some (.int ra), some (.int fr), some (.int rb), some (.int to), some (.int k), some (.int 0), some (.int 0)]) hG dX9_transfer_78 (by decide) (pm_c1b rfl) rfl ?_
              refine pm_iloadi hG dX9_transfer_80 rfl ?_
              refine pm_if_eq (tgt := 120) hG dX9_transfer_82 rfl (fun _ => ?_) (fun q => absurd q (by decide))
              exact pm_vret hG hF dX9_transfer_120 rfl (by decide) (by decide) ⟨rfl, by simp [fTr, c1, c7, c8, c9, c10, c11, pm_up_id hc], rfl⟩
            · refine pm_iloadi hG dX9_transfer_61 rfl ?_
              refine pm_aloadn hG dX9_transfer_63 rfl ?_
              refine pm_getf hG dX9_transfer_64 (flX9_22 _ rfl) ht rfl ?_
              refine pm_iloadi hG dX9_transfer_67 rfl ?_
              refine pm_isub hG dX9_transfer_69 ?_
              refine pm_icmp_gt (tgt := 77) hG dX9_transfer_70 rfl (fun c12 => ?_) (fun c12 => ?_)
              · refine pm_iconst (v := 0) hG dX9_transfer_77 (by decide) ?_
                refine pm_istoreXi (loc' := [some (.ref (B + t)), some (.int ra), some (.int fr), some (.int rb), some (.int to), some (.int k), some (.int 0), some (.int 0)]) hG dX9_transfer_78 (by decide) (pm_c1b rfl) rfl ?_
                refine pm_iloadi hG dX9_transfer_80 rfl ?_
                refine pm_if_eq (tgt := 120) hG dX9_transfer_82 rfl (fun _ => ?_) (fun q => absurd q (by decide))
                exact pm_vret hG hF dX9_transfer_120 rfl (by decide) (by decide) ⟨rfl, by simp [fTr, c1, c7, c8, c9, c10, c11, c12, pm_up_id hc], rfl⟩
              · refine pm_iconst (v := 1) hG dX9_transfer_73 (by decide) ?_
                refine pm_goto (tgt := 78) hG dX9_transfer_74 rfl ?_
                refine pm_istoreXi (loc' := [some (.ref (B + t)), some (.int ra), some (.int fr), some (.int rb), some (.int to), some (.int k), some (.int 0), some (.int 1)]) hG dX9_transfer_78 (by decide) (pm_c1b rfl) rfl ?_
                refine pm_iloadi hG dX9_transfer_80 rfl ?_
                refine pm_if_eq (tgt := 120) hG dX9_transfer_82 rfl (fun _ => ?_) (fun q => absurd q (by decide))
                exact pm_vret hG hF dX9_transfer_120 rfl (by decide) (by decide) ⟨rfl, by simp [fTr, c1, c7, c8, c9, c10, c11, c12, pm_up_id hc], rfl⟩
    · refine pm_iloadn hG dX9_transfer_12 rfl ?_
      refine pm_if_lt (tgt := 36) hG dX9_transfer_13 rfl (fun c13 => ?_) (fun c13 => ?_)
      · refine pm_iconst (v := 0) hG dX9_transfer_36 (by decide) ?_
        refine pm_istoreXi (loc' := [some (.ref (B + t)), some (.int ra), some (.int fr), some (.int rb), some (.int to), some (.int k), some (.int 0), none]) hG dX9_transfer_37 (by decide) (pm_c1b rfl) rfl ?_
        refine pm_iloadn hG dX9_transfer_39 rfl ?_
        refine pm_if_lt (tgt := 77) hG dX9_transfer_40 rfl (fun c14 => ?_) (fun c14 => ?_)
        · refine pm_iconst (v := 0) hG dX9_transfer_77 (by decide) ?_
          refine pm_istoreXi (loc' := [some (.ref (B + t)), some (.int ra), some (.int fr), some (.int rb), some (.int to), some (.int k), some (.int 0), some (.int 0)]) hG dX9_transfer_78 (by decide) (pm_c1b rfl) rfl ?_
          refine pm_iloadi hG dX9_transfer_80 rfl ?_
          refine pm_if_eq (tgt := 120) hG dX9_transfer_82 rfl (fun _ => ?_) (fun q => absurd q (by decide))
          exact pm_vret hG hF dX9_transfer_120 rfl (by decide) (by decide) ⟨rfl, by simp [fTr, c1, c7, c13, c14, pm_up_id hc], rfl⟩
        · refine pm_iloadn hG dX9_transfer_43 rfl ?_
          refine pm_aloadn hG dX9_transfer_44 rfl ?_
          refine pm_getf hG dX9_transfer_45 (flX9_16 _ rfl) ht rfl ?_
          refine pm_icmp_ge (tgt := 77) hG dX9_transfer_48 rfl (fun c15 => ?_) (fun c15 => ?_)
          · refine pm_iconst (v := 0) hG dX9_transfer_77 (by decide) ?_
            refine pm_istoreXi (loc' := [some (.ref (B + t)), some (.int ra), some (.int fr), some (.int rb), some (.int to), some (.int k), some (.int 0), some (.int 0)]) hG dX9_transfer_78 (by decide) (pm_c1b rfl) rfl ?_
            refine pm_iloadi hG dX9_transfer_80 rfl ?_
            refine pm_if_eq (tgt := 120) hG dX9_transfer_82 rfl (fun _ => ?_) (fun q => absurd q (by decide))
            exact pm_vret hG hF dX9_transfer_120 rfl (by decide) (by decide) ⟨rfl, by simp [fTr, c1, c7, c13, c14, c15, pm_up_id hc], rfl⟩
          · refine pm_iloadi hG dX9_transfer_51 rfl ?_
            refine pm_if_lt (tgt := 77) hG dX9_transfer_53 rfl (fun c16 => ?_) (fun c16 => ?_)
            · refine pm_iconst (v := 0) hG dX9_transfer_77 (by decide) ?_
              refine pm_istoreXi (loc' := [some (.ref (B + t)), some (.int ra), some (.int fr), some (.int rb), some (.int to), some (.int k), some (.int 0), some (.int 0)]) hG dX9_transfer_78 (by decide) (pm_c1b rfl) rfl ?_
              refine pm_iloadi hG dX9_transfer_80 rfl ?_
              refine pm_if_eq (tgt := 120) hG dX9_transfer_82 rfl (fun _ => ?_) (fun q => absurd q (by decide))
              exact pm_vret hG hF dX9_transfer_120 rfl (by decide) (by decide) ⟨rfl, by simp [fTr, c1, c7, c13, c14, c15, c16, pm_up_id hc], rfl⟩
            · refine pm_iloadi hG dX9_transfer_56 rfl ?_
              refine pm_if_lt (tgt := 77) hG dX9_transfer_58 rfl (fun c17 => ?_) (fun c17 => ?_)
              · refine pm_iconst (v := 0) hG dX9_transfer_77 (by decide) ?_
                refine pm_istoreXi (loc' := [some (.ref (B + t)), some (.int ra), some (.int fr), some (.int rb), some (.int to), some (.int k), some (.int 0), some (.int 0)]) hG dX9_transfer_78 (by decide) (pm_c1b rfl) rfl ?_
                refine pm_iloadi hG dX9_transfer_80 rfl ?_
                refine pm_if_eq (tgt := 120) hG dX9_transfer_82 rfl (fun _ => ?_) (fun q => absurd q (by decide))
                exact pm_vret hG hF dX9_transfer_120 rfl (by decide) (by decide) ⟨rfl, by simp [fTr, c1, c7, c13, c14, c15, c16, c17, pm_up_id hc], rfl⟩
              · refine pm_iloadi hG dX9_transfer_61 rfl ?_
                refine pm_aloadn hG dX9_transfer_63 rfl ?_
                refine pm_getf hG dX9_transfer_64 (flX9_22 _ rfl) ht rfl ?_
                refine pm_iloadi hG dX9_transfer_67 rfl ?_
                refine pm_isub hG dX9_transfer_69 ?_
                refine pm_icmp_gt (tgt := 77) hG dX9_transfer_70 rfl (fun c18 => ?_) (fun c18 => ?_)
                · refine pm_iconst (v := 0) hG dX9_transfer_77 (by decide) ?_
                  refine pm_istoreXi (loc' := [some (.ref (B + t)), some (.int ra), some (.int fr), some (.int rb), some (.int to), some (.int k), some (.int 0), some (.int 0)]) hG dX9_transfer_78 (by decide) (pm_c1b rfl) rfl ?_
                  refine pm_iloadi hG dX9_transfer_80 rfl ?_
                  refine pm_if_eq (tgt := 120) hG dX9_transfer_82 rfl (fun _ => ?_) (fun q => absurd q (by decide))
                  exact pm_vret hG hF dX9_transfer_120 rfl (by decide) (by decide) ⟨rfl, by simp [fTr, c1, c7, c13, c14, c15, c16, c17, c18, pm_up_id hc], rfl⟩
                · refine pm_iconst (v := 1) hG dX9_transfer_73 (by decide) ?_
                  refine pm_goto (tgt := 78) hG dX9_transfer_74 rfl ?_
                  refine pm_istoreXi (loc' := [some (.ref (B + t)), some (.int ra), some (.int fr), some (.int rb), some (.int to), some (.int k), some (.int 0), some (.int 1)]) hG dX9_transfer_78 (by decide) (pm_c1b rfl) rfl ?_
                  refine pm_iloadi hG dX9_transfer_80 rfl ?_
                  refine pm_if_eq (tgt := 120) hG dX9_transfer_82 rfl (fun _ => ?_) (fun q => absurd q (by decide))
                  exact pm_vret hG hF dX9_transfer_120 rfl (by decide) (by decide) ⟨rfl, by simp [fTr, c1, c7, c13, c14, c15, c16, c17, c18, pm_up_id hc], rfl⟩
      · refine pm_iloadi hG dX9_transfer_16 rfl ?_
        refine pm_if_lt (tgt := 36) hG dX9_transfer_18 rfl (fun c19 => ?_) (fun c19 => ?_)
        · refine pm_iconst (v := 0) hG dX9_transfer_36 (by decide) ?_
          refine pm_istoreXi (loc' := [some (.ref (B + t)), some (.int ra), some (.int fr), some (.int rb), some (.int to), some (.int k), some (.int 0), none]) hG dX9_transfer_37 (by decide) (pm_c1b rfl) rfl ?_
          refine pm_iloadn hG dX9_transfer_39 rfl ?_
          refine pm_if_lt (tgt := 77) hG dX9_transfer_40 rfl (fun c20 => ?_) (fun c20 => ?_)
          · refine pm_iconst (v := 0) hG dX9_transfer_77 (by decide) ?_
            refine pm_istoreXi (loc' := [some (.ref (B + t)), some (.int ra), some (.int fr), some (.int rb), some (.int to), some (.int k), some (.int 0), some (.int 0)]) hG dX9_transfer_78 (by decide) (pm_c1b rfl) rfl ?_
            refine pm_iloadi hG dX9_transfer_80 rfl ?_
            refine pm_if_eq (tgt := 120) hG dX9_transfer_82 rfl (fun _ => ?_) (fun q => absurd q (by decide))
            exact pm_vret hG hF dX9_transfer_120 rfl (by decide) (by decide) ⟨rfl, by simp [fTr, c1, c7, c13, c19, c20, pm_up_id hc], rfl⟩
          · refine pm_iloadn hG dX9_transfer_43 rfl ?_
            refine pm_aloadn hG dX9_transfer_44 rfl ?_
            refine pm_getf hG dX9_transfer_45 (flX9_16 _ rfl) ht rfl ?_
            refine pm_icmp_ge (tgt := 77) hG dX9_transfer_48 rfl (fun c21 => ?_) (fun c21 => ?_)
            · refine pm_iconst (v := 0) hG dX9_transfer_77 (by decide) ?_
              refine pm_istoreXi (loc' := [some (.ref (B + t)), some (.int ra), some (.int fr), some (.int rb), some (.int to), some (.int k), some (.int 0), some (.int 0)]) hG dX9_transfer_78 (by decide) (pm_c1b rfl) rfl ?_
              refine pm_iloadi hG dX9_transfer_80 rfl ?_
              refine pm_if_eq (tgt := 120) hG dX9_transfer_82 rfl (fun _ => ?_) (fun q => absurd q (by decide))
              exact pm_vret hG hF dX9_transfer_120 rfl (by decide) (by decide) ⟨rfl, by simp [fTr, c1, c7, c13, c19, c20, c21, pm_up_id hc], rfl⟩
            · refine pm_iloadi hG dX9_transfer_51 rfl ?_
              refine pm_if_lt (tgt := 77) hG dX9_transfer_53 rfl (fun c22 => ?_) (fun c22 => ?_)
              · refine pm_iconst (v := 0) hG dX9_transfer_77 (by decide) ?_
                refine pm_istoreXi (loc' := [some (.ref (B + t)), some (.int ra), some (.int fr), some (.int rb), some (.int to), some (.int k), some (.int 0), some (.int 0)]) hG dX9_transfer_78 (by decide) (pm_c1b rfl) rfl ?_
                refine pm_iloadi hG dX9_transfer_80 rfl ?_
                refine pm_if_eq (tgt := 120) hG dX9_transfer_82 rfl (fun _ => ?_) (fun q => absurd q (by decide))
                exact pm_vret hG hF dX9_transfer_120 rfl (by decide) (by decide) ⟨rfl, by simp [fTr, c1, c7, c13, c19, c20, c21, c22, pm_up_id hc], rfl⟩
              · refine pm_iloadi hG dX9_transfer_56 rfl ?_
                refine pm_if_lt (tgt := 77) hG dX9_transfer_58 rfl (fun c23 => ?_) (fun c23 => ?_)
                · refine pm_iconst (v := 0) hG dX9_transfer_77 (by decide) ?_
                  refine pm_istoreXi (loc' := [some (.ref (B + t)), some (.int ra), some (.int fr), some (.int rb), some (.int to), some (.int k), some (.int 0), some (.int 0)]) hG dX9_transfer_78 (by decide) (pm_c1b rfl) rfl ?_
                  refine pm_iloadi hG dX9_transfer_80 rfl ?_
                  refine pm_if_eq (tgt := 120) hG dX9_transfer_82 rfl (fun _ => ?_) (fun q => absurd q (by decide))
                  exact pm_vret hG hF dX9_transfer_120 rfl (by decide) (by decide) ⟨rfl, by simp [fTr, c1, c7, c13, c19, c20, c21, c22, c23, pm_up_id hc], rfl⟩
                · refine pm_iloadi hG dX9_transfer_61 rfl ?_
                  refine pm_aloadn hG dX9_transfer_63 rfl ?_
                  refine pm_getf hG dX9_transfer_64 (flX9_22 _ rfl) ht rfl ?_
                  refine pm_iloadi hG dX9_transfer_67 rfl ?_
                  refine pm_isub hG dX9_transfer_69 ?_
                  refine pm_icmp_gt (tgt := 77) hG dX9_transfer_70 rfl (fun c24 => ?_) (fun c24 => ?_)
                  · refine pm_iconst (v := 0) hG dX9_transfer_77 (by decide) ?_
                    refine pm_istoreXi (loc' := [some (.ref (B + t)), some (.int ra), some (.int fr), some (.int rb), some (.int to), some (.int k), some (.int 0), some (.int 0)]) hG dX9_transfer_78 (by decide) (pm_c1b rfl) rfl ?_
                    refine pm_iloadi hG dX9_transfer_80 rfl ?_
                    refine pm_if_eq (tgt := 120) hG dX9_transfer_82 rfl (fun _ => ?_) (fun q => absurd q (by decide))
                    exact pm_vret hG hF dX9_transfer_120 rfl (by decide) (by decide) (absurd c19 c23)
                  · refine pm_iconst (v := 1) hG dX9_transfer_73 (by decide) ?_
                    refine pm_goto (tgt := 78) hG dX9_transfer_74 rfl ?_
                    refine pm_istoreXi (loc' := [some (.ref (B + t)), some (.int ra), some (.int fr), some (.int rb), some (.int to), some (.int k), some (.int 0), some (.int 1)]) hG dX9_transfer_78 (by decide) (pm_c1b rfl) rfl ?_
                    refine pm_iloadi hG dX9_transfer_80 rfl ?_
                    refine pm_if_eq (tgt := 120) hG dX9_transfer_82 rfl (fun _ => ?_) (fun q => absurd q (by decide))
                    exact pm_vret hG hF dX9_transfer_120 rfl (by decide) (by decide) (absurd c19 c23)
        · refine pm_iloadn hG dX9_transfer_21 rfl ?_
          refine pm_aloadn hG dX9_transfer_22 rfl ?_
          refine pm_getf hG dX9_transfer_23 (flX9_22 _ rfl) ht rfl ?_
          refine pm_iloadi hG dX9_transfer_26 rfl ?_
          refine pm_isub hG dX9_transfer_28 ?_
          refine pm_icmp_gt (tgt := 36) hG dX9_transfer_29 rfl (fun c25 => ?_) (fun c25 => ?_)
          · refine pm_iconst (v := 0) hG dX9_transfer_36 (by decide) ?_
            refine pm_istoreXi (loc' := [some (.ref (B + t)), some (.int ra), some (.int fr), some (.int rb), some (.int to), some (.int k), some (.int 0), none]) hG dX9_transfer_37 (by decide) (pm_c1b rfl) rfl ?_
            refine pm_iloadn hG dX9_transfer_39 rfl ?_
            refine pm_if_lt (tgt := 77) hG dX9_transfer_40 rfl (fun c26 => ?_) (fun c26 => ?_)
            · refine pm_iconst (v := 0) hG dX9_transfer_77 (by decide) ?_
              refine pm_istoreXi (loc' := [some (.ref (B + t)), some (.int ra), some (.int fr), some (.int rb), some (.int to), some (.int k), some (.int 0), some (.int 0)]) hG dX9_transfer_78 (by decide) (pm_c1b rfl) rfl ?_
              refine pm_iloadi hG dX9_transfer_80 rfl ?_
              refine pm_if_eq (tgt := 120) hG dX9_transfer_82 rfl (fun _ => ?_) (fun q => absurd q (by decide))
              exact pm_vret hG hF dX9_transfer_120 rfl (by decide) (by decide) ⟨rfl, by simp [fTr, c1, c7, c13, c19, c25, c26, pm_up_id hc], rfl⟩
            · refine pm_iloadn hG dX9_transfer_43 rfl ?_
              refine pm_aloadn hG dX9_transfer_44 rfl ?_
              refine pm_getf hG dX9_transfer_45 (flX9_16 _ rfl) ht rfl ?_
              refine pm_icmp_ge (tgt := 77) hG dX9_transfer_48 rfl (fun c27 => ?_) (fun c27 => ?_)
              · refine pm_iconst (v := 0) hG dX9_transfer_77 (by decide) ?_
                refine pm_istoreXi (loc' := [some (.ref (B + t)), some (.int ra), some (.int fr), some (.int rb), some (.int to), some (.int k), some (.int 0), some (.int 0)]) hG dX9_transfer_78 (by decide) (pm_c1b rfl) rfl ?_
                refine pm_iloadi hG dX9_transfer_80 rfl ?_
                refine pm_if_eq (tgt := 120) hG dX9_transfer_82 rfl (fun _ => ?_) (fun q => absurd q (by decide))
                exact pm_vret hG hF dX9_transfer_120 rfl (by decide) (by decide) ⟨rfl, by simp [fTr, c1, c7, c13, c19, c25, c26, c27, pm_up_id hc], rfl⟩
              · refine pm_iloadi hG dX9_transfer_51 rfl ?_
                refine pm_if_lt (tgt := 77) hG dX9_transfer_53 rfl (fun c28 => ?_) (fun c28 => ?_)
                · refine pm_iconst (v := 0) hG dX9_transfer_77 (by decide) ?_
                  refine pm_istoreXi (loc' := [some (.ref (B + t)), some (.int ra), some (.int fr), some (.int rb), some (.int to), some (.int k), some (.int 0), some (.int 0)]) hG dX9_transfer_78 (by decide) (pm_c1b rfl) rfl ?_
                  refine pm_iloadi hG dX9_transfer_80 rfl ?_
                  refine pm_if_eq (tgt := 120) hG dX9_transfer_82 rfl (fun _ => ?_) (fun q => absurd q (by decide))
                  exact pm_vret hG hF dX9_transfer_120 rfl (by decide) (by decide) ⟨rfl, by simp [fTr, c1, c7, c13, c19, c25, c26, c27, c28, pm_up_id hc], rfl⟩
                · refine pm_iloadi hG dX9_transfer_56 rfl ?_
                  refine pm_if_lt (tgt := 77) hG dX9_transfer_58 rfl (fun c29 => ?_) (fun c29 => ?_)
                  · refine pm_iconst (v := 0) hG dX9_transfer_77 (by decide) ?_
                    refine pm_istoreXi (loc' := [some (.ref (B + t)), some (.int ra), some (.int fr), some (.int rb), some (.int to), some (.int k), some (.int 0), some (.int 0)]) hG dX9_transfer_78 (by decide) (pm_c1b rfl) rfl ?_
                    refine pm_iloadi hG dX9_transfer_80 rfl ?_
                    refine pm_if_eq (tgt := 120) hG dX9_transfer_82 rfl (fun _ => ?_) (fun q => absurd q (by decide))
                    exact pm_vret hG hF dX9_transfer_120 rfl (by decide) (by decide) (absurd c29 c19)
                  · refine pm_iloadi hG dX9_transfer_61 rfl ?_
                    refine pm_aloadn hG dX9_transfer_63 rfl ?_
                    refine pm_getf hG dX9_transfer_64 (flX9_22 _ rfl) ht rfl ?_
                    refine pm_iloadi hG dX9_transfer_67 rfl ?_
                    refine pm_isub hG dX9_transfer_69 ?_
                    refine pm_icmp_gt (tgt := 77) hG dX9_transfer_70 rfl (fun c30 => ?_) (fun c30 => ?_)
                    · refine pm_iconst (v := 0) hG dX9_transfer_77 (by decide) ?_
                      refine pm_istoreXi (loc' := [some (.ref (B + t)), some (.int ra), some (.int fr), some (.int rb), some (.int to), some (.int k), some (.int 0), some (.int 0)]) hG dX9_transfer_78 (by decide) (pm_c1b rfl) rfl ?_
                      refine pm_iloadi hG dX9_transfer_80 rfl ?_
                      refine pm_if_eq (tgt := 120) hG dX9_transfer_82 rfl (fun _ => ?_) (fun q => absurd q (by decide))
                      exact pm_vret hG hF dX9_transfer_120 rfl (by decide) (by decide) ⟨rfl, by simp [fTr, c1, c7, c13, c19, c25, c26, c27, c28, c29, c30, pm_up_id hc], rfl⟩
                    · refine pm_iconst (v := 1) hG dX9_transfer_73 (by decide) ?_
                      refine pm_goto (tgt := 78) hG dX9_transfer_74 rfl ?_
                      refine pm_istoreXi (loc' := [some (.ref (B + t)), some (.int ra), some (.int fr), some (.int rb), some (.int to), some (.int k), some (.int 0), some (.int 1)]) hG dX9_transfer_78 (by decide) (pm_c1b rfl) rfl ?_
                      refine pm_iloadi hG dX9_transfer_80 rfl ?_
                      refine pm_if_eq (tgt := 120) hG dX9_transfer_82 rfl (fun _ => ?_) (fun q => absurd q (by decide))
                      exact pm_vret hG hF dX9_transfer_120 rfl (by decide) (by decide) ⟨rfl, by simp [fTr, c1, c7, c13, c19, c25, c26, c27, c28, c29, c30, pm_up_id hc], rfl⟩
          · refine pm_iconst (v := 1) hG dX9_transfer_32 (by decide) ?_
            refine pm_goto (tgt := 37) hG dX9_transfer_33 rfl ?_
            refine pm_istoreXi (loc' := [some (.ref (B + t)), some (.int ra), some (.int fr), some (.int rb), some (.int to), some (.int k), some (.int 1), none]) hG dX9_transfer_37 (by decide) (pm_c1b rfl) rfl ?_
            refine pm_iloadn hG dX9_transfer_39 rfl ?_
            refine pm_if_lt (tgt := 77) hG dX9_transfer_40 rfl (fun c31 => ?_) (fun c31 => ?_)
            · refine pm_iconst (v := 0) hG dX9_transfer_77 (by decide) ?_
              refine pm_istoreXi (loc' := [some (.ref (B + t)), some (.int ra), some (.int fr), some (.int rb), some (.int to), some (.int k), some (.int 1), some (.int 0)]) hG dX9_transfer_78 (by decide) (pm_c1b rfl) rfl ?_
              refine pm_iloadi hG dX9_transfer_80 rfl ?_
              refine pm_if_eq (tgt := 120) hG dX9_transfer_82 rfl (fun q => absurd q (by decide)) (fun _ => ?_)
              refine pm_iloadi hG dX9_transfer_85 rfl ?_
              refine pm_if_eq (tgt := 120) hG dX9_transfer_87 rfl (fun _ => ?_) (fun q => absurd q (by decide))
              exact pm_vret hG hF dX9_transfer_120 rfl (by decide) (by decide) ⟨rfl, by simp [fTr, c1, c7, c13, c19, c25, c31, pm_up_id hc], rfl⟩
            · refine pm_iloadn hG dX9_transfer_43 rfl ?_
              refine pm_aloadn hG dX9_transfer_44 rfl ?_
              refine pm_getf hG dX9_transfer_45 (flX9_16 _ rfl) ht rfl ?_
              refine pm_icmp_ge (tgt := 77) hG dX9_transfer_48 rfl (fun c32 => ?_) (fun c32 => ?_)
              · refine pm_iconst (v := 0) hG dX9_transfer_77 (by decide) ?_
                refine pm_istoreXi (loc' := [some (.ref (B + t)), some (.int ra), some (.int fr), some (.int rb), some (.int to), some (.int k), some (.int 1), some (.int 0)]) hG dX9_transfer_78 (by decide) (pm_c1b rfl) rfl ?_
                refine pm_iloadi hG dX9_transfer_80 rfl ?_
                refine pm_if_eq (tgt := 120) hG dX9_transfer_82 rfl (fun q => absurd q (by decide)) (fun _ => ?_)
                refine pm_iloadi hG dX9_transfer_85 rfl ?_
                refine pm_if_eq (tgt := 120) hG dX9_transfer_87 rfl (fun _ => ?_) (fun q => absurd q (by decide))
                exact pm_vret hG hF dX9_transfer_120 rfl (by decide) (by decide) ⟨rfl, by simp [fTr, c1, c7, c13, c19, c25, c31, c32, pm_up_id hc], rfl⟩
              · refine pm_iloadi hG dX9_transfer_51 rfl ?_
                refine pm_if_lt (tgt := 77) hG dX9_transfer_53 rfl (fun c33 => ?_) (fun c33 => ?_)
                · refine pm_iconst (v := 0) hG dX9_transfer_77 (by decide) ?_
                  refine pm_istoreXi (loc' := [some (.ref (B + t)), some (.int ra), some (.int fr), some (.int rb), some (.int to), some (.int k), some (.int 1), some (.int 0)]) hG dX9_transfer_78 (by decide) (pm_c1b rfl) rfl ?_
                  refine pm_iloadi hG dX9_transfer_80 rfl ?_
                  refine pm_if_eq (tgt := 120) hG dX9_transfer_82 rfl (fun q => absurd q (by decide)) (fun _ => ?_)
                  refine pm_iloadi hG dX9_transfer_85 rfl ?_
                  refine pm_if_eq (tgt := 120) hG dX9_transfer_87 rfl (fun _ => ?_) (fun q => absurd q (by decide))
                  exact pm_vret hG hF dX9_transfer_120 rfl (by decide) (by decide) ⟨rfl, by simp [fTr, c1, c7, c13, c19, c25, c31, c32, c33, pm_up_id hc], rfl⟩
                · refine pm_iloadi hG dX9_transfer_56 rfl ?_
                  refine pm_if_lt (tgt := 77) hG dX9_transfer_58 rfl (fun c34 => ?_) (fun c34 => ?_)
                  · refine pm_iconst (v := 0) hG dX9_transfer_77 (by decide) ?_
                    refine pm_istoreXi (loc' := [some (.ref (B + t)), some (.int ra), some (.int fr), some (.int rb), some (.int to), some (.int k), some (.int 1), some (.int 0)]) hG dX9_transfer_78 (by decide) (pm_c1b rfl) rfl ?_
                    refine pm_iloadi hG dX9_transfer_80 rfl ?_
                    refine pm_if_eq (tgt := 120) hG dX9_transfer_82 rfl (fun q => absurd q (by decide)) (fun _ => ?_)
                    refine pm_iloadi hG dX9_transfer_85 rfl ?_
                    refine pm_if_eq (tgt := 120) hG dX9_transfer_87 rfl (fun _ => ?_) (fun q => absurd q (by decide))
                    exact pm_vret hG hF dX9_transfer_120 rfl (by decide) (by decide) (absurd c34 c19)
                  · refine pm_iloadi hG dX9_transfer_61 rfl ?_
                    refine pm_aloadn hG dX9_transfer_63 rfl ?_
                    refine pm_getf hG dX9_transfer_64 (flX9_22 _ rfl) ht rfl ?_
                    refine pm_iloadi hG dX9_transfer_67 rfl ?_
                    refine pm_isub hG dX9_transfer_69 ?_
                    refine pm_icmp_gt (tgt := 77) hG dX9_transfer_70 rfl (fun c35 => ?_) (fun c35 => ?_)
                    · refine pm_iconst (v := 0) hG dX9_transfer_77 (by decide) ?_
                      refine pm_istoreXi (loc' := [some (.ref (B + t)), some (.int ra), some (.int fr), some (.int rb), some (.int to), some (.int k), some (.int 1), some (.int 0)]) hG dX9_transfer_78 (by decide) (pm_c1b rfl) rfl ?_
                      refine pm_iloadi hG dX9_transfer_80 rfl ?_
                      refine pm_if_eq (tgt := 120) hG dX9_transfer_82 rfl (fun q => absurd q (by decide)) (fun _ => ?_)
                      refine pm_iloadi hG dX9_transfer_85 rfl ?_
                      refine pm_if_eq (tgt := 120) hG dX9_transfer_87 rfl (fun _ => ?_) (fun q => absurd q (by decide))
                      exact pm_vret hG hF dX9_transfer_120 rfl (by decide) (by decide) ⟨rfl, by simp [fTr, c1, c7, c13, c19, c25, c31, c32, c33, c34, c35, pm_up_id hc], rfl⟩
                    · refine pm_iconst (v := 1) hG dX9_transfer_73 (by decide) ?_
                      refine pm_goto (tgt := 78) hG dX9_transfer_74 rfl ?_
                      refine pm_istoreXi (loc' := [some (.ref (B + t)), some (.int ra), some (.int fr), some (.int rb), some (.int to), some (.int k), some (.int 1), some (.int 1)]) hG dX9_transfer_78 (by decide) (pm_c1b rfl) rfl ?_
                      refine pm_iloadi hG dX9_transfer_80 rfl ?_
                      refine pm_if_eq (tgt := 120) hG dX9_transfer_82 rfl (fun q => absurd q (by decide)) (fun _ => ?_)
                      refine pm_iloadi hG dX9_transfer_85 rfl ?_
                      refine pm_if_eq (tgt := 120) hG dX9_transfer_87 rfl (fun q => absurd q (by decide)) (fun _ => ?_)
                      refine pm_aloadn hG dX9_transfer_90 rfl ?_
                      refine pm_getf hG dX9_transfer_91 (flX9_25 _ rfl) ht rfl ?_
                      refine pm_iloadn hG dX9_transfer_94 rfl ?_
                      refine pm_aloadn hG dX9_transfer_95 rfl ?_
                      refine pm_getf hG dX9_transfer_96 (flX9_22 _ rfl) ht rfl ?_
                      refine pm_imul hG dX9_transfer_99 ?_
                      refine pm_iloadn hG dX9_transfer_100 rfl ?_
                      refine pm_iadd hG dX9_transfer_101 ?_
                      refine pm_aloadn hG dX9_transfer_102 rfl ?_
                      refine pm_getf hG dX9_transfer_103 (flX9_25 _ rfl) ht rfl ?_
                      refine pm_iloadn hG dX9_transfer_106 rfl ?_
                      refine pm_aloadn hG dX9_transfer_107 rfl ?_
                      refine pm_getf hG dX9_transfer_108 (flX9_22 _ rfl) ht rfl ?_
                      refine pm_imul hG dX9_transfer_111 ?_
                      refine pm_iloadi hG dX9_transfer_112 rfl ?_
                      refine pm_iadd hG dX9_transfer_114 ?_
                      refine pm_iloadi hG dX9_transfer_115 rfl ?_
                      refine pm_acopy hG hR dX9_transfer_117 (acX9_49 _ rfl) pm_cwok hdd (by decide) hc hc (pm_tr hR0 hW0 hn0 c1 c7 c13 c19 c25).1 (pm_tr hR0 hW0 hn0 c31 c32 c33 c19 c35).1 c19 (pm_tr hR0 hW0 hn0 c1 c7 c13 c19 c25).2 (pm_tr hR0 hW0 hn0 c31 c32 c33 c19 c35).2 ?_
                      exact pm_vret hG hF dX9_transfer_120 rfl (by decide) (by decide) ⟨rfl, by simp [fTr, c1, c7, c13, c19, c25, c31, c32, c33, c34, c35], rfl⟩
/-! ===== methods as functions: the machine's rules ===== -/
abbrev cst (B : Nat) (kp : Value) (S : FS) (ρ : pm_S) : pm_S := pm_two (cl_L B kp S.1 S.2) ρ
theorem bz_n {v b : Int32} (h : bz v = some b) : narrow .boolean (.int v) = .int v := pm_nz (bz_in h).1
section FXM
variable {M : pm_M} {G : pm_G} {B pc pc' : Nat} {loc : List (Option Value)} {st : List Value} {cs zs cnt : Nat} {σ : pm_S} {kp : Value} {ρ : pm_S}
theorem fx_ki {e : Int32} {σ2 : pm_S} {c2 : Nat} {rest : List Value} (h : pm_wp M G B pc loc (.int e :: rest) cs zs c2 σ2) : ∀ (r : Option Value) (σ' : pm_S) (cnt' : Nat), pm_Qi (fun v σ' cnt' => v = e ∧ σ' = σ2 ∧ cnt' = c2) r σ' cnt' → pm_wp M G B pc loc (r.toList ++ rest) cs zs cnt' σ' := by
  rintro r σ' cnt' ⟨v, rfl, rfl, rfl, rfl⟩
  exact h
theorem fx_kv {σ2 : pm_S} {c2 : Nat} {rest : List Value} (h : pm_wp M G B pc loc rest cs zs c2 σ2) : ∀ (r : Option Value) (σ' : pm_S) (cnt' : Nat), pm_Qv (fun σ' cnt' => σ' = σ2 ∧ cnt' = c2) r σ' cnt' → pm_wp M G B pc loc (r.toList ++ rest) cs zs cnt' σ' := by
  rintro r σ' cnt' ⟨rfl, rfl, rfl⟩
  exact h
theorem fx_letc {β : Type} {x : FS} {k : FS → β} {y : β} (hE : fl x k = y) (h : ∀ S1 : FS, k S1 = y → pm_wp M G B pc loc st cs zs cnt (cst B kp S1 ρ)) : pm_wp M G B pc loc st cs zs cnt (cst B kp x ρ) := h x hE
theorem fx_letv {β : Type} {x : Int32} {k : Int32 → β} {y : β} (hE : fv x k = y) (h : ∀ x1 : Int32, k x1 = y → pm_wp M G B pc loc (.int x1 :: st) cs zs cnt σ) : pm_wp M G B pc loc (.int x :: st) cs zs cnt σ := h x hE
theorem fx_letw {β : Type} {x : Nat → Int32} {k : (Nat → Int32) → β} {y : β} {F : (Nat → Int32) → pm_S} (hE : fw x k = y) (h : ∀ x1 : Nat → Int32, k x1 = y → pm_wp M G B pc loc st cs zs cnt (F x1)) : pm_wp M G B pc loc st cs zs cnt (F x) := h x hE
theorem fx_iald {a n j : Nat} {f : Nat → Int32} {i : Int32} (hG : pm_ok M G B) (hd : pm_dec M pc (.iaload, 1) pc') (ha : σ a = some (.inl (n, f))) (hj : ix n i = some j) (kk : pm_wp M G B pc' loc (.int (f j) :: st) cs zs cnt σ) : pm_wp M G B pc loc (.int i :: .ref (B + a) :: st) cs zs cnt σ :=
  pm_ialdX hG hd ha (pm_inb (ix_in hj).1) (congrArg f (ix_in hj).2) kk
theorem fx_iast {a n j : Nat} {f : Nat → Int32} {i x : Int32} (hG : pm_ok M G B) (hd : pm_dec M pc (.iastore, 1) pc') (ha : σ a = some (.inl (n, f))) (hj : ix n i = some j) (kk : pm_wp M G B pc' loc st cs zs cnt (pm_up σ a (.inl (n, upd f j x)))) : pm_wp M G B pc loc (.int x :: .int i :: .ref (B + a) :: st) cs zs cnt σ := by
  refine pm_iast hG hd ha (pm_inb (ix_in hj).1) ?_
  rw [(ix_in hj).2]
  exact kk
theorem fx_abLd {z j : Nat} {i : Int32} (hG : pm_ok M G B) (hd : pm_dec M pc (.iaload, 1) pc') (hz : pm_isAb G B z) (hj : ix 6 i = some j) (kk : pm_wp M G B pc' loc (.int (pm_ab.getD j 0) :: st) cs zs cnt σ) : pm_wp M G B pc loc (.int i :: .ref z :: st) cs zs cnt σ := by
  obtain ⟨hin, hj2⟩ := ix_in hj
  subst hj2
  obtain ⟨hd, rfl⟩ := hd
  obtain ⟨cell, e1, e2, e3, e4, e5, e6, e7⟩ := hz
  intro H ls locs h1 h2 h3 h4
  have hlt : i.toNatClampNeg < 6 := Nat.not_le.mp fun q => hin (Or.inr q)
  have hin' : ¬ (i < 0 ∨ cell.slots.size ≤ i.toNatClampNeg) := by
    intro q
    rcases q with q | q
    · exact hin (Or.inl q)
    · omega
  exact W.iald (v := .int (pm_ab.getD i.toNatClampNeg 0)) hG.x hG.b (by rw [h2 z (Nat.lt_of_not_le e7)]; exact e1) e2 e3 hin' (by rw [e6 _ hlt]) rfl rfl hd (kk H ls locs h1 h2 h3 h4)
end FXM
theorem fx_ric {B cnt : Nat} {kp : Value} {ρ : pm_S} {v : Int32} {S : FS} {R : Int32 × FS} (hE : some (v, S) = some R) : pm_Qi (fun w σ' cnt' => w = R.1 ∧ σ' = (cst B kp R.2 ρ) ∧ cnt' = cnt) (some (.int v)) (cst B kp S ρ) cnt := by
  obtain rfl := Option.some.inj hE
  exact ⟨v, rfl, rfl, rfl, rfl⟩
theorem fx_rvc {B cnt : Nat} {kp : Value} {ρ : pm_S} {v : Int32} {S : FS} {R : Int32 × FS} (hE : some (v, S) = some R) : pm_Qv (fun σ' cnt' => σ' = (cst B kp R.2 ρ) ∧ cnt' = cnt) none (cst B kp S ρ) cnt := by
  obtain rfl := Option.some.inj hE
  exact ⟨rfl, rfl, rfl⟩
theorem fx_rbc {B cnt : Nat} {kp : Value} {ρ : pm_S} {v b : Int32} {S : FS} {R : Int32 × FS} (hb : bz v = some b) (hE : some (b, S) = some R) : pm_Qi (fun w σ' cnt' => w = R.1 ∧ σ' = (cst B kp R.2 ρ) ∧ cnt' = cnt) (some (.int v)) (cst B kp S ρ) cnt := by
  obtain rfl := Option.some.inj hE
  exact ⟨v, rfl, (bz_in hb).2, rfl, rfl⟩
theorem fx_pi {cnt : Nat} {σ : pm_S} {v R : Int32} (hE : v = R) : pm_Qi (fun w σ' cnt' => w = R ∧ σ' = σ ∧ cnt' = cnt) (some (.int v)) σ cnt := ⟨v, rfl, hE, rfl, rfl⟩
theorem fill_e {f g : Nat → Int32} {v : Int32} {i : Nat} (h : g = fun j => if j < i then v else f j) : upd g i v = fun j => if j < i + 1 then v else f j := by
  funext j
  by_cases c : j = i
  · subst c; rw [pk_us, if_pos (by omega)]
  · rw [pk_un c, h]
    show (if j < i then v else f j) = _
    by_cases d : j < i
    · rw [if_pos d, if_pos (by omega)]
    · rw [if_neg d, if_neg (by omega)]
set_option maxRecDepth 100000 in
theorem sx_fillE {d B cnt c n : Nat} {σ : pm_S} {v : Int32} {f : Nat → Int32} (hc : σ c = some (.inl (n, f))) (hn : n < 2 ^ 31) : pm_met mJ7_fill_53178 d 0 0 B [.ref (B + c), .int v] cnt σ (pm_Qv (fun σ' cnt' => σ' = pm_up σ c (.inl (n, fun j => if j < n then v else f j)) ∧ cnt' = cnt)) := by
  refine pm_enter 2 (by decide) (Nat.le_of_ble_eq_true rfl) rfl (fun G hG hR hF => ?_)
  have loop : ∀ (m i : Nat) (g : Nat → Int32), i ≤ n → n - i = m → g = (fun j => if j < i then v else f j) → ∀ τ : pm_S, pm_up σ c (.inl (n, g)) = τ → pm_wp mJ7_fill_53178 G B 5 [some (.ref (B + c)), some (.int v), some (.int (nI i)), some (.int (nI n))] [] 0 0 cnt τ := by
    intro m
    induction m with
    | zero =>
      intro i g hi hm hg τ hτ
      subst hτ
      refine pm_iloadn hG dJ7_fill_53178_5 rfl ?_
      refine pm_iloadn hG dJ7_fill_53178_6 rfl ?_
      refine pm_icmp_ge (tgt := 20) hG dJ7_fill_53178_7 rfl (fun _ => ?_) (fun q => absurd (nI_le (by omega) (by omega)) q)
      exact pm_vret hG hF dJ7_fill_53178_20 rfl (Nat.le_refl _) (Nat.le_refl _) ⟨rfl, by rw [hg, show i = n by omega], rfl⟩
    | succ m ih =>
      intro i g hi hm hg τ hτ
      subst hτ
      refine pm_iloadn hG dJ7_fill_53178_5 rfl ?_
      refine pm_iloadn hG dJ7_fill_53178_6 rfl ?_
      refine pm_icmp_ge (tgt := 20) hG dJ7_fill_53178_7 rfl (fun q => absurd q (nI_ge (by omega) (by omega))) (fun _ => ?_)
      refine pm_aloadn hG dJ7_fill_53178_10 rfl ?_
      refine pm_iloadn hG dJ7_fill_53178_11 rfl ?_
      refine pm_iloadn hG dJ7_fill_53178_12 rfl ?_
      refine pm_iast hG dJ7_fill_53178_13 (pm_up_same _ _ _) (vp_in_nI (by omega) (by omega)) ?_
      refine pm_iincX (v := nI (i + 1)) (loc' := [some (.ref (B + c)), some (.int v), some (.int (nI (i + 1))), some (.int (nI n))]) hG dJ7_fill_53178_14 rfl (nI_1 i) (by decide) (pm_c1b rfl) rfl ?_
      refine pm_goto (tgt := 5) hG dJ7_fill_53178_17 rfl ?_
      rw [nI_clamp (show i < 2 ^ 31 by omega)]
      exact ih (i + 1) _ (by omega) (by omega) (fill_e hg) _ (pm_up_up _ _ _ _).symm
  refine pm_iconst (v := 0) hG dJ7_fill_53178_0 (by decide) ?_
  refine pm_istoreXn (loc' := [some (.ref (B + c)), some (.int v), some (.int 0), none]) hG dJ7_fill_53178_1 (by decide) (pm_c1b rfl) rfl ?_
  refine pm_aloadn hG dJ7_fill_53178_2 rfl ?_
  refine pm_alen hG dJ7_fill_53178_3 hc rfl ?_
  refine pm_istoreXn (loc' := [some (.ref (B + c)), some (.int v), some (.int 0), some (.int (Int32.ofNat n))]) hG dJ7_fill_53178_4 (by decide) (pm_c1b rfl) rfl ?_
  exact loop n 0 f (by omega) rfl (by funext j; rw [if_neg (Nat.not_lt_zero j)]) _ (pm_up_id hc)
theorem tOut {d B cnt : Nat} {σ : pm_S} {x a b : Int32} : pm_met mX11_isOutside d 0 0 B [.int x, .int a, .int b] cnt σ (pm_Qi (fun v σ' cnt' => v = fOut x a b ∧ σ' = σ ∧ cnt' = cnt)) := sx_isOutside
theorem ca_30 {M : pm_M} {G : pm_G} {B pc : Nat} {loc : List (Option Value)} {st : List Value} {cs zs cnt : Nat} {kp : Value} {ρ : pm_S} {S : FS} {j : Nat} {v : Int32} (k : pm_wp M G B pc loc st cs zs cnt (cst B kp (wA S 30 j v) ρ)) : pm_wp M G B pc loc st cs zs cnt (pm_up (cst B kp S ρ) 30 (.inl (60, upd (S.2 30) j v))) := by
  rw [pm_two_up (by decide) (Nat.le_of_ble_eq_true rfl)]; exact k
theorem ca_41 {M : pm_M} {G : pm_G} {B pc : Nat} {loc : List (Option Value)} {st : List Value} {cs zs cnt : Nat} {kp : Value} {ρ : pm_S} {S : FS} {j : Nat} {v : Int32} (k : pm_wp M G B pc loc st cs zs cnt (cst B kp (wA S 41 j v) ρ)) : pm_wp M G B pc loc st cs zs cnt (pm_up (cst B kp S ρ) 41 (.inl (5, upd (S.2 41) j v))) := by
  rw [pm_two_up (by decide) (Nat.le_of_ble_eq_true rfl)]; exact k
theorem ca_43 {M : pm_M} {G : pm_G} {B pc : Nat} {loc : List (Option Value)} {st : List Value} {cs zs cnt : Nat} {kp : Value} {ρ : pm_S} {S : FS} {j : Nat} {v : Int32} (k : pm_wp M G B pc loc st cs zs cnt (cst B kp (wA S 43 j v) ρ)) : pm_wp M G B pc loc st cs zs cnt (pm_up (cst B kp S ρ) 43 (.inl (64, upd (S.2 43) j v))) := by
  rw [pm_two_up (by decide) (Nat.le_of_ble_eq_true rfl)]; exact k
theorem ca_44 {M : pm_M} {G : pm_G} {B pc : Nat} {loc : List (Option Value)} {st : List Value} {cs zs cnt : Nat} {kp : Value} {ρ : pm_S} {S : FS} {j : Nat} {v : Int32} (k : pm_wp M G B pc loc st cs zs cnt (cst B kp (wA S 44 j v) ρ)) : pm_wp M G B pc loc st cs zs cnt (pm_up (cst B kp S ρ) 44 (.inl (64, upd (S.2 44) j v))) := by
  rw [pm_two_up (by decide) (Nat.le_of_ble_eq_true rfl)]; exact k
theorem ca_45 {M : pm_M} {G : pm_G} {B pc : Nat} {loc : List (Option Value)} {st : List Value} {cs zs cnt : Nat} {kp : Value} {ρ : pm_S} {S : FS} {j : Nat} {v : Int32} (k : pm_wp M G B pc loc st cs zs cnt (cst B kp (wA S 45 j v) ρ)) : pm_wp M G B pc loc st cs zs cnt (pm_up (cst B kp S ρ) 45 (.inl (64, upd (S.2 45) j v))) := by
  rw [pm_two_up (by decide) (Nat.le_of_ble_eq_true rfl)]; exact k
theorem ca_47 {M : pm_M} {G : pm_G} {B pc : Nat} {loc : List (Option Value)} {st : List Value} {cs zs cnt : Nat} {kp : Value} {ρ : pm_S} {S : FS} {j : Nat} {v : Int32} (k : pm_wp M G B pc loc st cs zs cnt (cst B kp (wA S 47 j v) ρ)) : pm_wp M G B pc loc st cs zs cnt (pm_up (cst B kp S ρ) 47 (.inl (40, upd (S.2 47) j v))) := by
  rw [pm_two_up (by decide) (Nat.le_of_ble_eq_true rfl)]; exact k
theorem ca_49 {M : pm_M} {G : pm_G} {B pc : Nat} {loc : List (Option Value)} {st : List Value} {cs zs cnt : Nat} {kp : Value} {ρ : pm_S} {S : FS} {j : Nat} {v : Int32} (k : pm_wp M G B pc loc st cs zs cnt (cst B kp (wA S 49 j v) ρ)) : pm_wp M G B pc loc st cs zs cnt (pm_up (cst B kp S ρ) 49 (.inl (4, upd (S.2 49) j v))) := by
  rw [pm_two_up (by decide) (Nat.le_of_ble_eq_true rfl)]; exact k
theorem ca_50 {M : pm_M} {G : pm_G} {B pc : Nat} {loc : List (Option Value)} {st : List Value} {cs zs cnt : Nat} {kp : Value} {ρ : pm_S} {S : FS} {j : Nat} {v : Int32} (k : pm_wp M G B pc loc st cs zs cnt (cst B kp (wA S 50 j v) ρ)) : pm_wp M G B pc loc st cs zs cnt (pm_up (cst B kp S ρ) 50 (.inl (4, upd (S.2 50) j v))) := by
  rw [pm_two_up (by decide) (Nat.le_of_ble_eq_true rfl)]; exact k
theorem ca_53 {M : pm_M} {G : pm_G} {B pc : Nat} {loc : List (Option Value)} {st : List Value} {cs zs cnt : Nat} {kp : Value} {ρ : pm_S} {S : FS} {j : Nat} {v : Int32} (k : pm_wp M G B pc loc st cs zs cnt (cst B kp (wA S 53 j v) ρ)) : pm_wp M G B pc loc st cs zs cnt (pm_up (cst B kp S ρ) 53 (.inl (6, upd (S.2 53) j v))) := by
  rw [pm_two_up (by decide) (Nat.le_of_ble_eq_true rfl)]; exact k
theorem ci_101 {M : pm_M} {G : pm_G} {B pc : Nat} {loc : List (Option Value)} {st : List Value} {cs zs cnt : Nat} {kp : Value} {ρ : pm_S} {S : FS} {v : Int32} (k : pm_wp M G B pc loc st cs zs cnt (cst B kp (wI S 101 v) ρ)) : pm_wp M G B pc loc st cs zs cnt (pm_up (cst B kp S ρ) 1 (.inr (7, [.ref (B + 2), .ref (B + 4), .ref (B + 6), .ref (B + 8), .ref (B + 10), .ref (B + 12), .ref (B + 14), .ref (B + 16), .ref (B + 18), .ref (B + 20), .ref (B + 22), .ref (B + 24), .int v, .int (S.1 102), .int (S.1 103)]))) := by
  rw [pm_two_up (by decide) (Nat.le_of_ble_eq_true rfl)]; exact k
theorem ci_102 {M : pm_M} {G : pm_G} {B pc : Nat} {loc : List (Option Value)} {st : List Value} {cs zs cnt : Nat} {kp : Value} {ρ : pm_S} {S : FS} {v : Int32} (k : pm_wp M G B pc loc st cs zs cnt (cst B kp (wI S 102 v) ρ)) : pm_wp M G B pc loc st cs zs cnt (pm_up (cst B kp S ρ) 1 (.inr (7, [.ref (B + 2), .ref (B + 4), .ref (B + 6), .ref (B + 8), .ref (B + 10), .ref (B + 12), .ref (B + 14), .ref (B + 16), .ref (B + 18), .ref (B + 20), .ref (B + 22), .ref (B + 24), .int (S.1 101), .int v, .int (S.1 103)]))) := by
  rw [pm_two_up (by decide) (Nat.le_of_ble_eq_true rfl)]; exact k
theorem ci_103 {M : pm_M} {G : pm_G} {B pc : Nat} {loc : List (Option Value)} {st : List Value} {cs zs cnt : Nat} {kp : Value} {ρ : pm_S} {S : FS} {v : Int32} (k : pm_wp M G B pc loc st cs zs cnt (cst B kp (wI S 103 v) ρ)) : pm_wp M G B pc loc st cs zs cnt (pm_up (cst B kp S ρ) 1 (.inr (7, [.ref (B + 2), .ref (B + 4), .ref (B + 6), .ref (B + 8), .ref (B + 10), .ref (B + 12), .ref (B + 14), .ref (B + 16), .ref (B + 18), .ref (B + 20), .ref (B + 22), .ref (B + 24), .int (S.1 101), .int (S.1 102), .int v]))) := by
  rw [pm_two_up (by decide) (Nat.le_of_ble_eq_true rfl)]; exact k
theorem ci_104 {M : pm_M} {G : pm_G} {B pc : Nat} {loc : List (Option Value)} {st : List Value} {cs zs cnt : Nat} {kp : Value} {ρ : pm_S} {S : FS} {v : Int32} (k : pm_wp M G B pc loc st cs zs cnt (cst B kp (wI S 104 v) ρ)) : pm_wp M G B pc loc st cs zs cnt (pm_up (cst B kp S ρ) 26 (.inr (2, [.ref (B + 1), .ref (B + 27), .ref (B + 30), .int v]))) := by
  rw [pm_two_up (by decide) (Nat.le_of_ble_eq_true rfl)]; exact k
theorem ci_105 {M : pm_M} {G : pm_G} {B pc : Nat} {loc : List (Option Value)} {st : List Value} {cs zs cnt : Nat} {kp : Value} {ρ : pm_S} {S : FS} {v : Int32} (k : pm_wp M G B pc loc st cs zs cnt (cst B kp (wI S 105 v) ρ)) : pm_wp M G B pc loc st cs zs cnt (pm_up (cst B kp S ρ) 27 (.inr (6, [.ref (B + 24), .ref (B + 28), .int v, .int (S.1 106)]))) := by
  rw [pm_two_up (by decide) (Nat.le_of_ble_eq_true rfl)]; exact k
theorem ci_106 {M : pm_M} {G : pm_G} {B pc : Nat} {loc : List (Option Value)} {st : List Value} {cs zs cnt : Nat} {kp : Value} {ρ : pm_S} {S : FS} {v : Int32} (k : pm_wp M G B pc loc st cs zs cnt (cst B kp (wI S 106 v) ρ)) : pm_wp M G B pc loc st cs zs cnt (pm_up (cst B kp S ρ) 27 (.inr (6, [.ref (B + 24), .ref (B + 28), .int (S.1 105), .int v]))) := by
  rw [pm_two_up (by decide) (Nat.le_of_ble_eq_true rfl)]; exact k
theorem ci_107 {M : pm_M} {G : pm_G} {B pc : Nat} {loc : List (Option Value)} {st : List Value} {cs zs cnt : Nat} {kp : Value} {ρ : pm_S} {S : FS} {v : Int32} (k : pm_wp M G B pc loc st cs zs cnt (cst B kp (wI S 107 v) ρ)) : pm_wp M G B pc loc st cs zs cnt (pm_up (cst B kp S ρ) 31 (.inr (0, [.ref (B + 1), .ref (B + 26), .ref (B + 18), .ref (B + 32), .ref (B + 34), .int v, .int (S.1 108), .int (S.1 109), .int (S.1 110)]))) := by
  rw [pm_two_up (by decide) (Nat.le_of_ble_eq_true rfl)]; exact k
theorem ci_108 {M : pm_M} {G : pm_G} {B pc : Nat} {loc : List (Option Value)} {st : List Value} {cs zs cnt : Nat} {kp : Value} {ρ : pm_S} {S : FS} {v : Int32} (k : pm_wp M G B pc loc st cs zs cnt (cst B kp (wI S 108 v) ρ)) : pm_wp M G B pc loc st cs zs cnt (pm_up (cst B kp S ρ) 31 (.inr (0, [.ref (B + 1), .ref (B + 26), .ref (B + 18), .ref (B + 32), .ref (B + 34), .int (S.1 107), .int v, .int (S.1 109), .int (S.1 110)]))) := by
  rw [pm_two_up (by decide) (Nat.le_of_ble_eq_true rfl)]; exact k
theorem ci_109 {M : pm_M} {G : pm_G} {B pc : Nat} {loc : List (Option Value)} {st : List Value} {cs zs cnt : Nat} {kp : Value} {ρ : pm_S} {S : FS} {v : Int32} (k : pm_wp M G B pc loc st cs zs cnt (cst B kp (wI S 109 v) ρ)) : pm_wp M G B pc loc st cs zs cnt (pm_up (cst B kp S ρ) 31 (.inr (0, [.ref (B + 1), .ref (B + 26), .ref (B + 18), .ref (B + 32), .ref (B + 34), .int (S.1 107), .int (S.1 108), .int v, .int (S.1 110)]))) := by
  rw [pm_two_up (by decide) (Nat.le_of_ble_eq_true rfl)]; exact k
theorem ci_110 {M : pm_M} {G : pm_G} {B pc : Nat} {loc : List (Option Value)} {st : List Value} {cs zs cnt : Nat} {kp : Value} {ρ : pm_S} {S : FS} {v : Int32} (k : pm_wp M G B pc loc st cs zs cnt (cst B kp (wI S 110 v) ρ)) : pm_wp M G B pc loc st cs zs cnt (pm_up (cst B kp S ρ) 31 (.inr (0, [.ref (B + 1), .ref (B + 26), .ref (B + 18), .ref (B + 32), .ref (B + 34), .int (S.1 107), .int (S.1 108), .int (S.1 109), .int v]))) := by
  rw [pm_two_up (by decide) (Nat.le_of_ble_eq_true rfl)]; exact k
theorem ci_111 {M : pm_M} {G : pm_G} {B pc : Nat} {loc : List (Option Value)} {st : List Value} {cs zs cnt : Nat} {kp : Value} {ρ : pm_S} {S : FS} {v : Int32} (k : pm_wp M G B pc loc st cs zs cnt (cst B kp (wI S 111 v) ρ)) : pm_wp M G B pc loc st cs zs cnt (pm_up (cst B kp S ρ) 40 (.inr (1, [.ref (B + 1), .ref (B + 41), .int v]))) := by
  rw [pm_two_up (by decide) (Nat.le_of_ble_eq_true rfl)]; exact k
theorem ci_112 {M : pm_M} {G : pm_G} {B pc : Nat} {loc : List (Option Value)} {st : List Value} {cs zs cnt : Nat} {kp : Value} {ρ : pm_S} {S : FS} {v : Int32} (k : pm_wp M G B pc loc st cs zs cnt (cst B kp (wI S 112 v) ρ)) : pm_wp M G B pc loc st cs zs cnt (pm_up (cst B kp S ρ) 42 (.inr (5, [.ref (B + 1), .ref (B + 43), .ref (B + 44), .ref (B + 45), .int v, .int (S.1 113), .int (S.1 114)]))) := by
  rw [pm_two_up (by decide) (Nat.le_of_ble_eq_true rfl)]; exact k
theorem ci_113 {M : pm_M} {G : pm_G} {B pc : Nat} {loc : List (Option Value)} {st : List Value} {cs zs cnt : Nat} {kp : Value} {ρ : pm_S} {S : FS} {v : Int32} (k : pm_wp M G B pc loc st cs zs cnt (cst B kp (wI S 113 v) ρ)) : pm_wp M G B pc loc st cs zs cnt (pm_up (cst B kp S ρ) 42 (.inr (5, [.ref (B + 1), .ref (B + 43), .ref (B + 44), .ref (B + 45), .int (S.1 112), .int v, .int (S.1 114)]))) := by
  rw [pm_two_up (by decide) (Nat.le_of_ble_eq_true rfl)]; exact k
theorem ci_114 {M : pm_M} {G : pm_G} {B pc : Nat} {loc : List (Option Value)} {st : List Value} {cs zs cnt : Nat} {kp : Value} {ρ : pm_S} {S : FS} {v : Int32} (k : pm_wp M G B pc loc st cs zs cnt (cst B kp (wI S 114 v) ρ)) : pm_wp M G B pc loc st cs zs cnt (pm_up (cst B kp S ρ) 42 (.inr (5, [.ref (B + 1), .ref (B + 43), .ref (B + 44), .ref (B + 45), .int (S.1 112), .int (S.1 113), .int v]))) := by
  rw [pm_two_up (by decide) (Nat.le_of_ble_eq_true rfl)]; exact k
theorem ci_115 {M : pm_M} {G : pm_G} {B pc : Nat} {loc : List (Option Value)} {st : List Value} {cs zs cnt : Nat} {kp : Value} {ρ : pm_S} {S : FS} {v : Int32} (k : pm_wp M G B pc loc st cs zs cnt (cst B kp (wI S 115 v) ρ)) : pm_wp M G B pc loc st cs zs cnt (pm_up (cst B kp S ρ) 46 (.inr (10, [.ref (B + 47), .int v, .int (S.1 116), .int (S.1 117), .int (S.1 118)]))) := by
  rw [pm_two_up (by decide) (Nat.le_of_ble_eq_true rfl)]; exact k
theorem ci_116 {M : pm_M} {G : pm_G} {B pc : Nat} {loc : List (Option Value)} {st : List Value} {cs zs cnt : Nat} {kp : Value} {ρ : pm_S} {S : FS} {v : Int32} (k : pm_wp M G B pc loc st cs zs cnt (cst B kp (wI S 116 v) ρ)) : pm_wp M G B pc loc st cs zs cnt (pm_up (cst B kp S ρ) 46 (.inr (10, [.ref (B + 47), .int (S.1 115), .int v, .int (S.1 117), .int (S.1 118)]))) := by
  rw [pm_two_up (by decide) (Nat.le_of_ble_eq_true rfl)]; exact k
theorem ci_117 {M : pm_M} {G : pm_G} {B pc : Nat} {loc : List (Option Value)} {st : List Value} {cs zs cnt : Nat} {kp : Value} {ρ : pm_S} {S : FS} {v : Int32} (k : pm_wp M G B pc loc st cs zs cnt (cst B kp (wI S 117 v) ρ)) : pm_wp M G B pc loc st cs zs cnt (pm_up (cst B kp S ρ) 46 (.inr (10, [.ref (B + 47), .int (S.1 115), .int (S.1 116), .int v, .int (S.1 118)]))) := by
  rw [pm_two_up (by decide) (Nat.le_of_ble_eq_true rfl)]; exact k
theorem ci_118 {M : pm_M} {G : pm_G} {B pc : Nat} {loc : List (Option Value)} {st : List Value} {cs zs cnt : Nat} {kp : Value} {ρ : pm_S} {S : FS} {v : Int32} (k : pm_wp M G B pc loc st cs zs cnt (cst B kp (wI S 118 v) ρ)) : pm_wp M G B pc loc st cs zs cnt (pm_up (cst B kp S ρ) 46 (.inr (10, [.ref (B + 47), .int (S.1 115), .int (S.1 116), .int (S.1 117), .int v]))) := by
  rw [pm_two_up (by decide) (Nat.le_of_ble_eq_true rfl)]; exact k
theorem thas_2 {d B cnt : Nat} {kp : Value} {ρ : pm_S} {S : FS} {row : Int32} : pm_met mX9_has d 0 0 B [.ref (B + 2), .int row] cnt (cst B kp S ρ) (pm_Qi (fun v σ' cnt' => v = fHas 2 S row ∧ σ' = (cst B kp S ρ) ∧ cnt' = cnt)) := tb_has rfl
theorem tused_2 {d B cnt : Nat} {kp : Value} {ρ : pm_S} {S : FS} : pm_met mX9_used d 0 0 B [.ref (B + 2)] cnt (cst B kp S ρ) (pm_Qi (fun v σ' cnt' => v = S.1 2 ∧ σ' = (cst B kp S ρ) ∧ cnt' = cnt)) := tb_used rfl
theorem tisFull_2 {d B cnt : Nat} {kp : Value} {ρ : pm_S} {S : FS} : pm_met mX9_isFull d 0 0 B [.ref (B + 2)] cnt (cst B kp S ρ) (pm_Qi (fun v σ' cnt' => v = fFull 2 10 S ∧ σ' = (cst B kp S ρ) ∧ cnt' = cnt)) := tb_isFull rfl
theorem tget_2 {d B cnt : Nat} {kp : Value} {ρ : pm_S} {S : FS} {row col : Int32} : pm_met mX9_get d 0 0 B [.ref (B + 2), .int row, .int col] cnt (cst B kp S ρ) (pm_Qi (fun v σ' cnt' => v = fG 2 10 3 S row col ∧ σ' = (cst B kp S ρ) ∧ cnt' = cnt)) := tb_get rfl rfl (pm_tw_of 10 3 (by decide) (by decide) (by decide))
theorem tup_2 {B : Nat} {kp : Value} {ρ : pm_S} {S : FS} {row col x : Int32} : pm_up (cst B kp S ρ) 3 (.inl (30, pm_ts (nI 10) (nI 3) (S.2 3) row col x)) = cst B kp (fP 2 10 3 S row col x) ρ := pm_two_up (by decide) (Nat.le_of_ble_eq_true rfl)
theorem tset_2 {d B cnt : Nat} {kp : Value} {ρ : pm_S} {S : FS} {row col x : Int32} : pm_met mX9_set d 0 0 B [.ref (B + 2), .int row, .int col, .int x] cnt (cst B kp S ρ) (pm_Qv (fun σ' cnt' => σ' = (cst B kp (fP 2 10 3 S row col x) ρ) ∧ cnt' = cnt)) := by
  rw [← tup_2]; exact tb_set rfl rfl (pm_tw_of 10 3 (by decide) (by decide) (by decide)) (by decide)
theorem tadd_2 {d B cnt : Nat} {kp : Value} {ρ : pm_S} {S : FS} {row col x : Int32} (hdd : 1 ≤ d) : pm_met mX9_add d 0 0 B [.ref (B + 2), .int row, .int col, .int x] cnt (cst B kp S ρ) (pm_Qv (fun σ' cnt' => σ' = (cst B kp (fP 2 10 3 S row col (fG 2 10 3 S row col + x)) ρ) ∧ cnt' = cnt)) := by
  rw [← tup_2]; exact tb_add hdd rfl rfl (pm_tw_of 10 3 (by decide) (by decide) (by decide)) (by decide)
theorem tswap_2 {d B cnt : Nat} {kp : Value} {ρ : pm_S} {S : FS} {row col x : Int32} (hdd : 1 ≤ d) : pm_met mX9_swap d 0 0 B [.ref (B + 2), .int row, .int col, .int x] cnt (cst B kp S ρ) (pm_Qi (fun v σ' cnt' => v = fG 2 10 3 S row col ∧ σ' = (cst B kp (fP 2 10 3 S row col x) ρ) ∧ cnt' = cnt)) := by
  rw [← tup_2]; exact tb_swap hdd rfl rfl (pm_tw_of 10 3 (by decide) (by decide) (by decide)) (by decide)
theorem tclear_2 {d B cnt : Nat} {kp : Value} {ρ : pm_S} {S : FS} : pm_met mX9_clear d 0 0 B [.ref (B + 2)] cnt (cst B kp S ρ) (pm_Qv (fun σ' cnt' => σ' = (cst B kp (wI S 2 0) ρ) ∧ cnt' = cnt)) := by
  rw [← (show pm_up (cst B kp S ρ) 2 (.inr (9, [.int 10, .int 3, .ref (B + 3), .int 0])) = cst B kp (wI S 2 0) ρ from pm_two_up (by decide) (Nat.le_of_ble_eq_true rfl))]; exact tb_clear rfl
theorem tappend_2 {d B cnt : Nat} {kp : Value} {ρ : pm_S} {S : FS} {x : Int32} {R : Int32 × FS} (hdd : 1 ≤ d) (hE : fApp 2 10 3 S x = some R) : pm_met mX9_append d 0 0 B [.ref (B + 2), .int x] cnt (cst B kp S ρ) (pm_Qi (fun v σ' cnt' => v = R.1 ∧ σ' = (cst B kp R.2 ρ) ∧ cnt' = cnt)) := by
  obtain ⟨u, hu, hE⟩ := fb_some hE
  obtain ⟨hu1, hu2⟩ := iN_in (by decide) hu
  have ht : cst B kp S ρ 2 = some (.inr (9, [.int (nI 10), .int (nI 3), .ref (B + 3), .int (nI u)])) := by rw [← hu2]; rfl
  by_cases c : u = 10
  · rw [if_pos c] at hE
    obtain rfl := Option.some.inj hE
    exact tb_appF hdd ht rfl (by decide) (by decide) (by decide) (by decide) (by decide) (by decide) (by omega) hu1
  · rw [if_neg c] at hE
    obtain rfl := Option.some.inj hE
    have e2 : cst B kp (ui S.1 2 (nI (u + 1)), ua S.2 3 (pm_apf 3 u x (S.2 3))) ρ = pm_up (pm_up (cst B kp S ρ) 2 (.inr (9, [.int (nI 10), .int (nI 3), .ref (B + 3), .int (nI (u + 1))]))) 3 (.inl (30, pm_apf 3 u x (S.2 3))) := by
      rw [pm_two_up (by decide) (Nat.le_of_ble_eq_true rfl), pm_two_up (by decide) (Nat.le_of_ble_eq_true rfl)]; rfl
    show pm_met mX9_append d 0 0 B [.ref (B + 2), .int x] cnt (cst B kp S ρ) (pm_Qi (fun v σ' cnt' => v = nI u ∧ σ' = (cst B kp (ui S.1 2 (nI (u + 1)), ua S.2 3 (pm_apf 3 u x (S.2 3))) ρ) ∧ cnt' = cnt))
    rw [e2]
    exact tb_appN hdd ht rfl (by decide) (by decide) (by decide) (by decide) (by decide) (by decide) (by omega)
theorem trowsWith_2 {d B cnt : Nat} {kp : Value} {ρ : pm_S} {S : FS} {k : Nat} {x y : Int32} {R : Int32} (hk : k < 3) (hy : y = nI k) (hE : qRows 2 10 3 S k x = some R) : pm_met mX9_rowsWith d 0 0 B [.ref (B + 2), .int y, .int x] cnt (cst B kp S ρ) (pm_Qi (fun v σ' cnt' => v = R ∧ σ' = (cst B kp S ρ) ∧ cnt' = cnt)) := by
  subst hy
  obtain ⟨u, hu, hE⟩ := fb_some hE
  obtain ⟨hu1, hu2⟩ := iN_in (by decide) hu
  have ht : cst B kp S ρ 2 = some (.inr (9, [.int (nI 10), .int (nI 3), .ref (B + 3), .int (nI u)])) := by rw [← hu2]; rfl
  obtain rfl := Option.some.inj hE
  exact tb_rowsWith ht rfl (by decide) (by decide) (by decide) hu1 (by omega) hk
theorem tsumOf_2 {d B cnt : Nat} {kp : Value} {ρ : pm_S} {S : FS} {k : Nat} {y : Int32} {R : Int32} (hdd : 1 ≤ d) (hk : k < 3) (hy : y = nI k) (hE : qSum 2 10 3 S k = some R) : pm_met mX9_sumOf d 0 0 B [.ref (B + 2), .int y] cnt (cst B kp S ρ) (pm_Qi (fun v σ' cnt' => v = R ∧ σ' = (cst B kp S ρ) ∧ cnt' = cnt)) := by
  subst hy
  obtain ⟨u, hu, hE⟩ := fb_some hE
  obtain ⟨hu1, hu2⟩ := iN_in (by decide) hu
  have ht : cst B kp S ρ 2 = some (.inr (9, [.int (nI 10), .int (nI 3), .ref (B + 3), .int (nI u)])) := by rw [← hu2]; rfl
  obtain rfl := Option.some.inj hE
  exact tb_sumE hdd (by decide) (by decide) (by decide) hu1 hk ht rfl (pm_tw_of 10 3 (by decide) (by decide) (by decide)) (by omega)
theorem thas_4 {d B cnt : Nat} {kp : Value} {ρ : pm_S} {S : FS} {row : Int32} : pm_met mX9_has d 0 0 B [.ref (B + 4), .int row] cnt (cst B kp S ρ) (pm_Qi (fun v σ' cnt' => v = fHas 4 S row ∧ σ' = (cst B kp S ρ) ∧ cnt' = cnt)) := tb_has rfl
theorem tused_4 {d B cnt : Nat} {kp : Value} {ρ : pm_S} {S : FS} : pm_met mX9_used d 0 0 B [.ref (B + 4)] cnt (cst B kp S ρ) (pm_Qi (fun v σ' cnt' => v = S.1 4 ∧ σ' = (cst B kp S ρ) ∧ cnt' = cnt)) := tb_used rfl
theorem tisFull_4 {d B cnt : Nat} {kp : Value} {ρ : pm_S} {S : FS} : pm_met mX9_isFull d 0 0 B [.ref (B + 4)] cnt (cst B kp S ρ) (pm_Qi (fun v σ' cnt' => v = fFull 4 10 S ∧ σ' = (cst B kp S ρ) ∧ cnt' = cnt)) := tb_isFull rfl
theorem tget_4 {d B cnt : Nat} {kp : Value} {ρ : pm_S} {S : FS} {row col : Int32} : pm_met mX9_get d 0 0 B [.ref (B + 4), .int row, .int col] cnt (cst B kp S ρ) (pm_Qi (fun v σ' cnt' => v = fG 4 10 10 S row col ∧ σ' = (cst B kp S ρ) ∧ cnt' = cnt)) := tb_get rfl rfl (pm_tw_of 10 10 (by decide) (by decide) (by decide))
theorem tup_4 {B : Nat} {kp : Value} {ρ : pm_S} {S : FS} {row col x : Int32} : pm_up (cst B kp S ρ) 5 (.inl (100, pm_ts (nI 10) (nI 10) (S.2 5) row col x)) = cst B kp (fP 4 10 10 S row col x) ρ := pm_two_up (by decide) (Nat.le_of_ble_eq_true rfl)
theorem tset_4 {d B cnt : Nat} {kp : Value} {ρ : pm_S} {S : FS} {row col x : Int32} : pm_met mX9_set d 0 0 B [.ref (B + 4), .int row, .int col, .int x] cnt (cst B kp S ρ) (pm_Qv (fun σ' cnt' => σ' = (cst B kp (fP 4 10 10 S row col x) ρ) ∧ cnt' = cnt)) := by
  rw [← tup_4]; exact tb_set rfl rfl (pm_tw_of 10 10 (by decide) (by decide) (by decide)) (by decide)
theorem tadd_4 {d B cnt : Nat} {kp : Value} {ρ : pm_S} {S : FS} {row col x : Int32} (hdd : 1 ≤ d) : pm_met mX9_add d 0 0 B [.ref (B + 4), .int row, .int col, .int x] cnt (cst B kp S ρ) (pm_Qv (fun σ' cnt' => σ' = (cst B kp (fP 4 10 10 S row col (fG 4 10 10 S row col + x)) ρ) ∧ cnt' = cnt)) := by
  rw [← tup_4]; exact tb_add hdd rfl rfl (pm_tw_of 10 10 (by decide) (by decide) (by decide)) (by decide)
theorem tswap_4 {d B cnt : Nat} {kp : Value} {ρ : pm_S} {S : FS} {row col x : Int32} (hdd : 1 ≤ d) : pm_met mX9_swap d 0 0 B [.ref (B + 4), .int row, .int col, .int x] cnt (cst B kp S ρ) (pm_Qi (fun v σ' cnt' => v = fG 4 10 10 S row col ∧ σ' = (cst B kp (fP 4 10 10 S row col x) ρ) ∧ cnt' = cnt)) := by
  rw [← tup_4]; exact tb_swap hdd rfl rfl (pm_tw_of 10 10 (by decide) (by decide) (by decide)) (by decide)
theorem tclear_4 {d B cnt : Nat} {kp : Value} {ρ : pm_S} {S : FS} : pm_met mX9_clear d 0 0 B [.ref (B + 4)] cnt (cst B kp S ρ) (pm_Qv (fun σ' cnt' => σ' = (cst B kp (wI S 4 0) ρ) ∧ cnt' = cnt)) := by
  rw [← (show pm_up (cst B kp S ρ) 4 (.inr (9, [.int 10, .int 10, .ref (B + 5), .int 0])) = cst B kp (wI S 4 0) ρ from pm_two_up (by decide) (Nat.le_of_ble_eq_true rfl))]; exact tb_clear rfl
theorem tappend_4 {d B cnt : Nat} {kp : Value} {ρ : pm_S} {S : FS} {x : Int32} {R : Int32 × FS} (hdd : 1 ≤ d) (hE : fApp 4 10 10 S x = some R) : pm_met mX9_append d 0 0 B [.ref (B + 4), .int x] cnt (cst B kp S ρ) (pm_Qi (fun v σ' cnt' => v = R.1 ∧ σ' = (cst B kp R.2 ρ) ∧ cnt' = cnt)) := by
  obtain ⟨u, hu, hE⟩ := fb_some hE
  obtain ⟨hu1, hu2⟩ := iN_in (by decide) hu
  have ht : cst B kp S ρ 4 = some (.inr (9, [.int (nI 10), .int (nI 10), .ref (B + 5), .int (nI u)])) := by rw [← hu2]; rfl
  by_cases c : u = 10
  · rw [if_pos c] at hE
    obtain rfl := Option.some.inj hE
    exact tb_appF hdd ht rfl (by decide) (by decide) (by decide) (by decide) (by decide) (by decide) (by omega) hu1
  · rw [if_neg c] at hE
    obtain rfl := Option.some.inj hE
    have e2 : cst B kp (ui S.1 4 (nI (u + 1)), ua S.2 5 (pm_apf 10 u x (S.2 5))) ρ = pm_up (pm_up (cst B kp S ρ) 4 (.inr (9, [.int (nI 10), .int (nI 10), .ref (B + 5), .int (nI (u + 1))]))) 5 (.inl (100, pm_apf 10 u x (S.2 5))) := by
      rw [pm_two_up (by decide) (Nat.le_of_ble_eq_true rfl), pm_two_up (by decide) (Nat.le_of_ble_eq_true rfl)]; rfl
    show pm_met mX9_append d 0 0 B [.ref (B + 4), .int x] cnt (cst B kp S ρ) (pm_Qi (fun v σ' cnt' => v = nI u ∧ σ' = (cst B kp (ui S.1 4 (nI (u + 1)), ua S.2 5 (pm_apf 10 u x (S.2 5))) ρ) ∧ cnt' = cnt))
    rw [e2]
    exact tb_appN hdd ht rfl (by decide) (by decide) (by decide) (by decide) (by decide) (by decide) (by omega)
theorem trowsWith_4 {d B cnt : Nat} {kp : Value} {ρ : pm_S} {S : FS} {k : Nat} {x y : Int32} {R : Int32} (hk : k < 10) (hy : y = nI k) (hE : qRows 4 10 10 S k x = some R) : pm_met mX9_rowsWith d 0 0 B [.ref (B + 4), .int y, .int x] cnt (cst B kp S ρ) (pm_Qi (fun v σ' cnt' => v = R ∧ σ' = (cst B kp S ρ) ∧ cnt' = cnt)) := by
  subst hy
  obtain ⟨u, hu, hE⟩ := fb_some hE
  obtain ⟨hu1, hu2⟩ := iN_in (by decide) hu
  have ht : cst B kp S ρ 4 = some (.inr (9, [.int (nI 10), .int (nI 10), .ref (B + 5), .int (nI u)])) := by rw [← hu2]; rfl
  obtain rfl := Option.some.inj hE
  exact tb_rowsWith ht rfl (by decide) (by decide) (by decide) hu1 (by omega) hk
theorem tsumOf_4 {d B cnt : Nat} {kp : Value} {ρ : pm_S} {S : FS} {k : Nat} {y : Int32} {R : Int32} (hdd : 1 ≤ d) (hk : k < 10) (hy : y = nI k) (hE : qSum 4 10 10 S k = some R) : pm_met mX9_sumOf d 0 0 B [.ref (B + 4), .int y] cnt (cst B kp S ρ) (pm_Qi (fun v σ' cnt' => v = R ∧ σ' = (cst B kp S ρ) ∧ cnt' = cnt)) := by
  subst hy
  obtain ⟨u, hu, hE⟩ := fb_some hE
  obtain ⟨hu1, hu2⟩ := iN_in (by decide) hu
  have ht : cst B kp S ρ 4 = some (.inr (9, [.int (nI 10), .int (nI 10), .ref (B + 5), .int (nI u)])) := by rw [← hu2]; rfl
  obtain rfl := Option.some.inj hE
  exact tb_sumE hdd (by decide) (by decide) (by decide) hu1 hk ht rfl (pm_tw_of 10 10 (by decide) (by decide) (by decide)) (by omega)
theorem thas_6 {d B cnt : Nat} {kp : Value} {ρ : pm_S} {S : FS} {row : Int32} : pm_met mX9_has d 0 0 B [.ref (B + 6), .int row] cnt (cst B kp S ρ) (pm_Qi (fun v σ' cnt' => v = fHas 6 S row ∧ σ' = (cst B kp S ρ) ∧ cnt' = cnt)) := tb_has rfl
theorem tused_6 {d B cnt : Nat} {kp : Value} {ρ : pm_S} {S : FS} : pm_met mX9_used d 0 0 B [.ref (B + 6)] cnt (cst B kp S ρ) (pm_Qi (fun v σ' cnt' => v = S.1 6 ∧ σ' = (cst B kp S ρ) ∧ cnt' = cnt)) := tb_used rfl
theorem tisFull_6 {d B cnt : Nat} {kp : Value} {ρ : pm_S} {S : FS} : pm_met mX9_isFull d 0 0 B [.ref (B + 6)] cnt (cst B kp S ρ) (pm_Qi (fun v σ' cnt' => v = fFull 6 20 S ∧ σ' = (cst B kp S ρ) ∧ cnt' = cnt)) := tb_isFull rfl
theorem tget_6 {d B cnt : Nat} {kp : Value} {ρ : pm_S} {S : FS} {row col : Int32} : pm_met mX9_get d 0 0 B [.ref (B + 6), .int row, .int col] cnt (cst B kp S ρ) (pm_Qi (fun v σ' cnt' => v = fG 6 20 14 S row col ∧ σ' = (cst B kp S ρ) ∧ cnt' = cnt)) := tb_get rfl rfl (pm_tw_of 20 14 (by decide) (by decide) (by decide))
theorem tup_6 {B : Nat} {kp : Value} {ρ : pm_S} {S : FS} {row col x : Int32} : pm_up (cst B kp S ρ) 7 (.inl (280, pm_ts (nI 20) (nI 14) (S.2 7) row col x)) = cst B kp (fP 6 20 14 S row col x) ρ := pm_two_up (by decide) (Nat.le_of_ble_eq_true rfl)
theorem tset_6 {d B cnt : Nat} {kp : Value} {ρ : pm_S} {S : FS} {row col x : Int32} : pm_met mX9_set d 0 0 B [.ref (B + 6), .int row, .int col, .int x] cnt (cst B kp S ρ) (pm_Qv (fun σ' cnt' => σ' = (cst B kp (fP 6 20 14 S row col x) ρ) ∧ cnt' = cnt)) := by
  rw [← tup_6]; exact tb_set rfl rfl (pm_tw_of 20 14 (by decide) (by decide) (by decide)) (by decide)
theorem tadd_6 {d B cnt : Nat} {kp : Value} {ρ : pm_S} {S : FS} {row col x : Int32} (hdd : 1 ≤ d) : pm_met mX9_add d 0 0 B [.ref (B + 6), .int row, .int col, .int x] cnt (cst B kp S ρ) (pm_Qv (fun σ' cnt' => σ' = (cst B kp (fP 6 20 14 S row col (fG 6 20 14 S row col + x)) ρ) ∧ cnt' = cnt)) := by
  rw [← tup_6]; exact tb_add hdd rfl rfl (pm_tw_of 20 14 (by decide) (by decide) (by decide)) (by decide)
theorem tswap_6 {d B cnt : Nat} {kp : Value} {ρ : pm_S} {S : FS} {row col x : Int32} (hdd : 1 ≤ d) : pm_met mX9_swap d 0 0 B [.ref (B + 6), .int row, .int col, .int x] cnt (cst B kp S ρ) (pm_Qi (fun v σ' cnt' => v = fG 6 20 14 S row col ∧ σ' = (cst B kp (fP 6 20 14 S row col x) ρ) ∧ cnt' = cnt)) := by
  rw [← tup_6]; exact tb_swap hdd rfl rfl (pm_tw_of 20 14 (by decide) (by decide) (by decide)) (by decide)
theorem tclear_6 {d B cnt : Nat} {kp : Value} {ρ : pm_S} {S : FS} : pm_met mX9_clear d 0 0 B [.ref (B + 6)] cnt (cst B kp S ρ) (pm_Qv (fun σ' cnt' => σ' = (cst B kp (wI S 6 0) ρ) ∧ cnt' = cnt)) := by
  rw [← (show pm_up (cst B kp S ρ) 6 (.inr (9, [.int 20, .int 14, .ref (B + 7), .int 0])) = cst B kp (wI S 6 0) ρ from pm_two_up (by decide) (Nat.le_of_ble_eq_true rfl))]; exact tb_clear rfl
theorem tappend_6 {d B cnt : Nat} {kp : Value} {ρ : pm_S} {S : FS} {x : Int32} {R : Int32 × FS} (hdd : 1 ≤ d) (hE : fApp 6 20 14 S x = some R) : pm_met mX9_append d 0 0 B [.ref (B + 6), .int x] cnt (cst B kp S ρ) (pm_Qi (fun v σ' cnt' => v = R.1 ∧ σ' = (cst B kp R.2 ρ) ∧ cnt' = cnt)) := by
  obtain ⟨u, hu, hE⟩ := fb_some hE
  obtain ⟨hu1, hu2⟩ := iN_in (by decide) hu
  have ht : cst B kp S ρ 6 = some (.inr (9, [.int (nI 20), .int (nI 14), .ref (B + 7), .int (nI u)])) := by rw [← hu2]; rfl
  by_cases c : u = 20
  · rw [if_pos c] at hE
    obtain rfl := Option.some.inj hE
    exact tb_appF hdd ht rfl (by decide) (by decide) (by decide) (by decide) (by decide) (by decide) (by omega) hu1
  · rw [if_neg c] at hE
    obtain rfl := Option.some.inj hE
    have e2 : cst B kp (ui S.1 6 (nI (u + 1)), ua S.2 7 (pm_apf 14 u x (S.2 7))) ρ = pm_up (pm_up (cst B kp S ρ) 6 (.inr (9, [.int (nI 20), .int (nI 14), .ref (B + 7), .int (nI (u + 1))]))) 7 (.inl (280, pm_apf 14 u x (S.2 7))) := by
      rw [pm_two_up (by decide) (Nat.le_of_ble_eq_true rfl), pm_two_up (by decide) (Nat.le_of_ble_eq_true rfl)]; rfl
    show pm_met mX9_append d 0 0 B [.ref (B + 6), .int x] cnt (cst B kp S ρ) (pm_Qi (fun v σ' cnt' => v = nI u ∧ σ' = (cst B kp (ui S.1 6 (nI (u + 1)), ua S.2 7 (pm_apf 14 u x (S.2 7))) ρ) ∧ cnt' = cnt))
    rw [e2]
    exact tb_appN hdd ht rfl (by decide) (by decide) (by decide) (by decide) (by decide) (by decide) (by omega)
theorem trowsWith_6 {d B cnt : Nat} {kp : Value} {ρ : pm_S} {S : FS} {k : Nat} {x y : Int32} {R : Int32} (hk : k < 14) (hy : y = nI k) (hE : qRows 6 20 14 S k x = some R) : pm_met mX9_rowsWith d 0 0 B [.ref (B + 6), .int y, .int x] cnt (cst B kp S ρ) (pm_Qi (fun v σ' cnt' => v = R ∧ σ' = (cst B kp S ρ) ∧ cnt' = cnt)) := by
  subst hy
  obtain ⟨u, hu, hE⟩ := fb_some hE
  obtain ⟨hu1, hu2⟩ := iN_in (by decide) hu
  have ht : cst B kp S ρ 6 = some (.inr (9, [.int (nI 20), .int (nI 14), .ref (B + 7), .int (nI u)])) := by rw [← hu2]; rfl
  obtain rfl := Option.some.inj hE
  exact tb_rowsWith ht rfl (by decide) (by decide) (by decide) hu1 (by omega) hk
theorem tsumOf_6 {d B cnt : Nat} {kp : Value} {ρ : pm_S} {S : FS} {k : Nat} {y : Int32} {R : Int32} (hdd : 1 ≤ d) (hk : k < 14) (hy : y = nI k) (hE : qSum 6 20 14 S k = some R) : pm_met mX9_sumOf d 0 0 B [.ref (B + 6), .int y] cnt (cst B kp S ρ) (pm_Qi (fun v σ' cnt' => v = R ∧ σ' = (cst B kp S ρ) ∧ cnt' = cnt)) := by
  subst hy
  obtain ⟨u, hu, hE⟩ := fb_some hE
  obtain ⟨hu1, hu2⟩ := iN_in (by decide) hu
  have ht : cst B kp S ρ 6 = some (.inr (9, [.int (nI 20), .int (nI 14), .ref (B + 7), .int (nI u)])) := by rw [← hu2]; rfl
  obtain rfl := Option.some.inj hE
  exact tb_sumE hdd (by decide) (by decide) (by decide) hu1 hk ht rfl (pm_tw_of 20 14 (by decide) (by decide) (by decide)) (by omega)
theorem thas_8 {d B cnt : Nat} {kp : Value} {ρ : pm_S} {S : FS} {row : Int32} : pm_met mX9_has d 0 0 B [.ref (B + 8), .int row] cnt (cst B kp S ρ) (pm_Qi (fun v σ' cnt' => v = fHas 8 S row ∧ σ' = (cst B kp S ρ) ∧ cnt' = cnt)) := tb_has rfl
theorem tused_8 {d B cnt : Nat} {kp : Value} {ρ : pm_S} {S : FS} : pm_met mX9_used d 0 0 B [.ref (B + 8)] cnt (cst B kp S ρ) (pm_Qi (fun v σ' cnt' => v = S.1 8 ∧ σ' = (cst B kp S ρ) ∧ cnt' = cnt)) := tb_used rfl
theorem tisFull_8 {d B cnt : Nat} {kp : Value} {ρ : pm_S} {S : FS} : pm_met mX9_isFull d 0 0 B [.ref (B + 8)] cnt (cst B kp S ρ) (pm_Qi (fun v σ' cnt' => v = fFull 8 20 S ∧ σ' = (cst B kp S ρ) ∧ cnt' = cnt)) := tb_isFull rfl
theorem tget_8 {d B cnt : Nat} {kp : Value} {ρ : pm_S} {S : FS} {row col : Int32} : pm_met mX9_get d 0 0 B [.ref (B + 8), .int row, .int col] cnt (cst B kp S ρ) (pm_Qi (fun v σ' cnt' => v = fG 8 20 6 S row col ∧ σ' = (cst B kp S ρ) ∧ cnt' = cnt)) := tb_get rfl rfl (pm_tw_of 20 6 (by decide) (by decide) (by decide))
theorem tup_8 {B : Nat} {kp : Value} {ρ : pm_S} {S : FS} {row col x : Int32} : pm_up (cst B kp S ρ) 9 (.inl (120, pm_ts (nI 20) (nI 6) (S.2 9) row col x)) = cst B kp (fP 8 20 6 S row col x) ρ := pm_two_up (by decide) (Nat.le_of_ble_eq_true rfl)
theorem tset_8 {d B cnt : Nat} {kp : Value} {ρ : pm_S} {S : FS} {row col x : Int32} : pm_met mX9_set d 0 0 B [.ref (B + 8), .int row, .int col, .int x] cnt (cst B kp S ρ) (pm_Qv (fun σ' cnt' => σ' = (cst B kp (fP 8 20 6 S row col x) ρ) ∧ cnt' = cnt)) := by
  rw [← tup_8]; exact tb_set rfl rfl (pm_tw_of 20 6 (by decide) (by decide) (by decide)) (by decide)
theorem tadd_8 {d B cnt : Nat} {kp : Value} {ρ : pm_S} {S : FS} {row col x : Int32} (hdd : 1 ≤ d) : pm_met mX9_add d 0 0 B [.ref (B + 8), .int row, .int col, .int x] cnt (cst B kp S ρ) (pm_Qv (fun σ' cnt' => σ' = (cst B kp (fP 8 20 6 S row col (fG 8 20 6 S row col + x)) ρ) ∧ cnt' = cnt)) := by
  rw [← tup_8]; exact tb_add hdd rfl rfl (pm_tw_of 20 6 (by decide) (by decide) (by decide)) (by decide)
theorem tswap_8 {d B cnt : Nat} {kp : Value} {ρ : pm_S} {S : FS} {row col x : Int32} (hdd : 1 ≤ d) : pm_met mX9_swap d 0 0 B [.ref (B + 8), .int row, .int col, .int x] cnt (cst B kp S ρ) (pm_Qi (fun v σ' cnt' => v = fG 8 20 6 S row col ∧ σ' = (cst B kp (fP 8 20 6 S row col x) ρ) ∧ cnt' = cnt)) := by
  rw [← tup_8]; exact tb_swap hdd rfl rfl (pm_tw_of 20 6 (by decide) (by decide) (by decide)) (by decide)
theorem tclear_8 {d B cnt : Nat} {kp : Value} {ρ : pm_S} {S : FS} : pm_met mX9_clear d 0 0 B [.ref (B + 8)] cnt (cst B kp S ρ) (pm_Qv (fun σ' cnt' => σ' = (cst B kp (wI S 8 0) ρ) ∧ cnt' = cnt)) := by
  rw [← (show pm_up (cst B kp S ρ) 8 (.inr (9, [.int 20, .int 6, .ref (B + 9), .int 0])) = cst B kp (wI S 8 0) ρ from pm_two_up (by decide) (Nat.le_of_ble_eq_true rfl))]; exact tb_clear rfl
theorem tappend_8 {d B cnt : Nat} {kp : Value} {ρ : pm_S} {S : FS} {x : Int32} {R : Int32 × FS} (hdd : 1 ≤ d) (hE : fApp 8 20 6 S x = some R) : pm_met mX9_append d 0 0 B [.ref (B + 8), .int x] cnt (cst B kp S ρ) (pm_Qi (fun v σ' cnt' => v = R.1 ∧ σ' = (cst B kp R.2 ρ) ∧ cnt' = cnt)) := by
  obtain ⟨u, hu, hE⟩ := fb_some hE
  obtain ⟨hu1, hu2⟩ := iN_in (by decide) hu
  have ht : cst B kp S ρ 8 = some (.inr (9, [.int (nI 20), .int (nI 6), .ref (B + 9), .int (nI u)])) := by rw [← hu2]; rfl
  by_cases c : u = 20
  · rw [if_pos c] at hE
    obtain rfl := Option.some.inj hE
    exact tb_appF hdd ht rfl (by decide) (by decide) (by decide) (by decide) (by decide) (by decide) (by omega) hu1
  · rw [if_neg c] at hE
    obtain rfl := Option.some.inj hE
    have e2 : cst B kp (ui S.1 8 (nI (u + 1)), ua S.2 9 (pm_apf 6 u x (S.2 9))) ρ = pm_up (pm_up (cst B kp S ρ) 8 (.inr (9, [.int (nI 20), .int (nI 6), .ref (B + 9), .int (nI (u + 1))]))) 9 (.inl (120, pm_apf 6 u x (S.2 9))) := by
      rw [pm_two_up (by decide) (Nat.le_of_ble_eq_true rfl), pm_two_up (by decide) (Nat.le_of_ble_eq_true rfl)]; rfl
    show pm_met mX9_append d 0 0 B [.ref (B + 8), .int x] cnt (cst B kp S ρ) (pm_Qi (fun v σ' cnt' => v = nI u ∧ σ' = (cst B kp (ui S.1 8 (nI (u + 1)), ua S.2 9 (pm_apf 6 u x (S.2 9))) ρ) ∧ cnt' = cnt))
    rw [e2]
    exact tb_appN hdd ht rfl (by decide) (by decide) (by decide) (by decide) (by decide) (by decide) (by omega)
theorem trowsWith_8 {d B cnt : Nat} {kp : Value} {ρ : pm_S} {S : FS} {k : Nat} {x y : Int32} {R : Int32} (hk : k < 6) (hy : y = nI k) (hE : qRows 8 20 6 S k x = some R) : pm_met mX9_rowsWith d 0 0 B [.ref (B + 8), .int y, .int x] cnt (cst B kp S ρ) (pm_Qi (fun v σ' cnt' => v = R ∧ σ' = (cst B kp S ρ) ∧ cnt' = cnt)) := by
  subst hy
  obtain ⟨u, hu, hE⟩ := fb_some hE
  obtain ⟨hu1, hu2⟩ := iN_in (by decide) hu
  have ht : cst B kp S ρ 8 = some (.inr (9, [.int (nI 20), .int (nI 6), .ref (B + 9), .int (nI u)])) := by rw [← hu2]; rfl
  obtain rfl := Option.some.inj hE
  exact tb_rowsWith ht rfl (by decide) (by decide) (by decide) hu1 (by omega) hk
theorem tsumOf_8 {d B cnt : Nat} {kp : Value} {ρ : pm_S} {S : FS} {k : Nat} {y : Int32} {R : Int32} (hdd : 1 ≤ d) (hk : k < 6) (hy : y = nI k) (hE : qSum 8 20 6 S k = some R) : pm_met mX9_sumOf d 0 0 B [.ref (B + 8), .int y] cnt (cst B kp S ρ) (pm_Qi (fun v σ' cnt' => v = R ∧ σ' = (cst B kp S ρ) ∧ cnt' = cnt)) := by
  subst hy
  obtain ⟨u, hu, hE⟩ := fb_some hE
  obtain ⟨hu1, hu2⟩ := iN_in (by decide) hu
  have ht : cst B kp S ρ 8 = some (.inr (9, [.int (nI 20), .int (nI 6), .ref (B + 9), .int (nI u)])) := by rw [← hu2]; rfl
  obtain rfl := Option.some.inj hE
  exact tb_sumE hdd (by decide) (by decide) (by decide) hu1 hk ht rfl (pm_tw_of 20 6 (by decide) (by decide) (by decide)) (by omega)
theorem thas_10 {d B cnt : Nat} {kp : Value} {ρ : pm_S} {S : FS} {row : Int32} : pm_met mX9_has d 0 0 B [.ref (B + 10), .int row] cnt (cst B kp S ρ) (pm_Qi (fun v σ' cnt' => v = fHas 10 S row ∧ σ' = (cst B kp S ρ) ∧ cnt' = cnt)) := tb_has rfl
theorem tused_10 {d B cnt : Nat} {kp : Value} {ρ : pm_S} {S : FS} : pm_met mX9_used d 0 0 B [.ref (B + 10)] cnt (cst B kp S ρ) (pm_Qi (fun v σ' cnt' => v = S.1 10 ∧ σ' = (cst B kp S ρ) ∧ cnt' = cnt)) := tb_used rfl
theorem tisFull_10 {d B cnt : Nat} {kp : Value} {ρ : pm_S} {S : FS} : pm_met mX9_isFull d 0 0 B [.ref (B + 10)] cnt (cst B kp S ρ) (pm_Qi (fun v σ' cnt' => v = fFull 10 12 S ∧ σ' = (cst B kp S ρ) ∧ cnt' = cnt)) := tb_isFull rfl
theorem tget_10 {d B cnt : Nat} {kp : Value} {ρ : pm_S} {S : FS} {row col : Int32} : pm_met mX9_get d 0 0 B [.ref (B + 10), .int row, .int col] cnt (cst B kp S ρ) (pm_Qi (fun v σ' cnt' => v = fG 10 12 6 S row col ∧ σ' = (cst B kp S ρ) ∧ cnt' = cnt)) := tb_get rfl rfl (pm_tw_of 12 6 (by decide) (by decide) (by decide))
theorem tup_10 {B : Nat} {kp : Value} {ρ : pm_S} {S : FS} {row col x : Int32} : pm_up (cst B kp S ρ) 11 (.inl (72, pm_ts (nI 12) (nI 6) (S.2 11) row col x)) = cst B kp (fP 10 12 6 S row col x) ρ := pm_two_up (by decide) (Nat.le_of_ble_eq_true rfl)
theorem tset_10 {d B cnt : Nat} {kp : Value} {ρ : pm_S} {S : FS} {row col x : Int32} : pm_met mX9_set d 0 0 B [.ref (B + 10), .int row, .int col, .int x] cnt (cst B kp S ρ) (pm_Qv (fun σ' cnt' => σ' = (cst B kp (fP 10 12 6 S row col x) ρ) ∧ cnt' = cnt)) := by
  rw [← tup_10]; exact tb_set rfl rfl (pm_tw_of 12 6 (by decide) (by decide) (by decide)) (by decide)
theorem tadd_10 {d B cnt : Nat} {kp : Value} {ρ : pm_S} {S : FS} {row col x : Int32} (hdd : 1 ≤ d) : pm_met mX9_add d 0 0 B [.ref (B + 10), .int row, .int col, .int x] cnt (cst B kp S ρ) (pm_Qv (fun σ' cnt' => σ' = (cst B kp (fP 10 12 6 S row col (fG 10 12 6 S row col + x)) ρ) ∧ cnt' = cnt)) := by
  rw [← tup_10]; exact tb_add hdd rfl rfl (pm_tw_of 12 6 (by decide) (by decide) (by decide)) (by decide)
theorem tswap_10 {d B cnt : Nat} {kp : Value} {ρ : pm_S} {S : FS} {row col x : Int32} (hdd : 1 ≤ d) : pm_met mX9_swap d 0 0 B [.ref (B + 10), .int row, .int col, .int x] cnt (cst B kp S ρ) (pm_Qi (fun v σ' cnt' => v = fG 10 12 6 S row col ∧ σ' = (cst B kp (fP 10 12 6 S row col x) ρ) ∧ cnt' = cnt)) := by
  rw [← tup_10]; exact tb_swap hdd rfl rfl (pm_tw_of 12 6 (by decide) (by decide) (by decide)) (by decide)
theorem tclear_10 {d B cnt : Nat} {kp : Value} {ρ : pm_S} {S : FS} : pm_met mX9_clear d 0 0 B [.ref (B + 10)] cnt (cst B kp S ρ) (pm_Qv (fun σ' cnt' => σ' = (cst B kp (wI S 10 0) ρ) ∧ cnt' = cnt)) := by
  rw [← (show pm_up (cst B kp S ρ) 10 (.inr (9, [.int 12, .int 6, .ref (B + 11), .int 0])) = cst B kp (wI S 10 0) ρ from pm_two_up (by decide) (Nat.le_of_ble_eq_true rfl))]; exact tb_clear rfl
theorem tappend_10 {d B cnt : Nat} {kp : Value} {ρ : pm_S} {S : FS} {x : Int32} {R : Int32 × FS} (hdd : 1 ≤ d) (hE : fApp 10 12 6 S x = some R) : pm_met mX9_append d 0 0 B [.ref (B + 10), .int x] cnt (cst B kp S ρ) (pm_Qi (fun v σ' cnt' => v = R.1 ∧ σ' = (cst B kp R.2 ρ) ∧ cnt' = cnt)) := by
  obtain ⟨u, hu, hE⟩ := fb_some hE
  obtain ⟨hu1, hu2⟩ := iN_in (by decide) hu
  have ht : cst B kp S ρ 10 = some (.inr (9, [.int (nI 12), .int (nI 6), .ref (B + 11), .int (nI u)])) := by rw [← hu2]; rfl
  by_cases c : u = 12
  · rw [if_pos c] at hE
    obtain rfl := Option.some.inj hE
    exact tb_appF hdd ht rfl (by decide) (by decide) (by decide) (by decide) (by decide) (by decide) (by omega) hu1
  · rw [if_neg c] at hE
    obtain rfl := Option.some.inj hE
    have e2 : cst B kp (ui S.1 10 (nI (u + 1)), ua S.2 11 (pm_apf 6 u x (S.2 11))) ρ = pm_up (pm_up (cst B kp S ρ) 10 (.inr (9, [.int (nI 12), .int (nI 6), .ref (B + 11), .int (nI (u + 1))]))) 11 (.inl (72, pm_apf 6 u x (S.2 11))) := by
      rw [pm_two_up (by decide) (Nat.le_of_ble_eq_true rfl), pm_two_up (by decide) (Nat.le_of_ble_eq_true rfl)]; rfl
    show pm_met mX9_append d 0 0 B [.ref (B + 10), .int x] cnt (cst B kp S ρ) (pm_Qi (fun v σ' cnt' => v = nI u ∧ σ' = (cst B kp (ui S.1 10 (nI (u + 1)), ua S.2 11 (pm_apf 6 u x (S.2 11))) ρ) ∧ cnt' = cnt))
    rw [e2]
    exact tb_appN hdd ht rfl (by decide) (by decide) (by decide) (by decide) (by decide) (by decide) (by omega)
theorem trowsWith_10 {d B cnt : Nat} {kp : Value} {ρ : pm_S} {S : FS} {k : Nat} {x y : Int32} {R : Int32} (hk : k < 6) (hy : y = nI k) (hE : qRows 10 12 6 S k x = some R) : pm_met mX9_rowsWith d 0 0 B [.ref (B + 10), .int y, .int x] cnt (cst B kp S ρ) (pm_Qi (fun v σ' cnt' => v = R ∧ σ' = (cst B kp S ρ) ∧ cnt' = cnt)) := by
  subst hy
  obtain ⟨u, hu, hE⟩ := fb_some hE
  obtain ⟨hu1, hu2⟩ := iN_in (by decide) hu
  have ht : cst B kp S ρ 10 = some (.inr (9, [.int (nI 12), .int (nI 6), .ref (B + 11), .int (nI u)])) := by rw [← hu2]; rfl
  obtain rfl := Option.some.inj hE
  exact tb_rowsWith ht rfl (by decide) (by decide) (by decide) hu1 (by omega) hk
theorem tsumOf_10 {d B cnt : Nat} {kp : Value} {ρ : pm_S} {S : FS} {k : Nat} {y : Int32} {R : Int32} (hdd : 1 ≤ d) (hk : k < 6) (hy : y = nI k) (hE : qSum 10 12 6 S k = some R) : pm_met mX9_sumOf d 0 0 B [.ref (B + 10), .int y] cnt (cst B kp S ρ) (pm_Qi (fun v σ' cnt' => v = R ∧ σ' = (cst B kp S ρ) ∧ cnt' = cnt)) := by
  subst hy
  obtain ⟨u, hu, hE⟩ := fb_some hE
  obtain ⟨hu1, hu2⟩ := iN_in (by decide) hu
  have ht : cst B kp S ρ 10 = some (.inr (9, [.int (nI 12), .int (nI 6), .ref (B + 11), .int (nI u)])) := by rw [← hu2]; rfl
  obtain rfl := Option.some.inj hE
  exact tb_sumE hdd (by decide) (by decide) (by decide) hu1 hk ht rfl (pm_tw_of 12 6 (by decide) (by decide) (by decide)) (by omega)
theorem thas_12 {d B cnt : Nat} {kp : Value} {ρ : pm_S} {S : FS} {row : Int32} : pm_met mX9_has d 0 0 B [.ref (B + 12), .int row] cnt (cst B kp S ρ) (pm_Qi (fun v σ' cnt' => v = fHas 12 S row ∧ σ' = (cst B kp S ρ) ∧ cnt' = cnt)) := tb_has rfl
theorem tused_12 {d B cnt : Nat} {kp : Value} {ρ : pm_S} {S : FS} : pm_met mX9_used d 0 0 B [.ref (B + 12)] cnt (cst B kp S ρ) (pm_Qi (fun v σ' cnt' => v = S.1 12 ∧ σ' = (cst B kp S ρ) ∧ cnt' = cnt)) := tb_used rfl
theorem tisFull_12 {d B cnt : Nat} {kp : Value} {ρ : pm_S} {S : FS} : pm_met mX9_isFull d 0 0 B [.ref (B + 12)] cnt (cst B kp S ρ) (pm_Qi (fun v σ' cnt' => v = fFull 12 12 S ∧ σ' = (cst B kp S ρ) ∧ cnt' = cnt)) := tb_isFull rfl
theorem tget_12 {d B cnt : Nat} {kp : Value} {ρ : pm_S} {S : FS} {row col : Int32} : pm_met mX9_get d 0 0 B [.ref (B + 12), .int row, .int col] cnt (cst B kp S ρ) (pm_Qi (fun v σ' cnt' => v = fG 12 12 60 S row col ∧ σ' = (cst B kp S ρ) ∧ cnt' = cnt)) := tb_get rfl rfl (pm_tw_of 12 60 (by decide) (by decide) (by decide))
theorem tup_12 {B : Nat} {kp : Value} {ρ : pm_S} {S : FS} {row col x : Int32} : pm_up (cst B kp S ρ) 13 (.inl (720, pm_ts (nI 12) (nI 60) (S.2 13) row col x)) = cst B kp (fP 12 12 60 S row col x) ρ := pm_two_up (by decide) (Nat.le_of_ble_eq_true rfl)
theorem tset_12 {d B cnt : Nat} {kp : Value} {ρ : pm_S} {S : FS} {row col x : Int32} : pm_met mX9_set d 0 0 B [.ref (B + 12), .int row, .int col, .int x] cnt (cst B kp S ρ) (pm_Qv (fun σ' cnt' => σ' = (cst B kp (fP 12 12 60 S row col x) ρ) ∧ cnt' = cnt)) := by
  rw [← tup_12]; exact tb_set rfl rfl (pm_tw_of 12 60 (by decide) (by decide) (by decide)) (by decide)
theorem tadd_12 {d B cnt : Nat} {kp : Value} {ρ : pm_S} {S : FS} {row col x : Int32} (hdd : 1 ≤ d) : pm_met mX9_add d 0 0 B [.ref (B + 12), .int row, .int col, .int x] cnt (cst B kp S ρ) (pm_Qv (fun σ' cnt' => σ' = (cst B kp (fP 12 12 60 S row col (fG 12 12 60 S row col + x)) ρ) ∧ cnt' = cnt)) := by
  rw [← tup_12]; exact tb_add hdd rfl rfl (pm_tw_of 12 60 (by decide) (by decide) (by decide)) (by decide)
theorem tswap_12 {d B cnt : Nat} {kp : Value} {ρ : pm_S} {S : FS} {row col x : Int32} (hdd : 1 ≤ d) : pm_met mX9_swap d 0 0 B [.ref (B + 12), .int row, .int col, .int x] cnt (cst B kp S ρ) (pm_Qi (fun v σ' cnt' => v = fG 12 12 60 S row col ∧ σ' = (cst B kp (fP 12 12 60 S row col x) ρ) ∧ cnt' = cnt)) := by
  rw [← tup_12]; exact tb_swap hdd rfl rfl (pm_tw_of 12 60 (by decide) (by decide) (by decide)) (by decide)
theorem tclear_12 {d B cnt : Nat} {kp : Value} {ρ : pm_S} {S : FS} : pm_met mX9_clear d 0 0 B [.ref (B + 12)] cnt (cst B kp S ρ) (pm_Qv (fun σ' cnt' => σ' = (cst B kp (wI S 12 0) ρ) ∧ cnt' = cnt)) := by
  rw [← (show pm_up (cst B kp S ρ) 12 (.inr (9, [.int 12, .int 60, .ref (B + 13), .int 0])) = cst B kp (wI S 12 0) ρ from pm_two_up (by decide) (Nat.le_of_ble_eq_true rfl))]; exact tb_clear rfl
theorem tappend_12 {d B cnt : Nat} {kp : Value} {ρ : pm_S} {S : FS} {x : Int32} {R : Int32 × FS} (hdd : 1 ≤ d) (hE : fApp 12 12 60 S x = some R) : pm_met mX9_append d 0 0 B [.ref (B + 12), .int x] cnt (cst B kp S ρ) (pm_Qi (fun v σ' cnt' => v = R.1 ∧ σ' = (cst B kp R.2 ρ) ∧ cnt' = cnt)) := by
  obtain ⟨u, hu, hE⟩ := fb_some hE
  obtain ⟨hu1, hu2⟩ := iN_in (by decide) hu
  have ht : cst B kp S ρ 12 = some (.inr (9, [.int (nI 12), .int (nI 60), .ref (B + 13), .int (nI u)])) := by rw [← hu2]; rfl
  by_cases c : u = 12
  · rw [if_pos c] at hE
    obtain rfl := Option.some.inj hE
    exact tb_appF hdd ht rfl (by decide) (by decide) (by decide) (by decide) (by decide) (by decide) (by omega) hu1
  · rw [if_neg c] at hE
    obtain rfl := Option.some.inj hE
    have e2 : cst B kp (ui S.1 12 (nI (u + 1)), ua S.2 13 (pm_apf 60 u x (S.2 13))) ρ = pm_up (pm_up (cst B kp S ρ) 12 (.inr (9, [.int (nI 12), .int (nI 60), .ref (B + 13), .int (nI (u + 1))]))) 13 (.inl (720, pm_apf 60 u x (S.2 13))) := by
      rw [pm_two_up (by decide) (Nat.le_of_ble_eq_true rfl), pm_two_up (by decide) (Nat.le_of_ble_eq_true rfl)]; rfl
    show pm_met mX9_append d 0 0 B [.ref (B + 12), .int x] cnt (cst B kp S ρ) (pm_Qi (fun v σ' cnt' => v = nI u ∧ σ' = (cst B kp (ui S.1 12 (nI (u + 1)), ua S.2 13 (pm_apf 60 u x (S.2 13))) ρ) ∧ cnt' = cnt))
    rw [e2]
    exact tb_appN hdd ht rfl (by decide) (by decide) (by decide) (by decide) (by decide) (by decide) (by omega)
theorem trowsWith_12 {d B cnt : Nat} {kp : Value} {ρ : pm_S} {S : FS} {k : Nat} {x y : Int32} {R : Int32} (hk : k < 60) (hy : y = nI k) (hE : qRows 12 12 60 S k x = some R) : pm_met mX9_rowsWith d 0 0 B [.ref (B + 12), .int y, .int x] cnt (cst B kp S ρ) (pm_Qi (fun v σ' cnt' => v = R ∧ σ' = (cst B kp S ρ) ∧ cnt' = cnt)) := by
  subst hy
  obtain ⟨u, hu, hE⟩ := fb_some hE
  obtain ⟨hu1, hu2⟩ := iN_in (by decide) hu
  have ht : cst B kp S ρ 12 = some (.inr (9, [.int (nI 12), .int (nI 60), .ref (B + 13), .int (nI u)])) := by rw [← hu2]; rfl
  obtain rfl := Option.some.inj hE
  exact tb_rowsWith ht rfl (by decide) (by decide) (by decide) hu1 (by omega) hk
theorem tsumOf_12 {d B cnt : Nat} {kp : Value} {ρ : pm_S} {S : FS} {k : Nat} {y : Int32} {R : Int32} (hdd : 1 ≤ d) (hk : k < 60) (hy : y = nI k) (hE : qSum 12 12 60 S k = some R) : pm_met mX9_sumOf d 0 0 B [.ref (B + 12), .int y] cnt (cst B kp S ρ) (pm_Qi (fun v σ' cnt' => v = R ∧ σ' = (cst B kp S ρ) ∧ cnt' = cnt)) := by
  subst hy
  obtain ⟨u, hu, hE⟩ := fb_some hE
  obtain ⟨hu1, hu2⟩ := iN_in (by decide) hu
  have ht : cst B kp S ρ 12 = some (.inr (9, [.int (nI 12), .int (nI 60), .ref (B + 13), .int (nI u)])) := by rw [← hu2]; rfl
  obtain rfl := Option.some.inj hE
  exact tb_sumE hdd (by decide) (by decide) (by decide) hu1 hk ht rfl (pm_tw_of 12 60 (by decide) (by decide) (by decide)) (by omega)
theorem thas_14 {d B cnt : Nat} {kp : Value} {ρ : pm_S} {S : FS} {row : Int32} : pm_met mX9_has d 0 0 B [.ref (B + 14), .int row] cnt (cst B kp S ρ) (pm_Qi (fun v σ' cnt' => v = fHas 14 S row ∧ σ' = (cst B kp S ρ) ∧ cnt' = cnt)) := tb_has rfl
theorem tused_14 {d B cnt : Nat} {kp : Value} {ρ : pm_S} {S : FS} : pm_met mX9_used d 0 0 B [.ref (B + 14)] cnt (cst B kp S ρ) (pm_Qi (fun v σ' cnt' => v = S.1 14 ∧ σ' = (cst B kp S ρ) ∧ cnt' = cnt)) := tb_used rfl
theorem tisFull_14 {d B cnt : Nat} {kp : Value} {ρ : pm_S} {S : FS} : pm_met mX9_isFull d 0 0 B [.ref (B + 14)] cnt (cst B kp S ρ) (pm_Qi (fun v σ' cnt' => v = fFull 14 40 S ∧ σ' = (cst B kp S ρ) ∧ cnt' = cnt)) := tb_isFull rfl
theorem tget_14 {d B cnt : Nat} {kp : Value} {ρ : pm_S} {S : FS} {row col : Int32} : pm_met mX9_get d 0 0 B [.ref (B + 14), .int row, .int col] cnt (cst B kp S ρ) (pm_Qi (fun v σ' cnt' => v = fG 14 40 12 S row col ∧ σ' = (cst B kp S ρ) ∧ cnt' = cnt)) := tb_get rfl rfl (pm_tw_of 40 12 (by decide) (by decide) (by decide))
theorem tup_14 {B : Nat} {kp : Value} {ρ : pm_S} {S : FS} {row col x : Int32} : pm_up (cst B kp S ρ) 15 (.inl (480, pm_ts (nI 40) (nI 12) (S.2 15) row col x)) = cst B kp (fP 14 40 12 S row col x) ρ := pm_two_up (by decide) (Nat.le_of_ble_eq_true rfl)
theorem tset_14 {d B cnt : Nat} {kp : Value} {ρ : pm_S} {S : FS} {row col x : Int32} : pm_met mX9_set d 0 0 B [.ref (B + 14), .int row, .int col, .int x] cnt (cst B kp S ρ) (pm_Qv (fun σ' cnt' => σ' = (cst B kp (fP 14 40 12 S row col x) ρ) ∧ cnt' = cnt)) := by
  rw [← tup_14]; exact tb_set rfl rfl (pm_tw_of 40 12 (by decide) (by decide) (by decide)) (by decide)
theorem tadd_14 {d B cnt : Nat} {kp : Value} {ρ : pm_S} {S : FS} {row col x : Int32} (hdd : 1 ≤ d) : pm_met mX9_add d 0 0 B [.ref (B + 14), .int row, .int col, .int x] cnt (cst B kp S ρ) (pm_Qv (fun σ' cnt' => σ' = (cst B kp (fP 14 40 12 S row col (fG 14 40 12 S row col + x)) ρ) ∧ cnt' = cnt)) := by
  rw [← tup_14]; exact tb_add hdd rfl rfl (pm_tw_of 40 12 (by decide) (by decide) (by decide)) (by decide)
theorem tswap_14 {d B cnt : Nat} {kp : Value} {ρ : pm_S} {S : FS} {row col x : Int32} (hdd : 1 ≤ d) : pm_met mX9_swap d 0 0 B [.ref (B + 14), .int row, .int col, .int x] cnt (cst B kp S ρ) (pm_Qi (fun v σ' cnt' => v = fG 14 40 12 S row col ∧ σ' = (cst B kp (fP 14 40 12 S row col x) ρ) ∧ cnt' = cnt)) := by
  rw [← tup_14]; exact tb_swap hdd rfl rfl (pm_tw_of 40 12 (by decide) (by decide) (by decide)) (by decide)
theorem tclear_14 {d B cnt : Nat} {kp : Value} {ρ : pm_S} {S : FS} : pm_met mX9_clear d 0 0 B [.ref (B + 14)] cnt (cst B kp S ρ) (pm_Qv (fun σ' cnt' => σ' = (cst B kp (wI S 14 0) ρ) ∧ cnt' = cnt)) := by
  rw [← (show pm_up (cst B kp S ρ) 14 (.inr (9, [.int 40, .int 12, .ref (B + 15), .int 0])) = cst B kp (wI S 14 0) ρ from pm_two_up (by decide) (Nat.le_of_ble_eq_true rfl))]; exact tb_clear rfl
theorem tappend_14 {d B cnt : Nat} {kp : Value} {ρ : pm_S} {S : FS} {x : Int32} {R : Int32 × FS} (hdd : 1 ≤ d) (hE : fApp 14 40 12 S x = some R) : pm_met mX9_append d 0 0 B [.ref (B + 14), .int x] cnt (cst B kp S ρ) (pm_Qi (fun v σ' cnt' => v = R.1 ∧ σ' = (cst B kp R.2 ρ) ∧ cnt' = cnt)) := by
  obtain ⟨u, hu, hE⟩ := fb_some hE
  obtain ⟨hu1, hu2⟩ := iN_in (by decide) hu
  have ht : cst B kp S ρ 14 = some (.inr (9, [.int (nI 40), .int (nI 12), .ref (B + 15), .int (nI u)])) := by rw [← hu2]; rfl
  by_cases c : u = 40
  · rw [if_pos c] at hE
    obtain rfl := Option.some.inj hE
    exact tb_appF hdd ht rfl (by decide) (by decide) (by decide) (by decide) (by decide) (by decide) (by omega) hu1
  · rw [if_neg c] at hE
    obtain rfl := Option.some.inj hE
    have e2 : cst B kp (ui S.1 14 (nI (u + 1)), ua S.2 15 (pm_apf 12 u x (S.2 15))) ρ = pm_up (pm_up (cst B kp S ρ) 14 (.inr (9, [.int (nI 40), .int (nI 12), .ref (B + 15), .int (nI (u + 1))]))) 15 (.inl (480, pm_apf 12 u x (S.2 15))) := by
      rw [pm_two_up (by decide) (Nat.le_of_ble_eq_true rfl), pm_two_up (by decide) (Nat.le_of_ble_eq_true rfl)]; rfl
    show pm_met mX9_append d 0 0 B [.ref (B + 14), .int x] cnt (cst B kp S ρ) (pm_Qi (fun v σ' cnt' => v = nI u ∧ σ' = (cst B kp (ui S.1 14 (nI (u + 1)), ua S.2 15 (pm_apf 12 u x (S.2 15))) ρ) ∧ cnt' = cnt))
    rw [e2]
    exact tb_appN hdd ht rfl (by decide) (by decide) (by decide) (by decide) (by decide) (by decide) (by omega)
theorem trowsWith_14 {d B cnt : Nat} {kp : Value} {ρ : pm_S} {S : FS} {k : Nat} {x y : Int32} {R : Int32} (hk : k < 12) (hy : y = nI k) (hE : qRows 14 40 12 S k x = some R) : pm_met mX9_rowsWith d 0 0 B [.ref (B + 14), .int y, .int x] cnt (cst B kp S ρ) (pm_Qi (fun v σ' cnt' => v = R ∧ σ' = (cst B kp S ρ) ∧ cnt' = cnt)) := by
  subst hy
  obtain ⟨u, hu, hE⟩ := fb_some hE
  obtain ⟨hu1, hu2⟩ := iN_in (by decide) hu
  have ht : cst B kp S ρ 14 = some (.inr (9, [.int (nI 40), .int (nI 12), .ref (B + 15), .int (nI u)])) := by rw [← hu2]; rfl
  obtain rfl := Option.some.inj hE
  exact tb_rowsWith ht rfl (by decide) (by decide) (by decide) hu1 (by omega) hk
theorem tsumOf_14 {d B cnt : Nat} {kp : Value} {ρ : pm_S} {S : FS} {k : Nat} {y : Int32} {R : Int32} (hdd : 1 ≤ d) (hk : k < 12) (hy : y = nI k) (hE : qSum 14 40 12 S k = some R) : pm_met mX9_sumOf d 0 0 B [.ref (B + 14), .int y] cnt (cst B kp S ρ) (pm_Qi (fun v σ' cnt' => v = R ∧ σ' = (cst B kp S ρ) ∧ cnt' = cnt)) := by
  subst hy
  obtain ⟨u, hu, hE⟩ := fb_some hE
  obtain ⟨hu1, hu2⟩ := iN_in (by decide) hu
  have ht : cst B kp S ρ 14 = some (.inr (9, [.int (nI 40), .int (nI 12), .ref (B + 15), .int (nI u)])) := by rw [← hu2]; rfl
  obtain rfl := Option.some.inj hE
  exact tb_sumE hdd (by decide) (by decide) (by decide) hu1 hk ht rfl (pm_tw_of 40 12 (by decide) (by decide) (by decide)) (by omega)
theorem thas_16 {d B cnt : Nat} {kp : Value} {ρ : pm_S} {S : FS} {row : Int32} : pm_met mX9_has d 0 0 B [.ref (B + 16), .int row] cnt (cst B kp S ρ) (pm_Qi (fun v σ' cnt' => v = fHas 16 S row ∧ σ' = (cst B kp S ρ) ∧ cnt' = cnt)) := tb_has rfl
theorem tused_16 {d B cnt : Nat} {kp : Value} {ρ : pm_S} {S : FS} : pm_met mX9_used d 0 0 B [.ref (B + 16)] cnt (cst B kp S ρ) (pm_Qi (fun v σ' cnt' => v = S.1 16 ∧ σ' = (cst B kp S ρ) ∧ cnt' = cnt)) := tb_used rfl
theorem tisFull_16 {d B cnt : Nat} {kp : Value} {ρ : pm_S} {S : FS} : pm_met mX9_isFull d 0 0 B [.ref (B + 16)] cnt (cst B kp S ρ) (pm_Qi (fun v σ' cnt' => v = fFull 16 6 S ∧ σ' = (cst B kp S ρ) ∧ cnt' = cnt)) := tb_isFull rfl
theorem tget_16 {d B cnt : Nat} {kp : Value} {ρ : pm_S} {S : FS} {row col : Int32} : pm_met mX9_get d 0 0 B [.ref (B + 16), .int row, .int col] cnt (cst B kp S ρ) (pm_Qi (fun v σ' cnt' => v = fG 16 6 5 S row col ∧ σ' = (cst B kp S ρ) ∧ cnt' = cnt)) := tb_get rfl rfl (pm_tw_of 6 5 (by decide) (by decide) (by decide))
theorem tup_16 {B : Nat} {kp : Value} {ρ : pm_S} {S : FS} {row col x : Int32} : pm_up (cst B kp S ρ) 17 (.inl (30, pm_ts (nI 6) (nI 5) (S.2 17) row col x)) = cst B kp (fP 16 6 5 S row col x) ρ := pm_two_up (by decide) (Nat.le_of_ble_eq_true rfl)
theorem tset_16 {d B cnt : Nat} {kp : Value} {ρ : pm_S} {S : FS} {row col x : Int32} : pm_met mX9_set d 0 0 B [.ref (B + 16), .int row, .int col, .int x] cnt (cst B kp S ρ) (pm_Qv (fun σ' cnt' => σ' = (cst B kp (fP 16 6 5 S row col x) ρ) ∧ cnt' = cnt)) := by
  rw [← tup_16]; exact tb_set rfl rfl (pm_tw_of 6 5 (by decide) (by decide) (by decide)) (by decide)
theorem tadd_16 {d B cnt : Nat} {kp : Value} {ρ : pm_S} {S : FS} {row col x : Int32} (hdd : 1 ≤ d) : pm_met mX9_add d 0 0 B [.ref (B + 16), .int row, .int col, .int x] cnt (cst B kp S ρ) (pm_Qv (fun σ' cnt' => σ' = (cst B kp (fP 16 6 5 S row col (fG 16 6 5 S row col + x)) ρ) ∧ cnt' = cnt)) := by
  rw [← tup_16]; exact tb_add hdd rfl rfl (pm_tw_of 6 5 (by decide) (by decide) (by decide)) (by decide)
theorem tswap_16 {d B cnt : Nat} {kp : Value} {ρ : pm_S} {S : FS} {row col x : Int32} (hdd : 1 ≤ d) : pm_met mX9_swap d 0 0 B [.ref (B + 16), .int row, .int col, .int x] cnt (cst B kp S ρ) (pm_Qi (fun v σ' cnt' => v = fG 16 6 5 S row col ∧ σ' = (cst B kp (fP 16 6 5 S row col x) ρ) ∧ cnt' = cnt)) := by
  rw [← tup_16]; exact tb_swap hdd rfl rfl (pm_tw_of 6 5 (by decide) (by decide) (by decide)) (by decide)
theorem tclear_16 {d B cnt : Nat} {kp : Value} {ρ : pm_S} {S : FS} : pm_met mX9_clear d 0 0 B [.ref (B + 16)] cnt (cst B kp S ρ) (pm_Qv (fun σ' cnt' => σ' = (cst B kp (wI S 16 0) ρ) ∧ cnt' = cnt)) := by
  rw [← (show pm_up (cst B kp S ρ) 16 (.inr (9, [.int 6, .int 5, .ref (B + 17), .int 0])) = cst B kp (wI S 16 0) ρ from pm_two_up (by decide) (Nat.le_of_ble_eq_true rfl))]; exact tb_clear rfl
theorem tappend_16 {d B cnt : Nat} {kp : Value} {ρ : pm_S} {S : FS} {x : Int32} {R : Int32 × FS} (hdd : 1 ≤ d) (hE : fApp 16 6 5 S x = some R) : pm_met mX9_append d 0 0 B [.ref (B + 16), .int x] cnt (cst B kp S ρ) (pm_Qi (fun v σ' cnt' => v = R.1 ∧ σ' = (cst B kp R.2 ρ) ∧ cnt' = cnt)) := by
  obtain ⟨u, hu, hE⟩ := fb_some hE
  obtain ⟨hu1, hu2⟩ := iN_in (by decide) hu
  have ht : cst B kp S ρ 16 = some (.inr (9, [.int (nI 6), .int (nI 5), .ref (B + 17), .int (nI u)])) := by rw [← hu2]; rfl
  by_cases c : u = 6
  · rw [if_pos c] at hE
    obtain rfl := Option.some.inj hE
    exact tb_appF hdd ht rfl (by decide) (by decide) (by decide) (by decide) (by decide) (by decide) (by omega) hu1
  · rw [if_neg c] at hE
    obtain rfl := Option.some.inj hE
    have e2 : cst B kp (ui S.1 16 (nI (u + 1)), ua S.2 17 (pm_apf 5 u x (S.2 17))) ρ = pm_up (pm_up (cst B kp S ρ) 16 (.inr (9, [.int (nI 6), .int (nI 5), .ref (B + 17), .int (nI (u + 1))]))) 17 (.inl (30, pm_apf 5 u x (S.2 17))) := by
      rw [pm_two_up (by decide) (Nat.le_of_ble_eq_true rfl), pm_two_up (by decide) (Nat.le_of_ble_eq_true rfl)]; rfl
    show pm_met mX9_append d 0 0 B [.ref (B + 16), .int x] cnt (cst B kp S ρ) (pm_Qi (fun v σ' cnt' => v = nI u ∧ σ' = (cst B kp (ui S.1 16 (nI (u + 1)), ua S.2 17 (pm_apf 5 u x (S.2 17))) ρ) ∧ cnt' = cnt))
    rw [e2]
    exact tb_appN hdd ht rfl (by decide) (by decide) (by decide) (by decide) (by decide) (by decide) (by omega)
theorem trowsWith_16 {d B cnt : Nat} {kp : Value} {ρ : pm_S} {S : FS} {k : Nat} {x y : Int32} {R : Int32} (hk : k < 5) (hy : y = nI k) (hE : qRows 16 6 5 S k x = some R) : pm_met mX9_rowsWith d 0 0 B [.ref (B + 16), .int y, .int x] cnt (cst B kp S ρ) (pm_Qi (fun v σ' cnt' => v = R ∧ σ' = (cst B kp S ρ) ∧ cnt' = cnt)) := by
  subst hy
  obtain ⟨u, hu, hE⟩ := fb_some hE
  obtain ⟨hu1, hu2⟩ := iN_in (by decide) hu
  have ht : cst B kp S ρ 16 = some (.inr (9, [.int (nI 6), .int (nI 5), .ref (B + 17), .int (nI u)])) := by rw [← hu2]; rfl
  obtain rfl := Option.some.inj hE
  exact tb_rowsWith ht rfl (by decide) (by decide) (by decide) hu1 (by omega) hk
theorem tsumOf_16 {d B cnt : Nat} {kp : Value} {ρ : pm_S} {S : FS} {k : Nat} {y : Int32} {R : Int32} (hdd : 1 ≤ d) (hk : k < 5) (hy : y = nI k) (hE : qSum 16 6 5 S k = some R) : pm_met mX9_sumOf d 0 0 B [.ref (B + 16), .int y] cnt (cst B kp S ρ) (pm_Qi (fun v σ' cnt' => v = R ∧ σ' = (cst B kp S ρ) ∧ cnt' = cnt)) := by
  subst hy
  obtain ⟨u, hu, hE⟩ := fb_some hE
  obtain ⟨hu1, hu2⟩ := iN_in (by decide) hu
  have ht : cst B kp S ρ 16 = some (.inr (9, [.int (nI 6), .int (nI 5), .ref (B + 17), .int (nI u)])) := by rw [← hu2]; rfl
  obtain rfl := Option.some.inj hE
  exact tb_sumE hdd (by decide) (by decide) (by decide) hu1 hk ht rfl (pm_tw_of 6 5 (by decide) (by decide) (by decide)) (by omega)
theorem thas_18 {d B cnt : Nat} {kp : Value} {ρ : pm_S} {S : FS} {row : Int32} : pm_met mX9_has d 0 0 B [.ref (B + 18), .int row] cnt (cst B kp S ρ) (pm_Qi (fun v σ' cnt' => v = fHas 18 S row ∧ σ' = (cst B kp S ρ) ∧ cnt' = cnt)) := tb_has rfl
theorem tused_18 {d B cnt : Nat} {kp : Value} {ρ : pm_S} {S : FS} : pm_met mX9_used d 0 0 B [.ref (B + 18)] cnt (cst B kp S ρ) (pm_Qi (fun v σ' cnt' => v = S.1 18 ∧ σ' = (cst B kp S ρ) ∧ cnt' = cnt)) := tb_used rfl
theorem tisFull_18 {d B cnt : Nat} {kp : Value} {ρ : pm_S} {S : FS} : pm_met mX9_isFull d 0 0 B [.ref (B + 18)] cnt (cst B kp S ρ) (pm_Qi (fun v σ' cnt' => v = fFull 18 30 S ∧ σ' = (cst B kp S ρ) ∧ cnt' = cnt)) := tb_isFull rfl
theorem tget_18 {d B cnt : Nat} {kp : Value} {ρ : pm_S} {S : FS} {row col : Int32} : pm_met mX9_get d 0 0 B [.ref (B + 18), .int row, .int col] cnt (cst B kp S ρ) (pm_Qi (fun v σ' cnt' => v = fG 18 30 5 S row col ∧ σ' = (cst B kp S ρ) ∧ cnt' = cnt)) := tb_get rfl rfl (pm_tw_of 30 5 (by decide) (by decide) (by decide))
theorem tup_18 {B : Nat} {kp : Value} {ρ : pm_S} {S : FS} {row col x : Int32} : pm_up (cst B kp S ρ) 19 (.inl (150, pm_ts (nI 30) (nI 5) (S.2 19) row col x)) = cst B kp (fP 18 30 5 S row col x) ρ := pm_two_up (by decide) (Nat.le_of_ble_eq_true rfl)
theorem tset_18 {d B cnt : Nat} {kp : Value} {ρ : pm_S} {S : FS} {row col x : Int32} : pm_met mX9_set d 0 0 B [.ref (B + 18), .int row, .int col, .int x] cnt (cst B kp S ρ) (pm_Qv (fun σ' cnt' => σ' = (cst B kp (fP 18 30 5 S row col x) ρ) ∧ cnt' = cnt)) := by
  rw [← tup_18]; exact tb_set rfl rfl (pm_tw_of 30 5 (by decide) (by decide) (by decide)) (by decide)
theorem tadd_18 {d B cnt : Nat} {kp : Value} {ρ : pm_S} {S : FS} {row col x : Int32} (hdd : 1 ≤ d) : pm_met mX9_add d 0 0 B [.ref (B + 18), .int row, .int col, .int x] cnt (cst B kp S ρ) (pm_Qv (fun σ' cnt' => σ' = (cst B kp (fP 18 30 5 S row col (fG 18 30 5 S row col + x)) ρ) ∧ cnt' = cnt)) := by
  rw [← tup_18]; exact tb_add hdd rfl rfl (pm_tw_of 30 5 (by decide) (by decide) (by decide)) (by decide)
theorem tswap_18 {d B cnt : Nat} {kp : Value} {ρ : pm_S} {S : FS} {row col x : Int32} (hdd : 1 ≤ d) : pm_met mX9_swap d 0 0 B [.ref (B + 18), .int row, .int col, .int x] cnt (cst B kp S ρ) (pm_Qi (fun v σ' cnt' => v = fG 18 30 5 S row col ∧ σ' = (cst B kp (fP 18 30 5 S row col x) ρ) ∧ cnt' = cnt)) := by
  rw [← tup_18]; exact tb_swap hdd rfl rfl (pm_tw_of 30 5 (by decide) (by decide) (by decide)) (by decide)
theorem tclear_18 {d B cnt : Nat} {kp : Value} {ρ : pm_S} {S : FS} : pm_met mX9_clear d 0 0 B [.ref (B + 18)] cnt (cst B kp S ρ) (pm_Qv (fun σ' cnt' => σ' = (cst B kp (wI S 18 0) ρ) ∧ cnt' = cnt)) := by
  rw [← (show pm_up (cst B kp S ρ) 18 (.inr (9, [.int 30, .int 5, .ref (B + 19), .int 0])) = cst B kp (wI S 18 0) ρ from pm_two_up (by decide) (Nat.le_of_ble_eq_true rfl))]; exact tb_clear rfl
theorem tappend_18 {d B cnt : Nat} {kp : Value} {ρ : pm_S} {S : FS} {x : Int32} {R : Int32 × FS} (hdd : 1 ≤ d) (hE : fApp 18 30 5 S x = some R) : pm_met mX9_append d 0 0 B [.ref (B + 18), .int x] cnt (cst B kp S ρ) (pm_Qi (fun v σ' cnt' => v = R.1 ∧ σ' = (cst B kp R.2 ρ) ∧ cnt' = cnt)) := by
  obtain ⟨u, hu, hE⟩ := fb_some hE
  obtain ⟨hu1, hu2⟩ := iN_in (by decide) hu
  have ht : cst B kp S ρ 18 = some (.inr (9, [.int (nI 30), .int (nI 5), .ref (B + 19), .int (nI u)])) := by rw [← hu2]; rfl
  by_cases c : u = 30
  · rw [if_pos c] at hE
    obtain rfl := Option.some.inj hE
    exact tb_appF hdd ht rfl (by decide) (by decide) (by decide) (by decide) (by decide) (by decide) (by omega) hu1
  · rw [if_neg c] at hE
    obtain rfl := Option.some.inj hE
    have e2 : cst B kp (ui S.1 18 (nI (u + 1)), ua S.2 19 (pm_apf 5 u x (S.2 19))) ρ = pm_up (pm_up (cst B kp S ρ) 18 (.inr (9, [.int (nI 30), .int (nI 5), .ref (B + 19), .int (nI (u + 1))]))) 19 (.inl (150, pm_apf 5 u x (S.2 19))) := by
      rw [pm_two_up (by decide) (Nat.le_of_ble_eq_true rfl), pm_two_up (by decide) (Nat.le_of_ble_eq_true rfl)]; rfl
    show pm_met mX9_append d 0 0 B [.ref (B + 18), .int x] cnt (cst B kp S ρ) (pm_Qi (fun v σ' cnt' => v = nI u ∧ σ' = (cst B kp (ui S.1 18 (nI (u + 1)), ua S.2 19 (pm_apf 5 u x (S.2 19))) ρ) ∧ cnt' = cnt))
    rw [e2]
    exact tb_appN hdd ht rfl (by decide) (by decide) (by decide) (by decide) (by decide) (by decide) (by omega)
theorem trowsWith_18 {d B cnt : Nat} {kp : Value} {ρ : pm_S} {S : FS} {k : Nat} {x y : Int32} {R : Int32} (hk : k < 5) (hy : y = nI k) (hE : qRows 18 30 5 S k x = some R) : pm_met mX9_rowsWith d 0 0 B [.ref (B + 18), .int y, .int x] cnt (cst B kp S ρ) (pm_Qi (fun v σ' cnt' => v = R ∧ σ' = (cst B kp S ρ) ∧ cnt' = cnt)) := by
  subst hy
  obtain ⟨u, hu, hE⟩ := fb_some hE
  obtain ⟨hu1, hu2⟩ := iN_in (by decide) hu
  have ht : cst B kp S ρ 18 = some (.inr (9, [.int (nI 30), .int (nI 5), .ref (B + 19), .int (nI u)])) := by rw [← hu2]; rfl
  obtain rfl := Option.some.inj hE
  exact tb_rowsWith ht rfl (by decide) (by decide) (by decide) hu1 (by omega) hk
theorem tsumOf_18 {d B cnt : Nat} {kp : Value} {ρ : pm_S} {S : FS} {k : Nat} {y : Int32} {R : Int32} (hdd : 1 ≤ d) (hk : k < 5) (hy : y = nI k) (hE : qSum 18 30 5 S k = some R) : pm_met mX9_sumOf d 0 0 B [.ref (B + 18), .int y] cnt (cst B kp S ρ) (pm_Qi (fun v σ' cnt' => v = R ∧ σ' = (cst B kp S ρ) ∧ cnt' = cnt)) := by
  subst hy
  obtain ⟨u, hu, hE⟩ := fb_some hE
  obtain ⟨hu1, hu2⟩ := iN_in (by decide) hu
  have ht : cst B kp S ρ 18 = some (.inr (9, [.int (nI 30), .int (nI 5), .ref (B + 19), .int (nI u)])) := by rw [← hu2]; rfl
  obtain rfl := Option.some.inj hE
  exact tb_sumE hdd (by decide) (by decide) (by decide) hu1 hk ht rfl (pm_tw_of 30 5 (by decide) (by decide) (by decide)) (by omega)
theorem thas_20 {d B cnt : Nat} {kp : Value} {ρ : pm_S} {S : FS} {row : Int32} : pm_met mX9_has d 0 0 B [.ref (B + 20), .int row] cnt (cst B kp S ρ) (pm_Qi (fun v σ' cnt' => v = fHas 20 S row ∧ σ' = (cst B kp S ρ) ∧ cnt' = cnt)) := tb_has rfl
theorem tused_20 {d B cnt : Nat} {kp : Value} {ρ : pm_S} {S : FS} : pm_met mX9_used d 0 0 B [.ref (B + 20)] cnt (cst B kp S ρ) (pm_Qi (fun v σ' cnt' => v = S.1 20 ∧ σ' = (cst B kp S ρ) ∧ cnt' = cnt)) := tb_used rfl
theorem tisFull_20 {d B cnt : Nat} {kp : Value} {ρ : pm_S} {S : FS} : pm_met mX9_isFull d 0 0 B [.ref (B + 20)] cnt (cst B kp S ρ) (pm_Qi (fun v σ' cnt' => v = fFull 20 5 S ∧ σ' = (cst B kp S ρ) ∧ cnt' = cnt)) := tb_isFull rfl
theorem tget_20 {d B cnt : Nat} {kp : Value} {ρ : pm_S} {S : FS} {row col : Int32} : pm_met mX9_get d 0 0 B [.ref (B + 20), .int row, .int col] cnt (cst B kp S ρ) (pm_Qi (fun v σ' cnt' => v = fG 20 5 1 S row col ∧ σ' = (cst B kp S ρ) ∧ cnt' = cnt)) := tb_get rfl rfl (pm_tw_of 5 1 (by decide) (by decide) (by decide))
theorem tup_20 {B : Nat} {kp : Value} {ρ : pm_S} {S : FS} {row col x : Int32} : pm_up (cst B kp S ρ) 21 (.inl (5, pm_ts (nI 5) (nI 1) (S.2 21) row col x)) = cst B kp (fP 20 5 1 S row col x) ρ := pm_two_up (by decide) (Nat.le_of_ble_eq_true rfl)
theorem tset_20 {d B cnt : Nat} {kp : Value} {ρ : pm_S} {S : FS} {row col x : Int32} : pm_met mX9_set d 0 0 B [.ref (B + 20), .int row, .int col, .int x] cnt (cst B kp S ρ) (pm_Qv (fun σ' cnt' => σ' = (cst B kp (fP 20 5 1 S row col x) ρ) ∧ cnt' = cnt)) := by
  rw [← tup_20]; exact tb_set rfl rfl (pm_tw_of 5 1 (by decide) (by decide) (by decide)) (by decide)
theorem tadd_20 {d B cnt : Nat} {kp : Value} {ρ : pm_S} {S : FS} {row col x : Int32} (hdd : 1 ≤ d) : pm_met mX9_add d 0 0 B [.ref (B + 20), .int row, .int col, .int x] cnt (cst B kp S ρ) (pm_Qv (fun σ' cnt' => σ' = (cst B kp (fP 20 5 1 S row col (fG 20 5 1 S row col + x)) ρ) ∧ cnt' = cnt)) := by
  rw [← tup_20]; exact tb_add hdd rfl rfl (pm_tw_of 5 1 (by decide) (by decide) (by decide)) (by decide)
theorem tswap_20 {d B cnt : Nat} {kp : Value} {ρ : pm_S} {S : FS} {row col x : Int32} (hdd : 1 ≤ d) : pm_met mX9_swap d 0 0 B [.ref (B + 20), .int row, .int col, .int x] cnt (cst B kp S ρ) (pm_Qi (fun v σ' cnt' => v = fG 20 5 1 S row col ∧ σ' = (cst B kp (fP 20 5 1 S row col x) ρ) ∧ cnt' = cnt)) := by
  rw [← tup_20]; exact tb_swap hdd rfl rfl (pm_tw_of 5 1 (by decide) (by decide) (by decide)) (by decide)
theorem tclear_20 {d B cnt : Nat} {kp : Value} {ρ : pm_S} {S : FS} : pm_met mX9_clear d 0 0 B [.ref (B + 20)] cnt (cst B kp S ρ) (pm_Qv (fun σ' cnt' => σ' = (cst B kp (wI S 20 0) ρ) ∧ cnt' = cnt)) := by
  rw [← (show pm_up (cst B kp S ρ) 20 (.inr (9, [.int 5, .int 1, .ref (B + 21), .int 0])) = cst B kp (wI S 20 0) ρ from pm_two_up (by decide) (Nat.le_of_ble_eq_true rfl))]; exact tb_clear rfl
theorem tappend_20 {d B cnt : Nat} {kp : Value} {ρ : pm_S} {S : FS} {x : Int32} {R : Int32 × FS} (hdd : 1 ≤ d) (hE : fApp 20 5 1 S x = some R) : pm_met mX9_append d 0 0 B [.ref (B + 20), .int x] cnt (cst B kp S ρ) (pm_Qi (fun v σ' cnt' => v = R.1 ∧ σ' = (cst B kp R.2 ρ) ∧ cnt' = cnt)) := by
  obtain ⟨u, hu, hE⟩ := fb_some hE
  obtain ⟨hu1, hu2⟩ := iN_in (by decide) hu
  have ht : cst B kp S ρ 20 = some (.inr (9, [.int (nI 5), .int (nI 1), .ref (B + 21), .int (nI u)])) := by rw [← hu2]; rfl
  by_cases c : u = 5
  · rw [if_pos c] at hE
    obtain rfl := Option.some.inj hE
    exact tb_appF hdd ht rfl (by decide) (by decide) (by decide) (by decide) (by decide) (by decide) (by omega) hu1
  · rw [if_neg c] at hE
    obtain rfl := Option.some.inj hE
    have e2 : cst B kp (ui S.1 20 (nI (u + 1)), ua S.2 21 (pm_apf 1 u x (S.2 21))) ρ = pm_up (pm_up (cst B kp S ρ) 20 (.inr (9, [.int (nI 5), .int (nI 1), .ref (B + 21), .int (nI (u + 1))]))) 21 (.inl (5, pm_apf 1 u x (S.2 21))) := by
      rw [pm_two_up (by decide) (Nat.le_of_ble_eq_true rfl), pm_two_up (by decide) (Nat.le_of_ble_eq_true rfl)]; rfl
    show pm_met mX9_append d 0 0 B [.ref (B + 20), .int x] cnt (cst B kp S ρ) (pm_Qi (fun v σ' cnt' => v = nI u ∧ σ' = (cst B kp (ui S.1 20 (nI (u + 1)), ua S.2 21 (pm_apf 1 u x (S.2 21))) ρ) ∧ cnt' = cnt))
    rw [e2]
    exact tb_appN hdd ht rfl (by decide) (by decide) (by decide) (by decide) (by decide) (by decide) (by omega)
theorem trowsWith_20 {d B cnt : Nat} {kp : Value} {ρ : pm_S} {S : FS} {k : Nat} {x y : Int32} {R : Int32} (hk : k < 1) (hy : y = nI k) (hE : qRows 20 5 1 S k x = some R) : pm_met mX9_rowsWith d 0 0 B [.ref (B + 20), .int y, .int x] cnt (cst B kp S ρ) (pm_Qi (fun v σ' cnt' => v = R ∧ σ' = (cst B kp S ρ) ∧ cnt' = cnt)) := by
  subst hy
  obtain ⟨u, hu, hE⟩ := fb_some hE
  obtain ⟨hu1, hu2⟩ := iN_in (by decide) hu
  have ht : cst B kp S ρ 20 = some (.inr (9, [.int (nI 5), .int (nI 1), .ref (B + 21), .int (nI u)])) := by rw [← hu2]; rfl
  obtain rfl := Option.some.inj hE
  exact tb_rowsWith ht rfl (by decide) (by decide) (by decide) hu1 (by omega) hk
theorem tsumOf_20 {d B cnt : Nat} {kp : Value} {ρ : pm_S} {S : FS} {k : Nat} {y : Int32} {R : Int32} (hdd : 1 ≤ d) (hk : k < 1) (hy : y = nI k) (hE : qSum 20 5 1 S k = some R) : pm_met mX9_sumOf d 0 0 B [.ref (B + 20), .int y] cnt (cst B kp S ρ) (pm_Qi (fun v σ' cnt' => v = R ∧ σ' = (cst B kp S ρ) ∧ cnt' = cnt)) := by
  subst hy
  obtain ⟨u, hu, hE⟩ := fb_some hE
  obtain ⟨hu1, hu2⟩ := iN_in (by decide) hu
  have ht : cst B kp S ρ 20 = some (.inr (9, [.int (nI 5), .int (nI 1), .ref (B + 21), .int (nI u)])) := by rw [← hu2]; rfl
  obtain rfl := Option.some.inj hE
  exact tb_sumE hdd (by decide) (by decide) (by decide) hu1 hk ht rfl (pm_tw_of 5 1 (by decide) (by decide) (by decide)) (by omega)
theorem thas_22 {d B cnt : Nat} {kp : Value} {ρ : pm_S} {S : FS} {row : Int32} : pm_met mX9_has d 0 0 B [.ref (B + 22), .int row] cnt (cst B kp S ρ) (pm_Qi (fun v σ' cnt' => v = fHas 22 S row ∧ σ' = (cst B kp S ρ) ∧ cnt' = cnt)) := tb_has rfl
theorem tused_22 {d B cnt : Nat} {kp : Value} {ρ : pm_S} {S : FS} : pm_met mX9_used d 0 0 B [.ref (B + 22)] cnt (cst B kp S ρ) (pm_Qi (fun v σ' cnt' => v = S.1 22 ∧ σ' = (cst B kp S ρ) ∧ cnt' = cnt)) := tb_used rfl
theorem tisFull_22 {d B cnt : Nat} {kp : Value} {ρ : pm_S} {S : FS} : pm_met mX9_isFull d 0 0 B [.ref (B + 22)] cnt (cst B kp S ρ) (pm_Qi (fun v σ' cnt' => v = fFull 22 20 S ∧ σ' = (cst B kp S ρ) ∧ cnt' = cnt)) := tb_isFull rfl
theorem tget_22 {d B cnt : Nat} {kp : Value} {ρ : pm_S} {S : FS} {row col : Int32} : pm_met mX9_get d 0 0 B [.ref (B + 22), .int row, .int col] cnt (cst B kp S ρ) (pm_Qi (fun v σ' cnt' => v = fG 22 20 1 S row col ∧ σ' = (cst B kp S ρ) ∧ cnt' = cnt)) := tb_get rfl rfl (pm_tw_of 20 1 (by decide) (by decide) (by decide))
theorem tup_22 {B : Nat} {kp : Value} {ρ : pm_S} {S : FS} {row col x : Int32} : pm_up (cst B kp S ρ) 23 (.inl (20, pm_ts (nI 20) (nI 1) (S.2 23) row col x)) = cst B kp (fP 22 20 1 S row col x) ρ := pm_two_up (by decide) (Nat.le_of_ble_eq_true rfl)
theorem tset_22 {d B cnt : Nat} {kp : Value} {ρ : pm_S} {S : FS} {row col x : Int32} : pm_met mX9_set d 0 0 B [.ref (B + 22), .int row, .int col, .int x] cnt (cst B kp S ρ) (pm_Qv (fun σ' cnt' => σ' = (cst B kp (fP 22 20 1 S row col x) ρ) ∧ cnt' = cnt)) := by
  rw [← tup_22]; exact tb_set rfl rfl (pm_tw_of 20 1 (by decide) (by decide) (by decide)) (by decide)
theorem tadd_22 {d B cnt : Nat} {kp : Value} {ρ : pm_S} {S : FS} {row col x : Int32} (hdd : 1 ≤ d) : pm_met mX9_add d 0 0 B [.ref (B + 22), .int row, .int col, .int x] cnt (cst B kp S ρ) (pm_Qv (fun σ' cnt' => σ' = (cst B kp (fP 22 20 1 S row col (fG 22 20 1 S row col + x)) ρ) ∧ cnt' = cnt)) := by
  rw [← tup_22]; exact tb_add hdd rfl rfl (pm_tw_of 20 1 (by decide) (by decide) (by decide)) (by decide)
theorem tswap_22 {d B cnt : Nat} {kp : Value} {ρ : pm_S} {S : FS} {row col x : Int32} (hdd : 1 ≤ d) : pm_met mX9_swap d 0 0 B [.ref (B + 22), .int row, .int col, .int x] cnt (cst B kp S ρ) (pm_Qi (fun v σ' cnt' => v = fG 22 20 1 S row col ∧ σ' = (cst B kp (fP 22 20 1 S row col x) ρ) ∧ cnt' = cnt)) := by
  rw [← tup_22]; exact tb_swap hdd rfl rfl (pm_tw_of 20 1 (by decide) (by decide) (by decide)) (by decide)
theorem tclear_22 {d B cnt : Nat} {kp : Value} {ρ : pm_S} {S : FS} : pm_met mX9_clear d 0 0 B [.ref (B + 22)] cnt (cst B kp S ρ) (pm_Qv (fun σ' cnt' => σ' = (cst B kp (wI S 22 0) ρ) ∧ cnt' = cnt)) := by
  rw [← (show pm_up (cst B kp S ρ) 22 (.inr (9, [.int 20, .int 1, .ref (B + 23), .int 0])) = cst B kp (wI S 22 0) ρ from pm_two_up (by decide) (Nat.le_of_ble_eq_true rfl))]; exact tb_clear rfl
theorem tappend_22 {d B cnt : Nat} {kp : Value} {ρ : pm_S} {S : FS} {x : Int32} {R : Int32 × FS} (hdd : 1 ≤ d) (hE : fApp 22 20 1 S x = some R) : pm_met mX9_append d 0 0 B [.ref (B + 22), .int x] cnt (cst B kp S ρ) (pm_Qi (fun v σ' cnt' => v = R.1 ∧ σ' = (cst B kp R.2 ρ) ∧ cnt' = cnt)) := by
  obtain ⟨u, hu, hE⟩ := fb_some hE
  obtain ⟨hu1, hu2⟩ := iN_in (by decide) hu
  have ht : cst B kp S ρ 22 = some (.inr (9, [.int (nI 20), .int (nI 1), .ref (B + 23), .int (nI u)])) := by rw [← hu2]; rfl
  by_cases c : u = 20
  · rw [if_pos c] at hE
    obtain rfl := Option.some.inj hE
    exact tb_appF hdd ht rfl (by decide) (by decide) (by decide) (by decide) (by decide) (by decide) (by omega) hu1
  · rw [if_neg c] at hE
    obtain rfl := Option.some.inj hE
    have e2 : cst B kp (ui S.1 22 (nI (u + 1)), ua S.2 23 (pm_apf 1 u x (S.2 23))) ρ = pm_up (pm_up (cst B kp S ρ) 22 (.inr (9, [.int (nI 20), .int (nI 1), .ref (B + 23), .int (nI (u + 1))]))) 23 (.inl (20, pm_apf 1 u x (S.2 23))) := by
      rw [pm_two_up (by decide) (Nat.le_of_ble_eq_true rfl), pm_two_up (by decide) (Nat.le_of_ble_eq_true rfl)]; rfl
    show pm_met mX9_append d 0 0 B [.ref (B + 22), .int x] cnt (cst B kp S ρ) (pm_Qi (fun v σ' cnt' => v = nI u ∧ σ' = (cst B kp (ui S.1 22 (nI (u + 1)), ua S.2 23 (pm_apf 1 u x (S.2 23))) ρ) ∧ cnt' = cnt))
    rw [e2]
    exact tb_appN hdd ht rfl (by decide) (by decide) (by decide) (by decide) (by decide) (by decide) (by omega)
theorem trowsWith_22 {d B cnt : Nat} {kp : Value} {ρ : pm_S} {S : FS} {k : Nat} {x y : Int32} {R : Int32} (hk : k < 1) (hy : y = nI k) (hE : qRows 22 20 1 S k x = some R) : pm_met mX9_rowsWith d 0 0 B [.ref (B + 22), .int y, .int x] cnt (cst B kp S ρ) (pm_Qi (fun v σ' cnt' => v = R ∧ σ' = (cst B kp S ρ) ∧ cnt' = cnt)) := by
  subst hy
  obtain ⟨u, hu, hE⟩ := fb_some hE
  obtain ⟨hu1, hu2⟩ := iN_in (by decide) hu
  have ht : cst B kp S ρ 22 = some (.inr (9, [.int (nI 20), .int (nI 1), .ref (B + 23), .int (nI u)])) := by rw [← hu2]; rfl
  obtain rfl := Option.some.inj hE
  exact tb_rowsWith ht rfl (by decide) (by decide) (by decide) hu1 (by omega) hk
theorem tsumOf_22 {d B cnt : Nat} {kp : Value} {ρ : pm_S} {S : FS} {k : Nat} {y : Int32} {R : Int32} (hdd : 1 ≤ d) (hk : k < 1) (hy : y = nI k) (hE : qSum 22 20 1 S k = some R) : pm_met mX9_sumOf d 0 0 B [.ref (B + 22), .int y] cnt (cst B kp S ρ) (pm_Qi (fun v σ' cnt' => v = R ∧ σ' = (cst B kp S ρ) ∧ cnt' = cnt)) := by
  subst hy
  obtain ⟨u, hu, hE⟩ := fb_some hE
  obtain ⟨hu1, hu2⟩ := iN_in (by decide) hu
  have ht : cst B kp S ρ 22 = some (.inr (9, [.int (nI 20), .int (nI 1), .ref (B + 23), .int (nI u)])) := by rw [← hu2]; rfl
  obtain rfl := Option.some.inj hE
  exact tb_sumE hdd (by decide) (by decide) (by decide) hu1 hk ht rfl (pm_tw_of 20 1 (by decide) (by decide) (by decide)) (by omega)
theorem thas_24 {d B cnt : Nat} {kp : Value} {ρ : pm_S} {S : FS} {row : Int32} : pm_met mX9_has d 0 0 B [.ref (B + 24), .int row] cnt (cst B kp S ρ) (pm_Qi (fun v σ' cnt' => v = fHas 24 S row ∧ σ' = (cst B kp S ρ) ∧ cnt' = cnt)) := tb_has rfl
theorem tused_24 {d B cnt : Nat} {kp : Value} {ρ : pm_S} {S : FS} : pm_met mX9_used d 0 0 B [.ref (B + 24)] cnt (cst B kp S ρ) (pm_Qi (fun v σ' cnt' => v = S.1 24 ∧ σ' = (cst B kp S ρ) ∧ cnt' = cnt)) := tb_used rfl
theorem tisFull_24 {d B cnt : Nat} {kp : Value} {ρ : pm_S} {S : FS} : pm_met mX9_isFull d 0 0 B [.ref (B + 24)] cnt (cst B kp S ρ) (pm_Qi (fun v σ' cnt' => v = fFull 24 60 S ∧ σ' = (cst B kp S ρ) ∧ cnt' = cnt)) := tb_isFull rfl
theorem tget_24 {d B cnt : Nat} {kp : Value} {ρ : pm_S} {S : FS} {row col : Int32} : pm_met mX9_get d 0 0 B [.ref (B + 24), .int row, .int col] cnt (cst B kp S ρ) (pm_Qi (fun v σ' cnt' => v = fG 24 60 1 S row col ∧ σ' = (cst B kp S ρ) ∧ cnt' = cnt)) := tb_get rfl rfl (pm_tw_of 60 1 (by decide) (by decide) (by decide))
theorem tup_24 {B : Nat} {kp : Value} {ρ : pm_S} {S : FS} {row col x : Int32} : pm_up (cst B kp S ρ) 25 (.inl (60, pm_ts (nI 60) (nI 1) (S.2 25) row col x)) = cst B kp (fP 24 60 1 S row col x) ρ := pm_two_up (by decide) (Nat.le_of_ble_eq_true rfl)
theorem tset_24 {d B cnt : Nat} {kp : Value} {ρ : pm_S} {S : FS} {row col x : Int32} : pm_met mX9_set d 0 0 B [.ref (B + 24), .int row, .int col, .int x] cnt (cst B kp S ρ) (pm_Qv (fun σ' cnt' => σ' = (cst B kp (fP 24 60 1 S row col x) ρ) ∧ cnt' = cnt)) := by
  rw [← tup_24]; exact tb_set rfl rfl (pm_tw_of 60 1 (by decide) (by decide) (by decide)) (by decide)
theorem tadd_24 {d B cnt : Nat} {kp : Value} {ρ : pm_S} {S : FS} {row col x : Int32} (hdd : 1 ≤ d) : pm_met mX9_add d 0 0 B [.ref (B + 24), .int row, .int col, .int x] cnt (cst B kp S ρ) (pm_Qv (fun σ' cnt' => σ' = (cst B kp (fP 24 60 1 S row col (fG 24 60 1 S row col + x)) ρ) ∧ cnt' = cnt)) := by
  rw [← tup_24]; exact tb_add hdd rfl rfl (pm_tw_of 60 1 (by decide) (by decide) (by decide)) (by decide)
theorem tswap_24 {d B cnt : Nat} {kp : Value} {ρ : pm_S} {S : FS} {row col x : Int32} (hdd : 1 ≤ d) : pm_met mX9_swap d 0 0 B [.ref (B + 24), .int row, .int col, .int x] cnt (cst B kp S ρ) (pm_Qi (fun v σ' cnt' => v = fG 24 60 1 S row col ∧ σ' = (cst B kp (fP 24 60 1 S row col x) ρ) ∧ cnt' = cnt)) := by
  rw [← tup_24]; exact tb_swap hdd rfl rfl (pm_tw_of 60 1 (by decide) (by decide) (by decide)) (by decide)
theorem tclear_24 {d B cnt : Nat} {kp : Value} {ρ : pm_S} {S : FS} : pm_met mX9_clear d 0 0 B [.ref (B + 24)] cnt (cst B kp S ρ) (pm_Qv (fun σ' cnt' => σ' = (cst B kp (wI S 24 0) ρ) ∧ cnt' = cnt)) := by
  rw [← (show pm_up (cst B kp S ρ) 24 (.inr (9, [.int 60, .int 1, .ref (B + 25), .int 0])) = cst B kp (wI S 24 0) ρ from pm_two_up (by decide) (Nat.le_of_ble_eq_true rfl))]; exact tb_clear rfl
theorem tappend_24 {d B cnt : Nat} {kp : Value} {ρ : pm_S} {S : FS} {x : Int32} {R : Int32 × FS} (hdd : 1 ≤ d) (hE : fApp 24 60 1 S x = some R) : pm_met mX9_append d 0 0 B [.ref (B + 24), .int x] cnt (cst B kp S ρ) (pm_Qi (fun v σ' cnt' => v = R.1 ∧ σ' = (cst B kp R.2 ρ) ∧ cnt' = cnt)) := by
  obtain ⟨u, hu, hE⟩ := fb_some hE
  obtain ⟨hu1, hu2⟩ := iN_in (by decide) hu
  have ht : cst B kp S ρ 24 = some (.inr (9, [.int (nI 60), .int (nI 1), .ref (B + 25), .int (nI u)])) := by rw [← hu2]; rfl
  by_cases c : u = 60
  · rw [if_pos c] at hE
    obtain rfl := Option.some.inj hE
    exact tb_appF hdd ht rfl (by decide) (by decide) (by decide) (by decide) (by decide) (by decide) (by omega) hu1
  · rw [if_neg c] at hE
    obtain rfl := Option.some.inj hE
    have e2 : cst B kp (ui S.1 24 (nI (u + 1)), ua S.2 25 (pm_apf 1 u x (S.2 25))) ρ = pm_up (pm_up (cst B kp S ρ) 24 (.inr (9, [.int (nI 60), .int (nI 1), .ref (B + 25), .int (nI (u + 1))]))) 25 (.inl (60, pm_apf 1 u x (S.2 25))) := by
      rw [pm_two_up (by decide) (Nat.le_of_ble_eq_true rfl), pm_two_up (by decide) (Nat.le_of_ble_eq_true rfl)]; rfl
    show pm_met mX9_append d 0 0 B [.ref (B + 24), .int x] cnt (cst B kp S ρ) (pm_Qi (fun v σ' cnt' => v = nI u ∧ σ' = (cst B kp (ui S.1 24 (nI (u + 1)), ua S.2 25 (pm_apf 1 u x (S.2 25))) ρ) ∧ cnt' = cnt))
    rw [e2]
    exact tb_appN hdd ht rfl (by decide) (by decide) (by decide) (by decide) (by decide) (by decide) (by omega)
theorem trowsWith_24 {d B cnt : Nat} {kp : Value} {ρ : pm_S} {S : FS} {k : Nat} {x y : Int32} {R : Int32} (hk : k < 1) (hy : y = nI k) (hE : qRows 24 60 1 S k x = some R) : pm_met mX9_rowsWith d 0 0 B [.ref (B + 24), .int y, .int x] cnt (cst B kp S ρ) (pm_Qi (fun v σ' cnt' => v = R ∧ σ' = (cst B kp S ρ) ∧ cnt' = cnt)) := by
  subst hy
  obtain ⟨u, hu, hE⟩ := fb_some hE
  obtain ⟨hu1, hu2⟩ := iN_in (by decide) hu
  have ht : cst B kp S ρ 24 = some (.inr (9, [.int (nI 60), .int (nI 1), .ref (B + 25), .int (nI u)])) := by rw [← hu2]; rfl
  obtain rfl := Option.some.inj hE
  exact tb_rowsWith ht rfl (by decide) (by decide) (by decide) hu1 (by omega) hk
theorem tsumOf_24 {d B cnt : Nat} {kp : Value} {ρ : pm_S} {S : FS} {k : Nat} {y : Int32} {R : Int32} (hdd : 1 ≤ d) (hk : k < 1) (hy : y = nI k) (hE : qSum 24 60 1 S k = some R) : pm_met mX9_sumOf d 0 0 B [.ref (B + 24), .int y] cnt (cst B kp S ρ) (pm_Qi (fun v σ' cnt' => v = R ∧ σ' = (cst B kp S ρ) ∧ cnt' = cnt)) := by
  subst hy
  obtain ⟨u, hu, hE⟩ := fb_some hE
  obtain ⟨hu1, hu2⟩ := iN_in (by decide) hu
  have ht : cst B kp S ρ 24 = some (.inr (9, [.int (nI 60), .int (nI 1), .ref (B + 25), .int (nI u)])) := by rw [← hu2]; rfl
  obtain rfl := Option.some.inj hE
  exact tb_sumE hdd (by decide) (by decide) (by decide) hu1 hk ht rfl (pm_tw_of 60 1 (by decide) (by decide) (by decide)) (by omega)
theorem thas_28 {d B cnt : Nat} {kp : Value} {ρ : pm_S} {S : FS} {row : Int32} : pm_met mX9_has d 0 0 B [.ref (B + 28), .int row] cnt (cst B kp S ρ) (pm_Qi (fun v σ' cnt' => v = fHas 28 S row ∧ σ' = (cst B kp S ρ) ∧ cnt' = cnt)) := tb_has rfl
theorem tused_28 {d B cnt : Nat} {kp : Value} {ρ : pm_S} {S : FS} : pm_met mX9_used d 0 0 B [.ref (B + 28)] cnt (cst B kp S ρ) (pm_Qi (fun v σ' cnt' => v = S.1 28 ∧ σ' = (cst B kp S ρ) ∧ cnt' = cnt)) := tb_used rfl
theorem tisFull_28 {d B cnt : Nat} {kp : Value} {ρ : pm_S} {S : FS} : pm_met mX9_isFull d 0 0 B [.ref (B + 28)] cnt (cst B kp S ρ) (pm_Qi (fun v σ' cnt' => v = fFull 28 60 S ∧ σ' = (cst B kp S ρ) ∧ cnt' = cnt)) := tb_isFull rfl
theorem tget_28 {d B cnt : Nat} {kp : Value} {ρ : pm_S} {S : FS} {row col : Int32} : pm_met mX9_get d 0 0 B [.ref (B + 28), .int row, .int col] cnt (cst B kp S ρ) (pm_Qi (fun v σ' cnt' => v = fG 28 60 1 S row col ∧ σ' = (cst B kp S ρ) ∧ cnt' = cnt)) := tb_get rfl rfl (pm_tw_of 60 1 (by decide) (by decide) (by decide))
theorem tup_28 {B : Nat} {kp : Value} {ρ : pm_S} {S : FS} {row col x : Int32} : pm_up (cst B kp S ρ) 29 (.inl (60, pm_ts (nI 60) (nI 1) (S.2 29) row col x)) = cst B kp (fP 28 60 1 S row col x) ρ := pm_two_up (by decide) (Nat.le_of_ble_eq_true rfl)
theorem tset_28 {d B cnt : Nat} {kp : Value} {ρ : pm_S} {S : FS} {row col x : Int32} : pm_met mX9_set d 0 0 B [.ref (B + 28), .int row, .int col, .int x] cnt (cst B kp S ρ) (pm_Qv (fun σ' cnt' => σ' = (cst B kp (fP 28 60 1 S row col x) ρ) ∧ cnt' = cnt)) := by
  rw [← tup_28]; exact tb_set rfl rfl (pm_tw_of 60 1 (by decide) (by decide) (by decide)) (by decide)
theorem tadd_28 {d B cnt : Nat} {kp : Value} {ρ : pm_S} {S : FS} {row col x : Int32} (hdd : 1 ≤ d) : pm_met mX9_add d 0 0 B [.ref (B + 28), .int row, .int col, .int x] cnt (cst B kp S ρ) (pm_Qv (fun σ' cnt' => σ' = (cst B kp (fP 28 60 1 S row col (fG 28 60 1 S row col + x)) ρ) ∧ cnt' = cnt)) := by
  rw [← tup_28]; exact tb_add hdd rfl rfl (pm_tw_of 60 1 (by decide) (by decide) (by decide)) (by decide)
theorem tswap_28 {d B cnt : Nat} {kp : Value} {ρ : pm_S} {S : FS} {row col x : Int32} (hdd : 1 ≤ d) : pm_met mX9_swap d 0 0 B [.ref (B + 28), .int row, .int col, .int x] cnt (cst B kp S ρ) (pm_Qi (fun v σ' cnt' => v = fG 28 60 1 S row col ∧ σ' = (cst B kp (fP 28 60 1 S row col x) ρ) ∧ cnt' = cnt)) := by
  rw [← tup_28]; exact tb_swap hdd rfl rfl (pm_tw_of 60 1 (by decide) (by decide) (by decide)) (by decide)
theorem tclear_28 {d B cnt : Nat} {kp : Value} {ρ : pm_S} {S : FS} : pm_met mX9_clear d 0 0 B [.ref (B + 28)] cnt (cst B kp S ρ) (pm_Qv (fun σ' cnt' => σ' = (cst B kp (wI S 28 0) ρ) ∧ cnt' = cnt)) := by
  rw [← (show pm_up (cst B kp S ρ) 28 (.inr (9, [.int 60, .int 1, .ref (B + 29), .int 0])) = cst B kp (wI S 28 0) ρ from pm_two_up (by decide) (Nat.le_of_ble_eq_true rfl))]; exact tb_clear rfl
theorem tappend_28 {d B cnt : Nat} {kp : Value} {ρ : pm_S} {S : FS} {x : Int32} {R : Int32 × FS} (hdd : 1 ≤ d) (hE : fApp 28 60 1 S x = some R) : pm_met mX9_append d 0 0 B [.ref (B + 28), .int x] cnt (cst B kp S ρ) (pm_Qi (fun v σ' cnt' => v = R.1 ∧ σ' = (cst B kp R.2 ρ) ∧ cnt' = cnt)) := by
  obtain ⟨u, hu, hE⟩ := fb_some hE
  obtain ⟨hu1, hu2⟩ := iN_in (by decide) hu
  have ht : cst B kp S ρ 28 = some (.inr (9, [.int (nI 60), .int (nI 1), .ref (B + 29), .int (nI u)])) := by rw [← hu2]; rfl
  by_cases c : u = 60
  · rw [if_pos c] at hE
    obtain rfl := Option.some.inj hE
    exact tb_appF hdd ht rfl (by decide) (by decide) (by decide) (by decide) (by decide) (by decide) (by omega) hu1
  · rw [if_neg c] at hE
    obtain rfl := Option.some.inj hE
    have e2 : cst B kp (ui S.1 28 (nI (u + 1)), ua S.2 29 (pm_apf 1 u x (S.2 29))) ρ = pm_up (pm_up (cst B kp S ρ) 28 (.inr (9, [.int (nI 60), .int (nI 1), .ref (B + 29), .int (nI (u + 1))]))) 29 (.inl (60, pm_apf 1 u x (S.2 29))) := by
      rw [pm_two_up (by decide) (Nat.le_of_ble_eq_true rfl), pm_two_up (by decide) (Nat.le_of_ble_eq_true rfl)]; rfl
    show pm_met mX9_append d 0 0 B [.ref (B + 28), .int x] cnt (cst B kp S ρ) (pm_Qi (fun v σ' cnt' => v = nI u ∧ σ' = (cst B kp (ui S.1 28 (nI (u + 1)), ua S.2 29 (pm_apf 1 u x (S.2 29))) ρ) ∧ cnt' = cnt))
    rw [e2]
    exact tb_appN hdd ht rfl (by decide) (by decide) (by decide) (by decide) (by decide) (by decide) (by omega)
theorem trowsWith_28 {d B cnt : Nat} {kp : Value} {ρ : pm_S} {S : FS} {k : Nat} {x y : Int32} {R : Int32} (hk : k < 1) (hy : y = nI k) (hE : qRows 28 60 1 S k x = some R) : pm_met mX9_rowsWith d 0 0 B [.ref (B + 28), .int y, .int x] cnt (cst B kp S ρ) (pm_Qi (fun v σ' cnt' => v = R ∧ σ' = (cst B kp S ρ) ∧ cnt' = cnt)) := by
  subst hy
  obtain ⟨u, hu, hE⟩ := fb_some hE
  obtain ⟨hu1, hu2⟩ := iN_in (by decide) hu
  have ht : cst B kp S ρ 28 = some (.inr (9, [.int (nI 60), .int (nI 1), .ref (B + 29), .int (nI u)])) := by rw [← hu2]; rfl
  obtain rfl := Option.some.inj hE
  exact tb_rowsWith ht rfl (by decide) (by decide) (by decide) hu1 (by omega) hk
theorem tsumOf_28 {d B cnt : Nat} {kp : Value} {ρ : pm_S} {S : FS} {k : Nat} {y : Int32} {R : Int32} (hdd : 1 ≤ d) (hk : k < 1) (hy : y = nI k) (hE : qSum 28 60 1 S k = some R) : pm_met mX9_sumOf d 0 0 B [.ref (B + 28), .int y] cnt (cst B kp S ρ) (pm_Qi (fun v σ' cnt' => v = R ∧ σ' = (cst B kp S ρ) ∧ cnt' = cnt)) := by
  subst hy
  obtain ⟨u, hu, hE⟩ := fb_some hE
  obtain ⟨hu1, hu2⟩ := iN_in (by decide) hu
  have ht : cst B kp S ρ 28 = some (.inr (9, [.int (nI 60), .int (nI 1), .ref (B + 29), .int (nI u)])) := by rw [← hu2]; rfl
  obtain rfl := Option.some.inj hE
  exact tb_sumE hdd (by decide) (by decide) (by decide) hu1 hk ht rfl (pm_tw_of 60 1 (by decide) (by decide) (by decide)) (by omega)
theorem thas_32 {d B cnt : Nat} {kp : Value} {ρ : pm_S} {S : FS} {row : Int32} : pm_met mX9_has d 0 0 B [.ref (B + 32), .int row] cnt (cst B kp S ρ) (pm_Qi (fun v σ' cnt' => v = fHas 32 S row ∧ σ' = (cst B kp S ρ) ∧ cnt' = cnt)) := tb_has rfl
theorem tused_32 {d B cnt : Nat} {kp : Value} {ρ : pm_S} {S : FS} : pm_met mX9_used d 0 0 B [.ref (B + 32)] cnt (cst B kp S ρ) (pm_Qi (fun v σ' cnt' => v = S.1 32 ∧ σ' = (cst B kp S ρ) ∧ cnt' = cnt)) := tb_used rfl
theorem tisFull_32 {d B cnt : Nat} {kp : Value} {ρ : pm_S} {S : FS} : pm_met mX9_isFull d 0 0 B [.ref (B + 32)] cnt (cst B kp S ρ) (pm_Qi (fun v σ' cnt' => v = fFull 32 20 S ∧ σ' = (cst B kp S ρ) ∧ cnt' = cnt)) := tb_isFull rfl
theorem tget_32 {d B cnt : Nat} {kp : Value} {ρ : pm_S} {S : FS} {row col : Int32} : pm_met mX9_get d 0 0 B [.ref (B + 32), .int row, .int col] cnt (cst B kp S ρ) (pm_Qi (fun v σ' cnt' => v = fG 32 20 1 S row col ∧ σ' = (cst B kp S ρ) ∧ cnt' = cnt)) := tb_get rfl rfl (pm_tw_of 20 1 (by decide) (by decide) (by decide))
theorem tup_32 {B : Nat} {kp : Value} {ρ : pm_S} {S : FS} {row col x : Int32} : pm_up (cst B kp S ρ) 33 (.inl (20, pm_ts (nI 20) (nI 1) (S.2 33) row col x)) = cst B kp (fP 32 20 1 S row col x) ρ := pm_two_up (by decide) (Nat.le_of_ble_eq_true rfl)
theorem tset_32 {d B cnt : Nat} {kp : Value} {ρ : pm_S} {S : FS} {row col x : Int32} : pm_met mX9_set d 0 0 B [.ref (B + 32), .int row, .int col, .int x] cnt (cst B kp S ρ) (pm_Qv (fun σ' cnt' => σ' = (cst B kp (fP 32 20 1 S row col x) ρ) ∧ cnt' = cnt)) := by
  rw [← tup_32]; exact tb_set rfl rfl (pm_tw_of 20 1 (by decide) (by decide) (by decide)) (by decide)
theorem tadd_32 {d B cnt : Nat} {kp : Value} {ρ : pm_S} {S : FS} {row col x : Int32} (hdd : 1 ≤ d) : pm_met mX9_add d 0 0 B [.ref (B + 32), .int row, .int col, .int x] cnt (cst B kp S ρ) (pm_Qv (fun σ' cnt' => σ' = (cst B kp (fP 32 20 1 S row col (fG 32 20 1 S row col + x)) ρ) ∧ cnt' = cnt)) := by
  rw [← tup_32]; exact tb_add hdd rfl rfl (pm_tw_of 20 1 (by decide) (by decide) (by decide)) (by decide)
theorem tswap_32 {d B cnt : Nat} {kp : Value} {ρ : pm_S} {S : FS} {row col x : Int32} (hdd : 1 ≤ d) : pm_met mX9_swap d 0 0 B [.ref (B + 32), .int row, .int col, .int x] cnt (cst B kp S ρ) (pm_Qi (fun v σ' cnt' => v = fG 32 20 1 S row col ∧ σ' = (cst B kp (fP 32 20 1 S row col x) ρ) ∧ cnt' = cnt)) := by
  rw [← tup_32]; exact tb_swap hdd rfl rfl (pm_tw_of 20 1 (by decide) (by decide) (by decide)) (by decide)
theorem tclear_32 {d B cnt : Nat} {kp : Value} {ρ : pm_S} {S : FS} : pm_met mX9_clear d 0 0 B [.ref (B + 32)] cnt (cst B kp S ρ) (pm_Qv (fun σ' cnt' => σ' = (cst B kp (wI S 32 0) ρ) ∧ cnt' = cnt)) := by
  rw [← (show pm_up (cst B kp S ρ) 32 (.inr (9, [.int 20, .int 1, .ref (B + 33), .int 0])) = cst B kp (wI S 32 0) ρ from pm_two_up (by decide) (Nat.le_of_ble_eq_true rfl))]; exact tb_clear rfl
theorem tappend_32 {d B cnt : Nat} {kp : Value} {ρ : pm_S} {S : FS} {x : Int32} {R : Int32 × FS} (hdd : 1 ≤ d) (hE : fApp 32 20 1 S x = some R) : pm_met mX9_append d 0 0 B [.ref (B + 32), .int x] cnt (cst B kp S ρ) (pm_Qi (fun v σ' cnt' => v = R.1 ∧ σ' = (cst B kp R.2 ρ) ∧ cnt' = cnt)) := by
  obtain ⟨u, hu, hE⟩ := fb_some hE
  obtain ⟨hu1, hu2⟩ := iN_in (by decide) hu
  have ht : cst B kp S ρ 32 = some (.inr (9, [.int (nI 20), .int (nI 1), .ref (B + 33), .int (nI u)])) := by rw [← hu2]; rfl
  by_cases c : u = 20
  · rw [if_pos c] at hE
    obtain rfl := Option.some.inj hE
    exact tb_appF hdd ht rfl (by decide) (by decide) (by decide) (by decide) (by decide) (by decide) (by omega) hu1
  · rw [if_neg c] at hE
    obtain rfl := Option.some.inj hE
    have e2 : cst B kp (ui S.1 32 (nI (u + 1)), ua S.2 33 (pm_apf 1 u x (S.2 33))) ρ = pm_up (pm_up (cst B kp S ρ) 32 (.inr (9, [.int (nI 20), .int (nI 1), .ref (B + 33), .int (nI (u + 1))]))) 33 (.inl (20, pm_apf 1 u x (S.2 33))) := by
      rw [pm_two_up (by decide) (Nat.le_of_ble_eq_true rfl), pm_two_up (by decide) (Nat.le_of_ble_eq_true rfl)]; rfl
    show pm_met mX9_append d 0 0 B [.ref (B + 32), .int x] cnt (cst B kp S ρ) (pm_Qi (fun v σ' cnt' => v = nI u ∧ σ' = (cst B kp (ui S.1 32 (nI (u + 1)), ua S.2 33 (pm_apf 1 u x (S.2 33))) ρ) ∧ cnt' = cnt))
    rw [e2]
    exact tb_appN hdd ht rfl (by decide) (by decide) (by decide) (by decide) (by decide) (by decide) (by omega)
theorem trowsWith_32 {d B cnt : Nat} {kp : Value} {ρ : pm_S} {S : FS} {k : Nat} {x y : Int32} {R : Int32} (hk : k < 1) (hy : y = nI k) (hE : qRows 32 20 1 S k x = some R) : pm_met mX9_rowsWith d 0 0 B [.ref (B + 32), .int y, .int x] cnt (cst B kp S ρ) (pm_Qi (fun v σ' cnt' => v = R ∧ σ' = (cst B kp S ρ) ∧ cnt' = cnt)) := by
  subst hy
  obtain ⟨u, hu, hE⟩ := fb_some hE
  obtain ⟨hu1, hu2⟩ := iN_in (by decide) hu
  have ht : cst B kp S ρ 32 = some (.inr (9, [.int (nI 20), .int (nI 1), .ref (B + 33), .int (nI u)])) := by rw [← hu2]; rfl
  obtain rfl := Option.some.inj hE
  exact tb_rowsWith ht rfl (by decide) (by decide) (by decide) hu1 (by omega) hk
theorem tsumOf_32 {d B cnt : Nat} {kp : Value} {ρ : pm_S} {S : FS} {k : Nat} {y : Int32} {R : Int32} (hdd : 1 ≤ d) (hk : k < 1) (hy : y = nI k) (hE : qSum 32 20 1 S k = some R) : pm_met mX9_sumOf d 0 0 B [.ref (B + 32), .int y] cnt (cst B kp S ρ) (pm_Qi (fun v σ' cnt' => v = R ∧ σ' = (cst B kp S ρ) ∧ cnt' = cnt)) := by
  subst hy
  obtain ⟨u, hu, hE⟩ := fb_some hE
  obtain ⟨hu1, hu2⟩ := iN_in (by decide) hu
  have ht : cst B kp S ρ 32 = some (.inr (9, [.int (nI 20), .int (nI 1), .ref (B + 33), .int (nI u)])) := by rw [← hu2]; rfl
  obtain rfl := Option.some.inj hE
  exact tb_sumE hdd (by decide) (by decide) (by decide) hu1 hk ht rfl (pm_tw_of 20 1 (by decide) (by decide) (by decide)) (by omega)
theorem thas_34 {d B cnt : Nat} {kp : Value} {ρ : pm_S} {S : FS} {row : Int32} : pm_met mX9_has d 0 0 B [.ref (B + 34), .int row] cnt (cst B kp S ρ) (pm_Qi (fun v σ' cnt' => v = fHas 34 S row ∧ σ' = (cst B kp S ρ) ∧ cnt' = cnt)) := tb_has rfl
theorem tused_34 {d B cnt : Nat} {kp : Value} {ρ : pm_S} {S : FS} : pm_met mX9_used d 0 0 B [.ref (B + 34)] cnt (cst B kp S ρ) (pm_Qi (fun v σ' cnt' => v = S.1 34 ∧ σ' = (cst B kp S ρ) ∧ cnt' = cnt)) := tb_used rfl
theorem tisFull_34 {d B cnt : Nat} {kp : Value} {ρ : pm_S} {S : FS} : pm_met mX9_isFull d 0 0 B [.ref (B + 34)] cnt (cst B kp S ρ) (pm_Qi (fun v σ' cnt' => v = fFull 34 9 S ∧ σ' = (cst B kp S ρ) ∧ cnt' = cnt)) := tb_isFull rfl
theorem tget_34 {d B cnt : Nat} {kp : Value} {ρ : pm_S} {S : FS} {row col : Int32} : pm_met mX9_get d 0 0 B [.ref (B + 34), .int row, .int col] cnt (cst B kp S ρ) (pm_Qi (fun v σ' cnt' => v = fG 34 9 1 S row col ∧ σ' = (cst B kp S ρ) ∧ cnt' = cnt)) := tb_get rfl rfl (pm_tw_of 9 1 (by decide) (by decide) (by decide))
theorem tup_34 {B : Nat} {kp : Value} {ρ : pm_S} {S : FS} {row col x : Int32} : pm_up (cst B kp S ρ) 35 (.inl (9, pm_ts (nI 9) (nI 1) (S.2 35) row col x)) = cst B kp (fP 34 9 1 S row col x) ρ := pm_two_up (by decide) (Nat.le_of_ble_eq_true rfl)
theorem tset_34 {d B cnt : Nat} {kp : Value} {ρ : pm_S} {S : FS} {row col x : Int32} : pm_met mX9_set d 0 0 B [.ref (B + 34), .int row, .int col, .int x] cnt (cst B kp S ρ) (pm_Qv (fun σ' cnt' => σ' = (cst B kp (fP 34 9 1 S row col x) ρ) ∧ cnt' = cnt)) := by
  rw [← tup_34]; exact tb_set rfl rfl (pm_tw_of 9 1 (by decide) (by decide) (by decide)) (by decide)
theorem tadd_34 {d B cnt : Nat} {kp : Value} {ρ : pm_S} {S : FS} {row col x : Int32} (hdd : 1 ≤ d) : pm_met mX9_add d 0 0 B [.ref (B + 34), .int row, .int col, .int x] cnt (cst B kp S ρ) (pm_Qv (fun σ' cnt' => σ' = (cst B kp (fP 34 9 1 S row col (fG 34 9 1 S row col + x)) ρ) ∧ cnt' = cnt)) := by
  rw [← tup_34]; exact tb_add hdd rfl rfl (pm_tw_of 9 1 (by decide) (by decide) (by decide)) (by decide)
theorem tswap_34 {d B cnt : Nat} {kp : Value} {ρ : pm_S} {S : FS} {row col x : Int32} (hdd : 1 ≤ d) : pm_met mX9_swap d 0 0 B [.ref (B + 34), .int row, .int col, .int x] cnt (cst B kp S ρ) (pm_Qi (fun v σ' cnt' => v = fG 34 9 1 S row col ∧ σ' = (cst B kp (fP 34 9 1 S row col x) ρ) ∧ cnt' = cnt)) := by
  rw [← tup_34]; exact tb_swap hdd rfl rfl (pm_tw_of 9 1 (by decide) (by decide) (by decide)) (by decide)
theorem tclear_34 {d B cnt : Nat} {kp : Value} {ρ : pm_S} {S : FS} : pm_met mX9_clear d 0 0 B [.ref (B + 34)] cnt (cst B kp S ρ) (pm_Qv (fun σ' cnt' => σ' = (cst B kp (wI S 34 0) ρ) ∧ cnt' = cnt)) := by
  rw [← (show pm_up (cst B kp S ρ) 34 (.inr (9, [.int 9, .int 1, .ref (B + 35), .int 0])) = cst B kp (wI S 34 0) ρ from pm_two_up (by decide) (Nat.le_of_ble_eq_true rfl))]; exact tb_clear rfl
theorem tappend_34 {d B cnt : Nat} {kp : Value} {ρ : pm_S} {S : FS} {x : Int32} {R : Int32 × FS} (hdd : 1 ≤ d) (hE : fApp 34 9 1 S x = some R) : pm_met mX9_append d 0 0 B [.ref (B + 34), .int x] cnt (cst B kp S ρ) (pm_Qi (fun v σ' cnt' => v = R.1 ∧ σ' = (cst B kp R.2 ρ) ∧ cnt' = cnt)) := by
  obtain ⟨u, hu, hE⟩ := fb_some hE
  obtain ⟨hu1, hu2⟩ := iN_in (by decide) hu
  have ht : cst B kp S ρ 34 = some (.inr (9, [.int (nI 9), .int (nI 1), .ref (B + 35), .int (nI u)])) := by rw [← hu2]; rfl
  by_cases c : u = 9
  · rw [if_pos c] at hE
    obtain rfl := Option.some.inj hE
    exact tb_appF hdd ht rfl (by decide) (by decide) (by decide) (by decide) (by decide) (by decide) (by omega) hu1
  · rw [if_neg c] at hE
    obtain rfl := Option.some.inj hE
    have e2 : cst B kp (ui S.1 34 (nI (u + 1)), ua S.2 35 (pm_apf 1 u x (S.2 35))) ρ = pm_up (pm_up (cst B kp S ρ) 34 (.inr (9, [.int (nI 9), .int (nI 1), .ref (B + 35), .int (nI (u + 1))]))) 35 (.inl (9, pm_apf 1 u x (S.2 35))) := by
      rw [pm_two_up (by decide) (Nat.le_of_ble_eq_true rfl), pm_two_up (by decide) (Nat.le_of_ble_eq_true rfl)]; rfl
    show pm_met mX9_append d 0 0 B [.ref (B + 34), .int x] cnt (cst B kp S ρ) (pm_Qi (fun v σ' cnt' => v = nI u ∧ σ' = (cst B kp (ui S.1 34 (nI (u + 1)), ua S.2 35 (pm_apf 1 u x (S.2 35))) ρ) ∧ cnt' = cnt))
    rw [e2]
    exact tb_appN hdd ht rfl (by decide) (by decide) (by decide) (by decide) (by decide) (by decide) (by omega)
theorem trowsWith_34 {d B cnt : Nat} {kp : Value} {ρ : pm_S} {S : FS} {k : Nat} {x y : Int32} {R : Int32} (hk : k < 1) (hy : y = nI k) (hE : qRows 34 9 1 S k x = some R) : pm_met mX9_rowsWith d 0 0 B [.ref (B + 34), .int y, .int x] cnt (cst B kp S ρ) (pm_Qi (fun v σ' cnt' => v = R ∧ σ' = (cst B kp S ρ) ∧ cnt' = cnt)) := by
  subst hy
  obtain ⟨u, hu, hE⟩ := fb_some hE
  obtain ⟨hu1, hu2⟩ := iN_in (by decide) hu
  have ht : cst B kp S ρ 34 = some (.inr (9, [.int (nI 9), .int (nI 1), .ref (B + 35), .int (nI u)])) := by rw [← hu2]; rfl
  obtain rfl := Option.some.inj hE
  exact tb_rowsWith ht rfl (by decide) (by decide) (by decide) hu1 (by omega) hk
theorem tsumOf_34 {d B cnt : Nat} {kp : Value} {ρ : pm_S} {S : FS} {k : Nat} {y : Int32} {R : Int32} (hdd : 1 ≤ d) (hk : k < 1) (hy : y = nI k) (hE : qSum 34 9 1 S k = some R) : pm_met mX9_sumOf d 0 0 B [.ref (B + 34), .int y] cnt (cst B kp S ρ) (pm_Qi (fun v σ' cnt' => v = R ∧ σ' = (cst B kp S ρ) ∧ cnt' = cnt)) := by
  subst hy
  obtain ⟨u, hu, hE⟩ := fb_some hE
  obtain ⟨hu1, hu2⟩ := iN_in (by decide) hu
  have ht : cst B kp S ρ 34 = some (.inr (9, [.int (nI 9), .int (nI 1), .ref (B + 35), .int (nI u)])) := by rw [← hu2]; rfl
  obtain rfl := Option.some.inj hE
  exact tb_sumE hdd (by decide) (by decide) (by decide) hu1 hk ht rfl (pm_tw_of 9 1 (by decide) (by decide) (by decide)) (by omega)
theorem thas_38 {d B cnt : Nat} {kp : Value} {ρ : pm_S} {S : FS} {row : Int32} : pm_met mX9_has d 0 0 B [.ref (B + 38), .int row] cnt (cst B kp S ρ) (pm_Qi (fun v σ' cnt' => v = fHas 38 S row ∧ σ' = (cst B kp S ρ) ∧ cnt' = cnt)) := tb_has rfl
theorem tused_38 {d B cnt : Nat} {kp : Value} {ρ : pm_S} {S : FS} : pm_met mX9_used d 0 0 B [.ref (B + 38)] cnt (cst B kp S ρ) (pm_Qi (fun v σ' cnt' => v = S.1 38 ∧ σ' = (cst B kp S ρ) ∧ cnt' = cnt)) := tb_used rfl
theorem tisFull_38 {d B cnt : Nat} {kp : Value} {ρ : pm_S} {S : FS} : pm_met mX9_isFull d 0 0 B [.ref (B + 38)] cnt (cst B kp S ρ) (pm_Qi (fun v σ' cnt' => v = fFull 38 20 S ∧ σ' = (cst B kp S ρ) ∧ cnt' = cnt)) := tb_isFull rfl
theorem tget_38 {d B cnt : Nat} {kp : Value} {ρ : pm_S} {S : FS} {row col : Int32} : pm_met mX9_get d 0 0 B [.ref (B + 38), .int row, .int col] cnt (cst B kp S ρ) (pm_Qi (fun v σ' cnt' => v = fG 38 20 1 S row col ∧ σ' = (cst B kp S ρ) ∧ cnt' = cnt)) := tb_get rfl rfl (pm_tw_of 20 1 (by decide) (by decide) (by decide))
theorem tup_38 {B : Nat} {kp : Value} {ρ : pm_S} {S : FS} {row col x : Int32} : pm_up (cst B kp S ρ) 39 (.inl (20, pm_ts (nI 20) (nI 1) (S.2 39) row col x)) = cst B kp (fP 38 20 1 S row col x) ρ := pm_two_up (by decide) (Nat.le_of_ble_eq_true rfl)
theorem tset_38 {d B cnt : Nat} {kp : Value} {ρ : pm_S} {S : FS} {row col x : Int32} : pm_met mX9_set d 0 0 B [.ref (B + 38), .int row, .int col, .int x] cnt (cst B kp S ρ) (pm_Qv (fun σ' cnt' => σ' = (cst B kp (fP 38 20 1 S row col x) ρ) ∧ cnt' = cnt)) := by
  rw [← tup_38]; exact tb_set rfl rfl (pm_tw_of 20 1 (by decide) (by decide) (by decide)) (by decide)
theorem tadd_38 {d B cnt : Nat} {kp : Value} {ρ : pm_S} {S : FS} {row col x : Int32} (hdd : 1 ≤ d) : pm_met mX9_add d 0 0 B [.ref (B + 38), .int row, .int col, .int x] cnt (cst B kp S ρ) (pm_Qv (fun σ' cnt' => σ' = (cst B kp (fP 38 20 1 S row col (fG 38 20 1 S row col + x)) ρ) ∧ cnt' = cnt)) := by
  rw [← tup_38]; exact tb_add hdd rfl rfl (pm_tw_of 20 1 (by decide) (by decide) (by decide)) (by decide)
theorem tswap_38 {d B cnt : Nat} {kp : Value} {ρ : pm_S} {S : FS} {row col x : Int32} (hdd : 1 ≤ d) : pm_met mX9_swap d 0 0 B [.ref (B + 38), .int row, .int col, .int x] cnt (cst B kp S ρ) (pm_Qi (fun v σ' cnt' => v = fG 38 20 1 S row col ∧ σ' = (cst B kp (fP 38 20 1 S row col x) ρ) ∧ cnt' = cnt)) := by
  rw [← tup_38]; exact tb_swap hdd rfl rfl (pm_tw_of 20 1 (by decide) (by decide) (by decide)) (by decide)
theorem tclear_38 {d B cnt : Nat} {kp : Value} {ρ : pm_S} {S : FS} : pm_met mX9_clear d 0 0 B [.ref (B + 38)] cnt (cst B kp S ρ) (pm_Qv (fun σ' cnt' => σ' = (cst B kp (wI S 38 0) ρ) ∧ cnt' = cnt)) := by
  rw [← (show pm_up (cst B kp S ρ) 38 (.inr (9, [.int 20, .int 1, .ref (B + 39), .int 0])) = cst B kp (wI S 38 0) ρ from pm_two_up (by decide) (Nat.le_of_ble_eq_true rfl))]; exact tb_clear rfl
theorem tappend_38 {d B cnt : Nat} {kp : Value} {ρ : pm_S} {S : FS} {x : Int32} {R : Int32 × FS} (hdd : 1 ≤ d) (hE : fApp 38 20 1 S x = some R) : pm_met mX9_append d 0 0 B [.ref (B + 38), .int x] cnt (cst B kp S ρ) (pm_Qi (fun v σ' cnt' => v = R.1 ∧ σ' = (cst B kp R.2 ρ) ∧ cnt' = cnt)) := by
  obtain ⟨u, hu, hE⟩ := fb_some hE
  obtain ⟨hu1, hu2⟩ := iN_in (by decide) hu
  have ht : cst B kp S ρ 38 = some (.inr (9, [.int (nI 20), .int (nI 1), .ref (B + 39), .int (nI u)])) := by rw [← hu2]; rfl
  by_cases c : u = 20
  · rw [if_pos c] at hE
    obtain rfl := Option.some.inj hE
    exact tb_appF hdd ht rfl (by decide) (by decide) (by decide) (by decide) (by decide) (by decide) (by omega) hu1
  · rw [if_neg c] at hE
    obtain rfl := Option.some.inj hE
    have e2 : cst B kp (ui S.1 38 (nI (u + 1)), ua S.2 39 (pm_apf 1 u x (S.2 39))) ρ = pm_up (pm_up (cst B kp S ρ) 38 (.inr (9, [.int (nI 20), .int (nI 1), .ref (B + 39), .int (nI (u + 1))]))) 39 (.inl (20, pm_apf 1 u x (S.2 39))) := by
      rw [pm_two_up (by decide) (Nat.le_of_ble_eq_true rfl), pm_two_up (by decide) (Nat.le_of_ble_eq_true rfl)]; rfl
    show pm_met mX9_append d 0 0 B [.ref (B + 38), .int x] cnt (cst B kp S ρ) (pm_Qi (fun v σ' cnt' => v = nI u ∧ σ' = (cst B kp (ui S.1 38 (nI (u + 1)), ua S.2 39 (pm_apf 1 u x (S.2 39))) ρ) ∧ cnt' = cnt))
    rw [e2]
    exact tb_appN hdd ht rfl (by decide) (by decide) (by decide) (by decide) (by decide) (by decide) (by omega)
theorem trowsWith_38 {d B cnt : Nat} {kp : Value} {ρ : pm_S} {S : FS} {k : Nat} {x y : Int32} {R : Int32} (hk : k < 1) (hy : y = nI k) (hE : qRows 38 20 1 S k x = some R) : pm_met mX9_rowsWith d 0 0 B [.ref (B + 38), .int y, .int x] cnt (cst B kp S ρ) (pm_Qi (fun v σ' cnt' => v = R ∧ σ' = (cst B kp S ρ) ∧ cnt' = cnt)) := by
  subst hy
  obtain ⟨u, hu, hE⟩ := fb_some hE
  obtain ⟨hu1, hu2⟩ := iN_in (by decide) hu
  have ht : cst B kp S ρ 38 = some (.inr (9, [.int (nI 20), .int (nI 1), .ref (B + 39), .int (nI u)])) := by rw [← hu2]; rfl
  obtain rfl := Option.some.inj hE
  exact tb_rowsWith ht rfl (by decide) (by decide) (by decide) hu1 (by omega) hk
theorem tsumOf_38 {d B cnt : Nat} {kp : Value} {ρ : pm_S} {S : FS} {k : Nat} {y : Int32} {R : Int32} (hdd : 1 ≤ d) (hk : k < 1) (hy : y = nI k) (hE : qSum 38 20 1 S k = some R) : pm_met mX9_sumOf d 0 0 B [.ref (B + 38), .int y] cnt (cst B kp S ρ) (pm_Qi (fun v σ' cnt' => v = R ∧ σ' = (cst B kp S ρ) ∧ cnt' = cnt)) := by
  subst hy
  obtain ⟨u, hu, hE⟩ := fb_some hE
  obtain ⟨hu1, hu2⟩ := iN_in (by decide) hu
  have ht : cst B kp S ρ 38 = some (.inr (9, [.int (nI 20), .int (nI 1), .ref (B + 39), .int (nI u)])) := by rw [← hu2]; rfl
  obtain rfl := Option.some.inj hE
  exact tb_sumE hdd (by decide) (by decide) (by decide) hu1 hk ht rfl (pm_tw_of 20 1 (by decide) (by decide) (by decide)) (by omega)
theorem thas_51 {d B cnt : Nat} {kp : Value} {ρ : pm_S} {S : FS} {row : Int32} : pm_met mX9_has d 0 0 B [.ref (B + 51), .int row] cnt (cst B kp S ρ) (pm_Qi (fun v σ' cnt' => v = fHas 51 S row ∧ σ' = (cst B kp S ρ) ∧ cnt' = cnt)) := tb_has rfl
theorem tused_51 {d B cnt : Nat} {kp : Value} {ρ : pm_S} {S : FS} : pm_met mX9_used d 0 0 B [.ref (B + 51)] cnt (cst B kp S ρ) (pm_Qi (fun v σ' cnt' => v = S.1 51 ∧ σ' = (cst B kp S ρ) ∧ cnt' = cnt)) := tb_used rfl
theorem tisFull_51 {d B cnt : Nat} {kp : Value} {ρ : pm_S} {S : FS} : pm_met mX9_isFull d 0 0 B [.ref (B + 51)] cnt (cst B kp S ρ) (pm_Qi (fun v σ' cnt' => v = fFull 51 4 S ∧ σ' = (cst B kp S ρ) ∧ cnt' = cnt)) := tb_isFull rfl
theorem tget_51 {d B cnt : Nat} {kp : Value} {ρ : pm_S} {S : FS} {row col : Int32} : pm_met mX9_get d 0 0 B [.ref (B + 51), .int row, .int col] cnt (cst B kp S ρ) (pm_Qi (fun v σ' cnt' => v = fG 51 4 24 S row col ∧ σ' = (cst B kp S ρ) ∧ cnt' = cnt)) := tb_get rfl rfl (pm_tw_of 4 24 (by decide) (by decide) (by decide))
theorem tup_51 {B : Nat} {kp : Value} {ρ : pm_S} {S : FS} {row col x : Int32} : pm_up (cst B kp S ρ) 52 (.inl (96, pm_ts (nI 4) (nI 24) (S.2 52) row col x)) = cst B kp (fP 51 4 24 S row col x) ρ := pm_two_up (by decide) (Nat.le_of_ble_eq_true rfl)
theorem tset_51 {d B cnt : Nat} {kp : Value} {ρ : pm_S} {S : FS} {row col x : Int32} : pm_met mX9_set d 0 0 B [.ref (B + 51), .int row, .int col, .int x] cnt (cst B kp S ρ) (pm_Qv (fun σ' cnt' => σ' = (cst B kp (fP 51 4 24 S row col x) ρ) ∧ cnt' = cnt)) := by
  rw [← tup_51]; exact tb_set rfl rfl (pm_tw_of 4 24 (by decide) (by decide) (by decide)) (by decide)
theorem tadd_51 {d B cnt : Nat} {kp : Value} {ρ : pm_S} {S : FS} {row col x : Int32} (hdd : 1 ≤ d) : pm_met mX9_add d 0 0 B [.ref (B + 51), .int row, .int col, .int x] cnt (cst B kp S ρ) (pm_Qv (fun σ' cnt' => σ' = (cst B kp (fP 51 4 24 S row col (fG 51 4 24 S row col + x)) ρ) ∧ cnt' = cnt)) := by
  rw [← tup_51]; exact tb_add hdd rfl rfl (pm_tw_of 4 24 (by decide) (by decide) (by decide)) (by decide)
theorem tswap_51 {d B cnt : Nat} {kp : Value} {ρ : pm_S} {S : FS} {row col x : Int32} (hdd : 1 ≤ d) : pm_met mX9_swap d 0 0 B [.ref (B + 51), .int row, .int col, .int x] cnt (cst B kp S ρ) (pm_Qi (fun v σ' cnt' => v = fG 51 4 24 S row col ∧ σ' = (cst B kp (fP 51 4 24 S row col x) ρ) ∧ cnt' = cnt)) := by
  rw [← tup_51]; exact tb_swap hdd rfl rfl (pm_tw_of 4 24 (by decide) (by decide) (by decide)) (by decide)
theorem tclear_51 {d B cnt : Nat} {kp : Value} {ρ : pm_S} {S : FS} : pm_met mX9_clear d 0 0 B [.ref (B + 51)] cnt (cst B kp S ρ) (pm_Qv (fun σ' cnt' => σ' = (cst B kp (wI S 51 0) ρ) ∧ cnt' = cnt)) := by
  rw [← (show pm_up (cst B kp S ρ) 51 (.inr (9, [.int 4, .int 24, .ref (B + 52), .int 0])) = cst B kp (wI S 51 0) ρ from pm_two_up (by decide) (Nat.le_of_ble_eq_true rfl))]; exact tb_clear rfl
theorem tappend_51 {d B cnt : Nat} {kp : Value} {ρ : pm_S} {S : FS} {x : Int32} {R : Int32 × FS} (hdd : 1 ≤ d) (hE : fApp 51 4 24 S x = some R) : pm_met mX9_append d 0 0 B [.ref (B + 51), .int x] cnt (cst B kp S ρ) (pm_Qi (fun v σ' cnt' => v = R.1 ∧ σ' = (cst B kp R.2 ρ) ∧ cnt' = cnt)) := by
  obtain ⟨u, hu, hE⟩ := fb_some hE
  obtain ⟨hu1, hu2⟩ := iN_in (by decide) hu
  have ht : cst B kp S ρ 51 = some (.inr (9, [.int (nI 4), .int (nI 24), .ref (B + 52), .int (nI u)])) := by rw [← hu2]; rfl
  by_cases c : u = 4
  · rw [if_pos c] at hE
    obtain rfl := Option.some.inj hE
    exact tb_appF hdd ht rfl (by decide) (by decide) (by decide) (by decide) (by decide) (by decide) (by omega) hu1
  · rw [if_neg c] at hE
    obtain rfl := Option.some.inj hE
    have e2 : cst B kp (ui S.1 51 (nI (u + 1)), ua S.2 52 (pm_apf 24 u x (S.2 52))) ρ = pm_up (pm_up (cst B kp S ρ) 51 (.inr (9, [.int (nI 4), .int (nI 24), .ref (B + 52), .int (nI (u + 1))]))) 52 (.inl (96, pm_apf 24 u x (S.2 52))) := by
      rw [pm_two_up (by decide) (Nat.le_of_ble_eq_true rfl), pm_two_up (by decide) (Nat.le_of_ble_eq_true rfl)]; rfl
    show pm_met mX9_append d 0 0 B [.ref (B + 51), .int x] cnt (cst B kp S ρ) (pm_Qi (fun v σ' cnt' => v = nI u ∧ σ' = (cst B kp (ui S.1 51 (nI (u + 1)), ua S.2 52 (pm_apf 24 u x (S.2 52))) ρ) ∧ cnt' = cnt))
    rw [e2]
    exact tb_appN hdd ht rfl (by decide) (by decide) (by decide) (by decide) (by decide) (by decide) (by omega)
theorem trowsWith_51 {d B cnt : Nat} {kp : Value} {ρ : pm_S} {S : FS} {k : Nat} {x y : Int32} {R : Int32} (hk : k < 24) (hy : y = nI k) (hE : qRows 51 4 24 S k x = some R) : pm_met mX9_rowsWith d 0 0 B [.ref (B + 51), .int y, .int x] cnt (cst B kp S ρ) (pm_Qi (fun v σ' cnt' => v = R ∧ σ' = (cst B kp S ρ) ∧ cnt' = cnt)) := by
  subst hy
  obtain ⟨u, hu, hE⟩ := fb_some hE
  obtain ⟨hu1, hu2⟩ := iN_in (by decide) hu
  have ht : cst B kp S ρ 51 = some (.inr (9, [.int (nI 4), .int (nI 24), .ref (B + 52), .int (nI u)])) := by rw [← hu2]; rfl
  obtain rfl := Option.some.inj hE
  exact tb_rowsWith ht rfl (by decide) (by decide) (by decide) hu1 (by omega) hk
theorem tsumOf_51 {d B cnt : Nat} {kp : Value} {ρ : pm_S} {S : FS} {k : Nat} {y : Int32} {R : Int32} (hdd : 1 ≤ d) (hk : k < 24) (hy : y = nI k) (hE : qSum 51 4 24 S k = some R) : pm_met mX9_sumOf d 0 0 B [.ref (B + 51), .int y] cnt (cst B kp S ρ) (pm_Qi (fun v σ' cnt' => v = R ∧ σ' = (cst B kp S ρ) ∧ cnt' = cnt)) := by
  subst hy
  obtain ⟨u, hu, hE⟩ := fb_some hE
  obtain ⟨hu1, hu2⟩ := iN_in (by decide) hu
  have ht : cst B kp S ρ 51 = some (.inr (9, [.int (nI 4), .int (nI 24), .ref (B + 52), .int (nI u)])) := by rw [← hu2]; rfl
  obtain rfl := Option.some.inj hE
  exact tb_sumE hdd (by decide) (by decide) (by decide) hu1 hk ht rfl (pm_tw_of 4 24 (by decide) (by decide) (by decide)) (by omega)
theorem ttransfer_51 {d B cnt : Nat} {kp : Value} {ρ : pm_S} {S : FS} {ra fr rb to k : Int32} (hdd : 1 ≤ d) : pm_met mX9_transfer d 0 0 B [.ref (B + 51), .int ra, .int fr, .int rb, .int to, .int k] cnt (cst B kp S ρ) (pm_Qv (fun σ' cnt' => σ' = (cst B kp (fTrans 51 4 24 S ra fr rb to k) ρ) ∧ cnt' = cnt)) := by
  rw [← (show pm_up (cst B kp S ρ) 52 (.inl (4 * 24, fTr 4 24 (S.2 52) ra fr rb to k)) = cst B kp (fTrans 51 4 24 S ra fr rb to k) ρ from pm_two_up (by decide) (Nat.le_of_ble_eq_true rfl))]; exact tb_transferE hdd rfl rfl (by decide) (by decide) (by decide) (by decide)
theorem tfill_43 {d B cnt : Nat} {kp : Value} {ρ : pm_S} {S : FS} {v : Int32} : pm_met mJ7_fill_53178 d 0 0 B [.ref (B + 43), .int v] cnt (cst B kp S ρ) (pm_Qv (fun σ' cnt' => σ' = (cst B kp (fFill 43 64 S v) ρ) ∧ cnt' = cnt)) := by
  rw [← (show pm_up (cst B kp S ρ) 43 (.inl (64, fun j => if j < 64 then v else S.2 43 j)) = cst B kp (fFill 43 64 S v) ρ from pm_two_up (by decide) (Nat.le_of_ble_eq_true rfl))]; exact sx_fillE rfl (by decide)
