/-! ===== methods as functions: states, tools (pure) ===== -/
abbrev FS : Type := (Nat → Int32) × (Nat → Nat → Int32)
def ui (I : Nat → Int32) (k : Nat) (v : Int32) : Nat → Int32 := fun j => if j = k then v else I j
def ua (A : Nat → Nat → Int32) (k : Nat) (g : Nat → Int32) : Nat → Nat → Int32 := fun j => if j = k then g else A j
theorem ui_ne {I : Nat → Int32} {k j : Nat} {v : Int32} (h : j ≠ k) : ui I k v j = I j := if_neg h
theorem ui_eq {I : Nat → Int32} {k : Nat} {v : Int32} : ui I k v k = v := if_pos rfl
theorem ua_ne {A : Nat → Nat → Int32} {k j : Nat} {g : Nat → Int32} (h : j ≠ k) : ua A k g j = A j := if_neg h
theorem ua_eq {A : Nat → Nat → Int32} {k : Nat} {g : Nat → Int32} : ua A k g k = g := if_pos rfl
def wI (S : FS) (k : Nat) (v : Int32) : FS := (ui S.1 k v, S.2)
def wA (S : FS) (a j : Nat) (v : Int32) : FS := (S.1, ua S.2 a (upd (S.2 a) j v))
def fb {α β : Type} (x : Option α) (k : α → Option β) : Option β := match x with
  | none => none
  | some r => k r
def fl {β : Type} (x : FS) (k : FS → β) : β := k x
def fv {β : Type} (x : Int32) (k : Int32 → β) : β := k x
def fw {β : Type} (x : Nat → Int32) (k : (Nat → Int32) → β) : β := k x
theorem fb_some {α β : Type} {x : Option α} {k : α → Option β} {y : β} (h : fb x k = some y) : ∃ r : α, x = some r ∧ k r = some y := by
  cases x with
  | none => cases h
  | some r => exact ⟨r, rfl, h⟩
def ix (n : Nat) (i : Int32) : Option Nat := if i < 0 ∨ n ≤ i.toNatClampNeg then none else some i.toNatClampNeg
theorem ix_in {n j : Nat} {i : Int32} (h : ix n i = some j) : ¬ (i < 0 ∨ n ≤ i.toNatClampNeg) ∧ i.toNatClampNeg = j := by
  unfold ix at h
  split at h
  · cases h
  · next q => exact ⟨q, Option.some.inj h⟩
theorem ix_lit {n j : Nat} {i : Int32} (h : ¬ (i < 0 ∨ n ≤ i.toNatClampNeg)) (e : i.toNatClampNeg = j) : ix n i = some j := by
  unfold ix
  rw [if_neg h, e]
theorem ix_nI {n k : Nat} (h : k < n) (hn : n ≤ 2 ^ 31) : ix n (nI k) = some k := by
  unfold ix
  rw [nI_clamp (by omega), if_neg]
  rintro (q | q)
  · exact nI_pos (by omega) q
  · omega
def bz (v : Int32) : Option Int32 := if v = 0 ∨ v = 1 then some v else none
theorem bz_in {v b : Int32} (h : bz v = some b) : (v = 0 ∨ v = 1) ∧ v = b := by
  unfold bz at h
  split at h
  · next q => exact ⟨q, Option.some.inj h⟩
  · cases h
theorem bz_0 : bz 0 = some 0 := rfl
theorem bz_1 : bz 1 = some 1 := rfl
def nz (v : Int32) : Option Unit := if v = 0 then none else some ()
theorem nz_n {v : Int32} {u : Unit} (h : nz v = some u) : ¬ v = 0 := by
  unfold nz at h
  split at h
  · cases h
  · next q => exact q
def imin (x y : Int32) : Int32 := if y < x then y else x
def imax (x y : Int32) : Int32 := if x < y then y else x
def FU : Nat := 5000
theorem fx_t {α : Type} {c : Prop} [Decidable c] {a b y : α} (h : c) (e : (if c then a else b) = y) : a = y := (if_pos h).symm.trans e
theorem fx_f {α : Type} {c : Prop} [Decidable c] {a b y : α} (h : ¬ c) (e : (if c then a else b) = y) : b = y := (if_neg h).symm.trans e
theorem fx_no {α : Type} {R : α} {p : Prop} (h : none = some R) : p := nomatch h
def fHas (a : Nat) (S : FS) (row : Int32) : Int32 := if row < 0 ∨ S.1 a ≤ row then 0 else 1
def fFull (a R : Nat) (S : FS) : Int32 := if S.1 a < nI R then 0 else 1
def fOut (x a b : Int32) : Int32 := if x < a ∨ b < x then 1 else 0
/-! ===== Table: more contracts (general states) ===== -/
theorem pm_ts_in {R W u k : Nat} {f : Nat → Int32} {x : Int32} (hR : R < 2 ^ 31) (hW : W < 2 ^ 31) (hn : R * W < 2 ^ 31) (hu : u < R) (hk : k < W) : pm_ts (nI R) (nI W) f (nI u) (nI k) x = upd f (u * W + k) x := by
  unfold pm_ts
  rw [if_neg]
  · rw [pk_mul, nI_add, nI_clamp]
    have h5 : (u + 1) * W ≤ R * W := Nat.mul_le_mul_right W hu
    rw [Nat.succ_mul] at h5
    omega
  · rintro (h | h | h | h)
    · exact nI_pos (by omega) h
    · exact nI_ge hu hR h
    · exact nI_pos (by omega) h
    · exact nI_ge hk hW h
theorem pm_tg_in {R W u k : Nat} {f : Nat → Int32} (hR : R < 2 ^ 31) (hW : W < 2 ^ 31) (hn : R * W < 2 ^ 31) (hu : u < R) (hk : k < W) : pm_tg (nI R) (nI W) f (nI u) (nI k) = f (u * W + k) := by
  unfold pm_tg
  rw [if_neg]
  · rw [pk_mul, nI_add, nI_clamp]
    have h5 : (u + 1) * W ≤ R * W := Nat.mul_le_mul_right W hu
    rw [Nat.succ_mul] at h5
    omega
  · rintro (h | h | h | h)
    · exact nI_pos (by omega) h
    · exact nI_ge hu hR h
    · exact nI_pos (by omega) h
    · exact nI_ge hk hW h
/-- a row that comes: its first number x, all others 0 -/
def pm_apf (W u : Nat) (x : Int32) (f : Nat → Int32) : Nat → Int32 := fun j => if u * W ≤ j ∧ j < u * W + W then (if j = u * W then x else 0) else f j
def pm_apz (W u k : Nat) (f : Nat → Int32) : Nat → Int32 := fun j => if u * W + 1 ≤ j ∧ j < u * W + k then 0 else f j
theorem pm_apz_1 (W u : Nat) (f : Nat → Int32) : pm_apz W u 1 f = f := by
  funext j; unfold pm_apz; rw [if_neg (by omega)]
theorem pm_apz_s {W u k : Nat} (f : Nat → Int32) (hk : 1 ≤ k) : upd (pm_apz W u k f) (u * W + k) 0 = pm_apz W u (k + 1) f := by
  funext j
  unfold pm_apz upd
  by_cases h : j = u * W + k
  · rw [if_pos h, if_pos (by omega)]
  · rw [if_neg h]; dsimp only
    by_cases h2 : u * W + 1 ≤ j ∧ j < u * W + k
    · rw [if_pos h2, if_pos (by omega)]
    · rw [if_neg h2, if_neg (by omega)]
theorem pm_apz_e {W u : Nat} (f : Nat → Int32) (x : Int32) (hW : 1 ≤ W) : upd (pm_apz W u W f) (u * W + 0) x = pm_apf W u x f := by
  funext j
  unfold pm_apz pm_apf upd
  by_cases h : j = u * W + 0
  · rw [if_pos h, if_pos (by omega), if_pos (by omega)]
  · rw [if_neg h]; dsimp only
    by_cases h2 : u * W + 1 ≤ j ∧ j < u * W + W
    · rw [if_pos h2, if_pos (by omega), if_neg (by omega)]
    · rw [if_neg h2, if_neg (by omega)]
def pm_cnt (p : Nat → Bool) : Nat → Nat
  | 0 => 0
  | n + 1 => pm_cnt p n + (if p n then 1 else 0)
theorem pm_cnt_le (p : Nat → Bool) : ∀ n, pm_cnt p n ≤ n
  | 0 => Nat.le_refl _
  | n + 1 => by
    have h := pm_cnt_le p n
    unfold pm_cnt
    split <;> omega
set_option maxRecDepth 100000 in
theorem tb_appN {d B cnt t c n R W u : Nat} {σ : pm_S} {f : Nat → Int32} {x : Int32} (hdd : 1 ≤ d) (ht : σ t = some (.inr (9, [.int (nI R), .int (nI W), .ref (B + c), .int (nI u)]))) (hc : σ c = some (.inl (n, f))) (htc : t ≠ c) (hR : R < 2 ^ 31) (hW : W < 2 ^ 31) (hW1 : 1 ≤ W) (hn : R * W = n) (hn2 : n < 2 ^ 31) (huR : u < R) :
    pm_met mX9_append d 0 0 B [.ref (B + t), .int x] cnt σ (pm_Qi (fun v σ' cnt' => v = nI u ∧ σ' = pm_up (pm_up σ t (.inr (9, [.int (nI R), .int (nI W), .ref (B + c), .int (nI (u + 1))]))) c (.inl (n, pm_apf W u x f)) ∧ cnt' = cnt)) := by
  have hb : pm_tw (nI R) (nI W) n := by rw [← hn]; exact pm_tw_of R W (by omega) hR hW
  refine pm_enter 2 (by decide) (Nat.le_of_ble_eq_true rfl) rfl (fun G hG hR' hF => ?_)
  refine pm_aloadn hG dX9_append_0 rfl ?_
  refine pm_callV (As := []) (rest := []) hG hR' dX9_append_1 (lkX9_39 _ rfl) okV_X9_isFull ht rfl (tb_isFull (d := 0) ht) rfl rfl hdd (Nat.le_refl _) (Nat.le_refl _) (by decide) (pm_ki (fun v σ' cnt' hq => ?_))
  obtain ⟨rfl, e1, e2⟩ := hq
  rw [e1, e2]
  clear e1 e2 σ' cnt'
  refine pm_top (v := 0) (if_pos (nI_lt huR hR)) ?_
  refine pm_if_eq (tgt := 9) hG dX9_append_4 rfl (fun _ => ?_) (fun q => absurd rfl q)
  refine pm_aloadn hG dX9_append_9 rfl ?_
  refine pm_getf hG dX9_append_10 (flX9_29 _ rfl) ht rfl ?_
  refine pm_istoreXn (loc' := [some (.ref (B + t)), some (.int x), some (.int (nI u)), none]) hG dX9_append_13 (Nat.le_of_ble_eq_true rfl) (pm_c1b rfl) rfl ?_
  refine pm_aloadn hG dX9_append_14 rfl ?_
  refine pm_dup hG dX9_append_15 rfl ?_
  refine pm_getf hG dX9_append_16 (flX9_29 _ rfl) ht rfl ?_
  refine pm_iconst (v := 1) hG dX9_append_19 (by decide) ?_
  refine pm_iadd hG dX9_append_20 ?_
  refine pm_top (v := nI (u + 1)) (nI_1 u) ?_
  refine pm_putf hG dX9_append_21 (fwX9_29 _ rfl) ht rfl rfl ?_
  refine pm_iconst (v := 1) hG dX9_append_24 (by decide) ?_
  refine pm_istoreXn (loc' := [some (.ref (B + t)), some (.int x), some (.int (nI u)), some (.int (nI 1))]) hG dX9_append_25 (Nat.le_of_ble_eq_true rfl) (pm_c1b rfl) rfl ?_
  have ht1 : ∀ g : Nat → Int32, pm_up (pm_up σ t (.inr (9, [.int (nI R), .int (nI W), .ref (B + c), .int (nI (u + 1))]))) c (.inl (n, g)) t = some (.inr (9, [.int (nI R), .int (nI W), .ref (B + c), .int (nI (u + 1))])) := fun g => (pm_up_ne _ _ htc).trans (pm_up_same _ _ _)
  have loop : ∀ (m k : Nat), 1 ≤ k → k ≤ W → W - k = m → pm_wp mX9_append G B 26 [some (.ref (B + t)), some (.int x), some (.int (nI u)), some (.int (nI k))] [] 0 0 cnt (pm_up (pm_up σ t (.inr (9, [.int (nI R), .int (nI W), .ref (B + c), .int (nI (u + 1))]))) c (.inl (n, pm_apz W u k f))) := by
    intro m
    induction m with
    | zero =>
      intro k hk1 hk hm
      obtain rfl : k = W := by omega
      refine pm_iloadn hG dX9_append_26 rfl ?_
      refine pm_aloadn hG dX9_append_27 rfl ?_
      refine pm_getf hG dX9_append_28 (flX9_22 _ rfl) (ht1 _) rfl ?_
      refine pm_icmp_ge (tgt := 47) hG dX9_append_31 rfl (fun _ => ?_) (fun q => absurd (nI_le (Nat.le_refl _) (by omega)) q)
      refine pm_aloadn hG dX9_append_47 rfl ?_
      refine pm_iloadn hG dX9_append_48 rfl ?_
      refine pm_iconst (v := 0) hG dX9_append_49 (by decide) ?_
      refine pm_iloadn hG dX9_append_50 rfl ?_
      refine pm_callV (As := [.int (nI u), .int (nI 0), .int x]) (rest := []) hG hR' dX9_append_51 (lkX9_35 _ rfl) okV_X9_set (ht1 _) rfl (tb_set (d := 0) (ht1 _) (pm_up_same _ _ _) hb htc) rfl rfl hdd (Nat.le_refl _) (Nat.le_refl _) (by decide) (pm_kv (fun σ' cnt' hq => ?_))
      obtain ⟨rfl, rfl⟩ := hq
      refine pm_iloadn hG dX9_append_54 rfl ?_
      refine pm_iret hG hF dX9_append_55 rfl (Nat.le_refl _) (Nat.le_refl _) ⟨_, rfl, rfl, ?_, rfl⟩
      rw [pm_up_up, pm_ts_in hR hW (by omega) huR (by omega), pm_apz_e f x hW1]
    | succ m ih =>
      intro k hk1 hk hm
      refine pm_iloadn hG dX9_append_26 rfl ?_
      refine pm_aloadn hG dX9_append_27 rfl ?_
      refine pm_getf hG dX9_append_28 (flX9_22 _ rfl) (ht1 _) rfl ?_
      refine pm_icmp_ge (tgt := 47) hG dX9_append_31 rfl (fun q => absurd q (nI_ge (by omega) (by omega))) (fun _ => ?_)
      refine pm_aloadn hG dX9_append_34 rfl ?_
      refine pm_iloadn hG dX9_append_35 rfl ?_
      refine pm_iloadn hG dX9_append_36 rfl ?_
      refine pm_iconst (v := 0) hG dX9_append_37 (by decide) ?_
      refine pm_callV (As := [.int (nI u), .int (nI k), .int 0]) (rest := []) hG hR' dX9_append_38 (lkX9_35 _ rfl) okV_X9_set (ht1 _) rfl (tb_set (d := 0) (ht1 _) (pm_up_same _ _ _) hb htc) rfl rfl hdd (Nat.le_refl _) (Nat.le_refl _) (by decide) (pm_kv (fun σ' cnt' hq => ?_))
      obtain ⟨rfl, rfl⟩ := hq
      refine pm_iincX (v := nI (k + 1)) (loc' := [some (.ref (B + t)), some (.int x), some (.int (nI u)), some (.int (nI (k + 1)))]) hG dX9_append_41 rfl (nI_1 k) (Nat.le_of_ble_eq_true rfl) (pm_c1b rfl) rfl ?_
      refine pm_goto (tgt := 26) hG dX9_append_44 rfl ?_
      rw [pm_up_up, pm_ts_in hR hW (by omega) huR (by omega), pm_apz_s f hk1]
      exact ih (k + 1) (by omega) (by omega) (by omega)
  have h0 := loop (W - 1) 1 (Nat.le_refl _) hW1 rfl
  rw [pm_apz_1] at h0
  rw [pm_up_id (k := c) (x := .inl (n, f)) ((pm_up_ne _ _ htc.symm).trans hc)] at h0
  exact h0
set_option maxRecDepth 100000 in
theorem tb_appF {d B cnt t c n R W u : Nat} {σ : pm_S} {f : Nat → Int32} {x : Int32} (hdd : 1 ≤ d) (ht : σ t = some (.inr (9, [.int (nI R), .int (nI W), .ref (B + c), .int (nI u)]))) (hc : σ c = some (.inl (n, f))) (htc : t ≠ c) (hR : R < 2 ^ 31) (hW : W < 2 ^ 31) (hW1 : 1 ≤ W) (hn : R * W = n) (hn2 : n < 2 ^ 31) (huR : R ≤ u) (hu : u ≤ R) :
    pm_met mX9_append d 0 0 B [.ref (B + t), .int x] cnt σ (pm_Qi (fun v σ' cnt' => v = -1 ∧ σ' = σ ∧ cnt' = cnt)) := by
  have hb : pm_tw (nI R) (nI W) n := by rw [← hn]; exact pm_tw_of R W (by omega) hR hW
  refine pm_enter 2 (by decide) (Nat.le_of_ble_eq_true rfl) rfl (fun G hG hR' hF => ?_)
  refine pm_aloadn hG dX9_append_0 rfl ?_
  refine pm_callV (As := []) (rest := []) hG hR' dX9_append_1 (lkX9_39 _ rfl) okV_X9_isFull ht rfl (tb_isFull (d := 0) ht) rfl rfl hdd (Nat.le_refl _) (Nat.le_refl _) (by decide) (pm_ki (fun v σ' cnt' hq => ?_))
  obtain ⟨rfl, e1, e2⟩ := hq
  rw [e1, e2]
  clear e1 e2 σ' cnt'
  refine pm_top (v := 1) (if_neg (nI_nlt huR (by omega))) ?_
  refine pm_if_eq (tgt := 9) hG dX9_append_4 rfl (fun q => absurd q (by decide)) (fun _ => ?_)
  refine pm_iconst (v := -1) hG dX9_append_7 (by decide) ?_
  exact pm_iret hG hF dX9_append_8 rfl (Nat.le_refl _) (Nat.le_refl _) ⟨_, rfl, rfl, rfl, rfl⟩
set_option maxRecDepth 100000 in
theorem tb_rowsWith {d B cnt t c n R W u k : Nat} {σ : pm_S} {f : Nat → Int32} {x : Int32} (ht : σ t = some (.inr (9, [.int (nI R), .int (nI W), .ref (B + c), .int (nI u)]))) (hc : σ c = some (.inl (n, f))) (hW : W < 2 ^ 31) (hn : R * W = n) (hn2 : n < 2 ^ 31) (hu : u ≤ R) (hu2 : u < 2 ^ 31) (hk : k < W) :
    pm_met mX9_rowsWith d 0 0 B [.ref (B + t), .int (nI k), .int x] cnt σ (pm_Qi (fun v σ' cnt' => v = nI (pm_cnt (fun r => f (r * W + k) == x) u) ∧ σ' = σ ∧ cnt' = cnt)) := by
  refine pm_enter 2 (by decide) (Nat.le_of_ble_eq_true rfl) rfl (fun G hG hR' hF => ?_)
  refine pm_iconst (v := 0) hG dX9_rowsWith_0 (by decide) ?_
  refine pm_istoreXn (loc' := [some (.ref (B + t)), some (.int (nI k)), some (.int x), some (.int (nI 0)), none]) hG dX9_rowsWith_1 (Nat.le_of_ble_eq_true rfl) (pm_c1b rfl) rfl ?_
  refine pm_iconst (v := 0) hG dX9_rowsWith_2 (by decide) ?_
  refine pm_istoreXi (loc' := [some (.ref (B + t)), some (.int (nI k)), some (.int x), some (.int (nI 0)), some (.int (nI 0))]) hG dX9_rowsWith_3 (Nat.le_of_ble_eq_true rfl) (pm_c1b rfl) rfl ?_
  have loop : ∀ (m i : Nat), i ≤ u → u - i = m → pm_wp mX9_rowsWith G B 5 [some (.ref (B + t)), some (.int (nI k)), some (.int x), some (.int (nI (pm_cnt (fun r => f (r * W + k) == x) i))), some (.int (nI i))] [] 0 0 cnt σ := by
    intro m
    induction m with
    | zero =>
      intro i hi hm
      obtain rfl : i = u := by omega
      refine pm_iloadi hG dX9_rowsWith_5 rfl ?_
      refine pm_aloadn hG dX9_rowsWith_7 rfl ?_
      refine pm_getf hG dX9_rowsWith_8 (flX9_29 _ rfl) ht rfl ?_
      refine pm_icmp_ge (tgt := 53) hG dX9_rowsWith_11 rfl (fun _ => ?_) (fun q => absurd (nI_le (Nat.le_refl _) (by omega)) q)
      refine pm_iloadn hG dX9_rowsWith_53 rfl ?_
      exact pm_iret hG hF dX9_rowsWith_54 rfl (Nat.le_refl _) (Nat.le_refl _) ⟨_, rfl, rfl, rfl, rfl⟩
    | succ m ih =>
      intro i hi hm
      have hlt : i * W + k < n := by
        have h5 : (i + 1) * W ≤ R * W := Nat.mul_le_mul_right W (by omega)
        rw [Nat.succ_mul] at h5
        omega
      refine pm_iloadi hG dX9_rowsWith_5 rfl ?_
      refine pm_aloadn hG dX9_rowsWith_7 rfl ?_
      refine pm_getf hG dX9_rowsWith_8 (flX9_29 _ rfl) ht rfl ?_
      refine pm_icmp_ge (tgt := 53) hG dX9_rowsWith_11 rfl (fun q => absurd q (nI_ge (by omega) (by omega))) (fun _ => ?_)
      refine pm_iloadn hG dX9_rowsWith_14 rfl ?_
      refine pm_if_lt (tgt := 53) hG dX9_rowsWith_15 rfl (fun q => absurd q (nI_pos (by omega))) (fun _ => ?_)
      refine pm_iloadn hG dX9_rowsWith_18 rfl ?_
      refine pm_aloadn hG dX9_rowsWith_19 rfl ?_
      refine pm_getf hG dX9_rowsWith_20 (flX9_22 _ rfl) ht rfl ?_
      refine pm_icmp_ge (tgt := 53) hG dX9_rowsWith_23 rfl (fun q => absurd q (nI_ge hk hW)) (fun _ => ?_)
      refine pm_aloadn hG dX9_rowsWith_26 rfl ?_
      refine pm_getf hG dX9_rowsWith_27 (flX9_25 _ rfl) ht rfl ?_
      refine pm_iloadi hG dX9_rowsWith_30 rfl ?_
      refine pm_aloadn hG dX9_rowsWith_32 rfl ?_
      refine pm_getf hG dX9_rowsWith_33 (flX9_22 _ rfl) ht rfl ?_
      refine pm_imul hG dX9_rowsWith_36 ?_
      refine pm_iloadn hG dX9_rowsWith_37 rfl ?_
      refine pm_iadd hG dX9_rowsWith_38 ?_
      refine pm_top (v := nI (i * W + k)) (by rw [pk_mul, nI_add]) ?_
      refine pm_ialdX (v := f (i * W + k)) hG dX9_rowsWith_39 hc (vp_in_nI hlt hn2) (by rw [nI_clamp (by omega)]) ?_
      refine pm_iloadn hG dX9_rowsWith_40 rfl ?_
      refine pm_icmp_ne (tgt := 47) hG dX9_rowsWith_41 rfl (fun q => ?_) (fun q => ?_)
      · refine pm_iincX (v := nI (i + 1)) (loc' := [some (.ref (B + t)), some (.int (nI k)), some (.int x), some (.int (nI (pm_cnt (fun r => f (r * W + k) == x) i))), some (.int (nI (i + 1)))]) hG dX9_rowsWith_47 rfl (nI_1 i) (Nat.le_of_ble_eq_true rfl) (pm_c1b rfl) rfl ?_
        refine pm_goto (tgt := 5) hG dX9_rowsWith_50 rfl ?_
        have h0 := ih (i + 1) (by omega) (by omega)
        rw [show pm_cnt (fun r => f (r * W + k) == x) (i + 1) = pm_cnt (fun r => f (r * W + k) == x) i by rw [pm_cnt, if_neg (by simpa using q), Nat.add_zero]] at h0
        exact h0
      · refine pm_iincX (v := nI (pm_cnt (fun r => f (r * W + k) == x) i + 1)) (loc' := [some (.ref (B + t)), some (.int (nI k)), some (.int x), some (.int (nI (pm_cnt (fun r => f (r * W + k) == x) i + 1))), some (.int (nI i))]) hG dX9_rowsWith_44 rfl (nI_1 _) (Nat.le_of_ble_eq_true rfl) (pm_c1b rfl) rfl ?_
        refine pm_iincX (v := nI (i + 1)) (loc' := [some (.ref (B + t)), some (.int (nI k)), some (.int x), some (.int (nI (pm_cnt (fun r => f (r * W + k) == x) i + 1))), some (.int (nI (i + 1)))]) hG dX9_rowsWith_47 rfl (nI_1 i) (Nat.le_of_ble_eq_true rfl) (pm_c1b rfl) rfl ?_
        refine pm_goto (tgt := 5) hG dX9_rowsWith_50 rfl ?_
        have h0 := ih (i + 1) (by omega) (by omega)
        rw [show pm_cnt (fun r => f (r * W + k) == x) (i + 1) = pm_cnt (fun r => f (r * W + k) == x) i + 1 by rw [pm_cnt, if_pos (by simpa using q)]] at h0
        exact h0
  exact loop u 0 (Nat.zero_le _) rfl
/-! ===== Table as functions of a state: cells a (used) and a + 1 ===== -/
def fG (a R W : Nat) (S : FS) (row col : Int32) : Int32 := pm_tg (nI R) (nI W) (S.2 (a + 1)) row col
def fP (a R W : Nat) (S : FS) (row col x : Int32) : FS := (S.1, ua S.2 (a + 1) (pm_ts (nI R) (nI W) (S.2 (a + 1)) row col x))
/-- 0 .. R, as a natural number -/
def iN (R : Nat) (v : Int32) : Option Nat := if v < 0 ∨ nI R < v then none else some v.toNatClampNeg
theorem iN_in {R u : Nat} {v : Int32} (hR : R < 2 ^ 31) (h : iN R v = some u) : u ≤ R ∧ v = nI u := by
  unfold iN at h
  split at h
  · cases h
  · next q =>
    obtain ⟨k, hk, rfl⟩ := nI_of (fun z => q (Or.inl z))
    rw [nI_clamp hk] at h
    obtain rfl := Option.some.inj h
    refine ⟨?_, rfl⟩
    have h2 : ¬ nI R < nI k := fun z => q (Or.inr z)
    by_cases c : k ≤ R
    · exact c
    · exact absurd (nI_lt (by omega) hk) h2
theorem iN_nI {R u : Nat} (hR : R < 2 ^ 31) (h : u ≤ R) : iN R (nI u) = some u := by
  unfold iN
  rw [nI_clamp (by omega), if_neg]
  rintro (q | q)
  · exact nI_pos (by omega) q
  · exact nI_nlt h hR q
def fApp (a R W : Nat) (S : FS) (x : Int32) : Option (Int32 × FS) := fb (iN R (S.1 a)) (fun u => if u = R then some (-1, S) else some (nI u, (ui S.1 a (nI (u + 1)), ua S.2 (a + 1) (pm_apf W u x (S.2 (a + 1))))))
def qRows (a R W : Nat) (S : FS) (k : Nat) (x : Int32) : Option Int32 := fb (iN R (S.1 a)) (fun u => some (nI (pm_cnt (fun r => S.2 (a + 1) (r * W + k) == x) u)))
def pm_sum (f : Nat → Int32) (W k : Nat) : Nat → Int32
  | 0 => 0
  | n + 1 => pm_sum f W k n + f (n * W + k)
def qSum (a R W : Nat) (S : FS) (k : Nat) : Option Int32 := fb (iN R (S.1 a)) (fun u => some (pm_sum (S.2 (a + 1)) W k u))
def fTr (R W : Nat) (f : Nat → Int32) (ra fr rb to k : Int32) : Nat → Int32 :=
  if ra < 0 ∨ nI R ≤ ra ∨ fr < 0 ∨ k < 0 ∨ nI W - k < fr ∨ rb < 0 ∨ nI R ≤ rb ∨ to < 0 ∨ nI W - k < to then f else va_cpy f f (ra * nI W + fr).toNatClampNeg (rb * nI W + to).toNatClampNeg k.toNatClampNeg
def fTrans (a R W : Nat) (S : FS) (ra fr rb to k : Int32) : FS := (S.1, ua S.2 (a + 1) (fTr R W (S.2 (a + 1)) ra fr rb to k))
def fFill (a n : Nat) (S : FS) (v : Int32) : FS := (S.1, ua S.2 a (fun j => if j < n then v else S.2 a j))
set_option maxRecDepth 100000 in
theorem tb_sumE {d B cnt t c n R W u k : Nat} {σ : pm_S} {f : Nat → Int32} (hdd : 1 ≤ d) (hR0 : R < 2 ^ 31) (hW0 : W < 2 ^ 31) (hn0 : R * W < 2 ^ 31) (hu0 : u ≤ R) (hk0 : k < W) (ht : σ t = some (.inr (9, [.int (nI R), .int (nI W), .ref (B + c), .int (nI u)]))) (hc : σ c = some (.inl (n, f))) (hb : pm_tw (nI R) (nI W) n) (hu2 : u < 2 ^ 31) :
    pm_met mX9_sumOf d 0 0 B [.ref (B + t), .int (nI k)] cnt σ (pm_Qi (fun v σ' cnt' => v = pm_sum f W k u ∧ σ' = σ ∧ cnt' = cnt)) := by
  refine pm_enter 2 (by decide) (Nat.le_of_ble_eq_true rfl) rfl (fun G hG hR' hF => ?_)
  refine pm_iconst (v := 0) hG dX9_sumOf_0 (by decide) ?_
  refine pm_istoreXn (loc' := [some (.ref (B + t)), some (.int (nI k)), some (.int 0), none]) hG dX9_sumOf_1 (Nat.le_of_ble_eq_true rfl) (pm_c1b rfl) rfl ?_
  refine pm_iconst (v := 0) hG dX9_sumOf_2 (by decide) ?_
  refine pm_istoreXn (loc' := [some (.ref (B + t)), some (.int (nI k)), some (.int 0), some (.int (nI 0))]) hG dX9_sumOf_3 (Nat.le_of_ble_eq_true rfl) (pm_c1b rfl) rfl ?_
  have loop : ∀ (m i : Nat), i ≤ u → u - i = m → pm_wp mX9_sumOf G B 4 [some (.ref (B + t)), some (.int (nI k)), some (.int (pm_sum f W k i)), some (.int (nI i))] [] 0 0 cnt σ := by
    intro m
    induction m with
    | zero =>
      intro i hi hm
      obtain rfl : i = u := by omega
      refine pm_iloadn hG dX9_sumOf_4 rfl ?_
      refine pm_aloadn hG dX9_sumOf_5 rfl ?_
      refine pm_getf hG dX9_sumOf_6 (flX9_29 _ rfl) ht rfl ?_
      refine pm_icmp_ge (tgt := 27) hG dX9_sumOf_9 rfl (fun _ => ?_) (fun q => absurd (nI_le (Nat.le_refl _) (by omega)) q)
      refine pm_iloadn hG dX9_sumOf_27 rfl ?_
      exact pm_iret hG hF dX9_sumOf_28 rfl (Nat.le_refl _) (Nat.le_refl _) ⟨_, rfl, rfl, rfl, rfl⟩
    | succ m ih =>
      intro i hi hm
      refine pm_iloadn hG dX9_sumOf_4 rfl ?_
      refine pm_aloadn hG dX9_sumOf_5 rfl ?_
      refine pm_getf hG dX9_sumOf_6 (flX9_29 _ rfl) ht rfl ?_
      refine pm_icmp_ge (tgt := 27) hG dX9_sumOf_9 rfl (fun q => absurd q (nI_ge (by omega) (by omega))) (fun _ => ?_)
      refine pm_iloadn hG dX9_sumOf_12 rfl ?_
      refine pm_aloadn hG dX9_sumOf_13 rfl ?_
      refine pm_iloadn hG dX9_sumOf_14 rfl ?_
      refine pm_iloadn hG dX9_sumOf_15 rfl ?_
      refine pm_callV (As := [.int (nI i), .int (nI k)]) (rest := [.int (pm_sum f W k i)]) hG hR' dX9_sumOf_16 (lkX9_32 _ rfl) okV_X9_get ht rfl (tb_get (d := 0) ht hc hb) rfl rfl hdd (Nat.le_refl _) (Nat.le_refl _) (Nat.le_of_ble_eq_true rfl) (pm_ki (fun v σ' cnt' hq => ?_))
      obtain ⟨ev, rfl, rfl⟩ := hq
      rw [pm_tg_in hR0 hW0 hn0 (by omega) hk0] at ev
      refine pm_iadd hG dX9_sumOf_19 ?_
      refine pm_top (v := pm_sum f W k (i + 1)) (by rw [ev]; rfl) ?_
      refine pm_istoreXn (loc' := [some (.ref (B + t)), some (.int (nI k)), some (.int (pm_sum f W k (i + 1))), some (.int (nI i))]) hG dX9_sumOf_20 (Nat.le_of_ble_eq_true rfl) (pm_c1b rfl) rfl ?_
      refine pm_iincX (v := nI (i + 1)) (loc' := [some (.ref (B + t)), some (.int (nI k)), some (.int (pm_sum f W k (i + 1))), some (.int (nI (i + 1)))]) hG dX9_sumOf_21 rfl (nI_1 i) (Nat.le_of_ble_eq_true rfl) (pm_c1b rfl) rfl ?_
      refine pm_goto (tgt := 4) hG dX9_sumOf_24 rfl ?_
      exact ih (i + 1) (by omega) (by omega)
  exact loop u 0 (Nat.zero_le _) rfl
set_option maxRecDepth 100000 in
theorem tb_add {d B cnt t c n : Nat} {σ : pm_S} {rows width used : Int32} {f : Nat → Int32} {row col x : Int32} (hdd : 1 ≤ d) (ht : σ t = some (.inr (9, [.int rows, .int width, .ref (B + c), .int used]))) (hc : σ c = some (.inl (n, f))) (hb : pm_tw rows width n) (htc : t ≠ c) : pm_met mX9_add d 0 0 B [.ref (B + t), .int row, .int col, .int x] cnt σ (pm_Qv (fun σ' cnt' => σ' = pm_up σ c (.inl (n, pm_ts rows width f row col (pm_tg rows width f row col + x))) ∧ cnt' = cnt)) := by
  refine pm_enter 0 (by decide) (Nat.le_of_ble_eq_true rfl) rfl (fun G hG hR hF => ?_)
  refine pm_aloadn hG dX9_add_0 rfl ?_
  refine pm_iloadn hG dX9_add_1 rfl ?_
  refine pm_iloadn hG dX9_add_2 rfl ?_
  refine pm_aloadn hG dX9_add_3 rfl ?_
  refine pm_iloadn hG dX9_add_4 rfl ?_
  refine pm_iloadn hG dX9_add_5 rfl ?_
  refine pm_callV (As := [.int row, .int col]) (rest := [.int col, .int row, .ref (B + t)]) hG hR dX9_add_6 (lkX9_32 _ rfl) okV_X9_get ht rfl (tb_get (d := 0) ht hc hb) rfl rfl hdd (Nat.le_refl _) (Nat.le_refl _) (by first | decide | exact Nat.le_of_ble_eq_true rfl) (pm_ki (fun v σ' cnt' hq => ?_))
  obtain ⟨rfl, rfl, rfl⟩ := hq
  refine pm_iloadn hG dX9_add_9 rfl ?_
  refine pm_iadd hG dX9_add_10 ?_
  refine pm_callV (As := [.int row, .int col, .int ((pm_tg rows width f row col) + x)]) (rest := []) hG hR dX9_add_11 (lkX9_35 _ rfl) okV_X9_set ht rfl (tb_set (d := 0) ht hc hb htc) rfl rfl hdd (Nat.le_refl _) (Nat.le_refl _) (by decide) (pm_kv (fun σ' cnt' hq => ?_))
  obtain ⟨rfl, rfl⟩ := hq
  exact pm_vret hG hF dX9_add_14 rfl (by decide) (by decide) ⟨rfl, rfl, rfl⟩

set_option maxRecDepth 100000 in
theorem tb_swap {d B cnt t c n : Nat} {σ : pm_S} {rows width used : Int32} {f : Nat → Int32} {row col x : Int32} (hdd : 1 ≤ d) (ht : σ t = some (.inr (9, [.int rows, .int width, .ref (B + c), .int used]))) (hc : σ c = some (.inl (n, f))) (hb : pm_tw rows width n) (htc : t ≠ c) : pm_met mX9_swap d 0 0 B [.ref (B + t), .int row, .int col, .int x] cnt σ (pm_Qi (fun v σ' cnt' => v = pm_tg rows width f row col ∧ σ' = pm_up σ c (.inl (n, pm_ts rows width f row col x)) ∧ cnt' = cnt)) := by
  refine pm_enter 1 (by decide) (Nat.le_of_ble_eq_true rfl) rfl (fun G hG hR hF => ?_)
  refine pm_aloadn hG dX9_swap_0 rfl ?_
  refine pm_iloadn hG dX9_swap_1 rfl ?_
  refine pm_iloadn hG dX9_swap_2 rfl ?_
  refine pm_callV (As := [.int row, .int col]) (rest := []) hG hR dX9_swap_3 (lkX9_32 _ rfl) okV_X9_get ht rfl (tb_get (d := 0) ht hc hb) rfl rfl hdd (Nat.le_refl _) (Nat.le_refl _) (by decide) (pm_ki (fun v σ' cnt' hq => ?_))
  obtain ⟨rfl, rfl, rfl⟩ := hq
  refine pm_istoreXi (loc' := [some (.ref (B + t)), some (.int row), some (.int col), some (.int x), some (.int (pm_tg rows width f row col))]) hG dX9_swap_6 (by decide) (pm_c1b rfl) rfl ?_
  refine pm_aloadn hG dX9_swap_8 rfl ?_
  refine pm_iloadn hG dX9_swap_9 rfl ?_
  refine pm_iloadn hG dX9_swap_10 rfl ?_
  refine pm_iloadn hG dX9_swap_11 rfl ?_
  refine pm_callV (As := [.int row, .int col, .int x]) (rest := []) hG hR dX9_swap_12 (lkX9_35 _ rfl) okV_X9_set ht rfl (tb_set (d := 0) ht hc hb htc) rfl rfl hdd (Nat.le_refl _) (Nat.le_refl _) (by decide) (pm_kv (fun σ' cnt' hq => ?_))
  obtain ⟨rfl, rfl⟩ := hq
  refine pm_iloadi hG dX9_swap_15 rfl ?_
  exact pm_iret hG hF dX9_swap_17 rfl (by decide) (by decide) ⟨_, rfl, rfl, rfl, rfl⟩

set_option maxRecDepth 100000 in
theorem tb_clear {d B cnt t c : Nat} {σ : pm_S} {rows width used : Int32} (ht : σ t = some (.inr (9, [.int rows, .int width, .ref (B + c), .int used]))) : pm_met mX9_clear d 0 0 B [.ref (B + t)] cnt σ (pm_Qv (fun σ' cnt' => σ' = pm_up σ t (.inr (9, [.int rows, .int width, .ref (B + c), .int 0])) ∧ cnt' = cnt)) := by
  refine pm_enter 0 (by decide) (Nat.le_of_ble_eq_true rfl) rfl (fun G hG hR hF => ?_)
  refine pm_aloadn hG dX9_clear_0 rfl ?_
  refine pm_iconst (v := 0) hG dX9_clear_1 (by decide) ?_
  refine pm_putf hG dX9_clear_2 (fwX9_29 _ rfl) ht rfl rfl ?_
  exact pm_vret hG hF dX9_clear_5 rfl (by decide) (by decide) ⟨rfl, rfl, rfl⟩
