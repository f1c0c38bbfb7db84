/-! ===== the model's states: cells 54 .. 73 ===== -/
def pm_mid (σ : pm_S) (L : List pm_C) : pm_S := fun j => if j < 54 then σ j else if j < 74 then L[j - 54]? else σ j
theorem pm_mid_up {σ : pm_S} {L : List pm_C} {k : Nat} {x : pm_C} (h1 : 54 ≤ k) (h2 : k < 74) (hl : k - 54 < L.length) : pm_up (pm_mid σ L) k x = pm_mid σ (L.set (k - 54) x) := by
  funext j
  unfold pm_up pm_mid
  by_cases h : j = k
  · subst h
    rw [if_pos rfl, if_neg (by omega), if_pos h2, List.getElem?_set_self hl]
  · rw [if_neg h]
    by_cases h3 : j < 54
    · rw [if_pos h3, if_pos h3]
    · rw [if_neg h3, if_neg h3]
      by_cases h4 : j < 74
      · rw [if_pos h4, if_pos h4, List.getElem?_set_ne (by omega)]
      · rw [if_neg h4, if_neg h4]
/-! kinds of the numbers of a realm: (0, free), (1, b) 0 .. b - 1, (2, b) -1 .. b - 1; bound to others -/
abbrev kdK : Type := Nat × Nat × Bool
def kdLow : List kdK := [(1, 11, true), (1, 21, false), (1, 21, true), (1, 21, false), (1, 13, false), (1, 41, true), (1, 7, false), (1, 31, false), (1, 2001, false), (0, 0, false), (1, 61, false), (1, 21, false)]
def kdTown : List kdK := [(0, 0, false), (2, 20, false), (0, 0, false)]
def kdRoad : List kdK := [(1, 10, false), (1, 10, false), (1, 10, false)]
def kdPers : List kdK := [(0, 0, false), (0, 0, false), (2, 20, false), (2, 20, false), (2, 10, false), (1, 10, false), (0, 0, false), (0, 0, false), (0, 0, false), (2, 2001, false), (0, 0, false), (1, 2, true), (0, 0, false), (0, 0, false)]
def kdPow : List kdK := [(0, 0, false), (2, 20, false), (2, 20, false), (0, 0, false), (0, 0, false), (0, 0, false)]
def kdLaw (c : Nat) : kdK := if c < 4 then (0, 0, false) else if c = 4 then (1, 61, true) else (0, 0, true)
def kdLet : List kdK := [(0, 0, false), (0, 0, false), (1, 1000, false), (0, 0, false), (2, 20, true), (0, 0, false), (0, 0, true), (0, 0, false), (0, 0, false), (0, 0, false), (1, 10, false), (0, 0, false)]
def kdDebt : List kdK := [(0, 0, false), (0, 0, false), (0, 0, false), (0, 0, false), (1, 10, false), (0, 0, false)]
def kdProm : List kdK := [(1, 20, false), (0, 0, false), (0, 0, false), (0, 0, false), (0, 0, false), (0, 0, false)]
def kd (j : Nat) : kdK :=
  if j < 20 then kdLow.getD j (0, 0, false) else if j < 50 then kdTown.getD ((j - 20) % 3) (0, 0, false) else if j < 110 then kdRoad.getD ((j - 50) % 3) (0, 0, false)
  else if j < 390 then kdPers.getD ((j - 110) % 14) (0, 0, false) else if j < 510 then kdPow.getD ((j - 390) % 6) (0, 0, false) else if j < 1290 then kdLaw ((j - 510) % 65)
  else if j < 1770 then kdLet.getD ((j - 1290) % 12) (0, 0, false) else if j < 1806 then kdDebt.getD ((j - 1770) % 6) (0, 0, false) else if j < 1986 then kdProm.getD ((j - 1806) % 6) (0, 0, false) else (0, 0, false)
theorem kd_T {e k c : Nat} (he : e = 3 * k + (20 + c)) (hk : k < 10) (hc : c < 3) : kd e = kdTown.getD c (0, 0, false) := by
  subst he; unfold kd; rw [if_neg (by omega), if_pos (by omega), show (3 * k + (20 + c) - 20) % 3 = c by omega]
theorem kd_R {e k c : Nat} (he : e = 3 * k + (50 + c)) (hk : k < 20) (hc : c < 3) : kd e = kdRoad.getD c (0, 0, false) := by
  subst he; unfold kd; rw [if_neg (by omega), if_neg (by omega), if_pos (by omega), show (3 * k + (50 + c) - 50) % 3 = c by omega]
theorem kd_P {e k c : Nat} (he : e = 14 * k + (110 + c)) (hk : k < 20) (hc : c < 14) : kd e = kdPers.getD c (0, 0, false) := by
  subst he; unfold kd; rw [if_neg (by omega), if_neg (by omega), if_neg (by omega), if_pos (by omega), show (14 * k + (110 + c) - 110) % 14 = c by omega]
theorem kd_W {e k c : Nat} (he : e = 6 * k + (390 + c)) (hk : k < 20) (hc : c < 6) : kd e = kdPow.getD c (0, 0, false) := by
  subst he; unfold kd; rw [if_neg (by omega), if_neg (by omega), if_neg (by omega), if_neg (by omega), if_pos (by omega), show (6 * k + (390 + c) - 390) % 6 = c by omega]
theorem kd_L {e k c : Nat} (he : e = 65 * k + (510 + c)) (hk : k < 12) (hc : c < 65) : kd e = kdLaw c := by
  subst he; unfold kd; rw [if_neg (by omega), if_neg (by omega), if_neg (by omega), if_neg (by omega), if_neg (by omega), if_pos (by omega), show (65 * k + (510 + c) - 510) % 65 = c by omega]
theorem kd_E {e k c : Nat} (he : e = 12 * k + (1290 + c)) (hk : k < 40) (hc : c < 12) : kd e = kdLet.getD c (0, 0, false) := by
  subst he; unfold kd; rw [if_neg (by omega), if_neg (by omega), if_neg (by omega), if_neg (by omega), if_neg (by omega), if_neg (by omega), if_pos (by omega), show (12 * k + (1290 + c) - 1290) % 12 = c by omega]
theorem kd_D {e k c : Nat} (he : e = 6 * k + (1770 + c)) (hk : k < 6) (hc : c < 6) : kd e = kdDebt.getD c (0, 0, false) := by
  subst he; unfold kd; rw [if_neg (by omega), if_neg (by omega), if_neg (by omega), if_neg (by omega), if_neg (by omega), if_neg (by omega), if_neg (by omega), if_pos (by omega), show (6 * k + (1770 + c) - 1770) % 6 = c by omega]
theorem kd_Q {e k c : Nat} (he : e = 6 * k + (1806 + c)) (hk : k < 30) (hc : c < 6) : kd e = kdProm.getD c (0, 0, false) := by
  subst he; unfold kd; rw [if_neg (by omega), if_neg (by omega), if_neg (by omega), if_neg (by omega), if_neg (by omega), if_neg (by omega), if_neg (by omega), if_neg (by omega), if_pos (by omega), show (6 * k + (1806 + c) - 1806) % 6 = c by omega]
theorem kd_O {e : Nat} (h : 1986 ≤ e) : kd e = (0, 0, false) := by
  unfold kd; rw [if_neg (by omega), if_neg (by omega), if_neg (by omega), if_neg (by omega), if_neg (by omega), if_neg (by omega), if_neg (by omega), if_neg (by omega), if_neg (by omega)]
def okv (q : kdK) (v : Int32) : Prop := if q.1 = 1 then ∃ k : Nat, k < q.2.1 ∧ v = nI k else if q.1 = 2 then v = -1 ∨ ∃ k : Nat, k < q.2.1 ∧ v = nI k else True
theorem okv_f {q : kdK} {v : Int32} {s : Bool} (h : q = (0, 0, s)) : okv q v := by subst h; exact trivial
theorem okv_n {q : kdK} {b k : Nat} {s : Bool} (h : q = (1, b, s)) (hk : k < b) : okv q (nI k) := by subst h; exact ⟨k, hk, rfl⟩
theorem okv_o {q : kdK} {b k : Nat} {s : Bool} (h : q = (2, b, s)) (hk : k < b) : okv q (nI k) := by subst h; exact Or.inr ⟨k, hk, rfl⟩
theorem okv_m {q : kdK} {b : Nat} {s : Bool} (h : q = (2, b, s)) : okv q (-1) := by subst h; exact Or.inl rfl
def KI (n : Nat → Int32) : Prop := ∀ j : Nat, okv (kd j) (n j)
theorem KI.nat {n : Nat → Int32} {e b : Nat} {s : Bool} (h : KI n) (hk : kd e = (1, b, s)) : ∃ k : Nat, k < b ∧ n e = nI k := by
  have h1 := h e; rw [hk] at h1; exact h1
theorem KI.opt {n : Nat → Int32} {e b : Nat} {s : Bool} (h : KI n) (hk : kd e = (2, b, s)) : n e = -1 ∨ ∃ k : Nat, k < b ∧ n e = nI k := by
  have h1 := h e; rw [hk] at h1; exact h1
theorem KI.w {n n' : Nat → Int32} {e : Nat} {v : Int32} (en : n' = upd n e v) (h : KI n) (hv : okv (kd e) v) : KI n' := by
  intro j
  rw [en]; unfold upd
  by_cases hj : j = e
  · rw [if_pos hj, hj]; exact hv
  · rw [if_neg hj]; exact h j
/-- how a text's steps pass over a row of numbers: r steps from j on, d numbers in the row -/
def cOK (f : Nat → Int32) : Nat → Nat → Nat → Prop
  | 0, _, _ => True
  | r + 1, j, d => (¬ f j ≤ -100 ∧ (f j < 0 → ∃ k : Nat, k < 11 ∧ -1 - f j = nI k) ∧ cOK f r (j + 1) (d + 1)) ∨ (f j = -133 ∧ 1 ≤ d ∧ cOK f r (j + 1) d) ∨ (f j ≤ -100 ∧ ¬ f j = -133 ∧ 2 ≤ d ∧ cOK f r (j + 1) (d - 1))
theorem cOK.congr {f g : Nat → Int32} : ∀ (r j d : Nat), (∀ i : Nat, j ≤ i → i < j + r → f i = g i) → cOK f r j d → cOK g r j d
  | 0, _, _, _, _ => trivial
  | r + 1, j, d, h, h1 => by
    have e : f j = g j := h j (Nat.le_refl _) (by omega)
    have hr : ∀ d' : Nat, cOK f r (j + 1) d' → cOK g r (j + 1) d' := fun d' => cOK.congr r (j + 1) d' (fun i h2 h3 => h i (by omega) (by omega))
    unfold cOK at h1 ⊢
    rw [← e]
    rcases h1 with ⟨a, b, c⟩ | ⟨a, b, c⟩ | ⟨a, b, c, d⟩
    · exact Or.inl ⟨a, b, hr _ c⟩
    · exact Or.inr (Or.inl ⟨a, b, hr _ c⟩)
    · exact Or.inr (Or.inr ⟨a, b, c, hr _ d⟩)
def lawOK (n : Nat → Int32) (l : Nat) : Prop := ∃ len : Nat, n (65 * l + 514) = nI len ∧ len ≤ 60 ∧ cOK (fun j => n (65 * l + 515 + j)) len 0 0
def stN (n : Nat → Int32) : Nat → Nat
  | 0 => 0
  | k + 1 => stN n k + if n (14 * k + 121) = 0 then 0 else 1
theorem stN_congr {n n' : Nat → Int32} : ∀ k : Nat, (∀ p : Nat, p < k → n' (14 * p + 121) = n (14 * p + 121)) → stN n' k = stN n k
  | 0, _ => rfl
  | k + 1, h => by unfold stN; rw [stN_congr k (fun p hp => h p (by omega)), h k (by omega)]
theorem stN_mono {n : Nat → Int32} {a b : Nat} (h : a ≤ b) : stN n a ≤ stN n b := by
  induction h with
  | refl => exact Nat.le_refl _
  | step _ ih => exact Nat.le_trans ih (Nat.le_add_right _ _)
def NRx (x : Nat) (n : Nat → Int32) : Prop :=
  ((n 2 = 0 ∧ n 5 = 0) ∨ n 0 ≠ 0) ∧ (∀ l : Nat, l < 40 → l ≠ x → n (12 * l + 1296) = -1 ∨ n (12 * l + 1294) ≠ -1) ∧ (stN n 20 ≤ 9 ∧ ∃ c : Nat, c ≤ 20 ∧ n 2 = nI c ∧ ∀ p : Nat, c ≤ p → p < 20 → n (14 * p + 121) = 0) ∧ ∀ l : Nat, l < 12 → lawOK n l
def NR (n : Nat → Int32) : Prop := NRx 40 n
/-- all that NRx looks at is the same but for what is named -/
theorem NRx.congr {x : Nat} {n n' : Nat → Int32} (h : NRx x n) (hs : ∀ j : Nat, (kd j).2.2 = true → n' j = n j) : NRx x n' := by
  obtain ⟨h1, h2, ⟨h3, c, hc, e2, h4⟩, h5⟩ := h
  have s0 : n' 0 = n 0 := hs 0 (by decide)
  have s2 : n' 2 = n 2 := hs 2 (by decide)
  have s5 : n' 5 = n 5 := hs 5 (by decide)
  have sp : ∀ p : Nat, p < 20 → n' (14 * p + 121) = n (14 * p + 121) := fun p hp => hs _ (by rw [kd_P (c := 11) rfl hp (by decide)]; rfl)
  refine ⟨by rw [s0, s2, s5]; exact h1, fun l hl hx => ?_, ⟨by rw [stN_congr 20 sp]; exact h3, c, hc, s2.trans e2, fun p q1 q2 => (sp p q2).trans (h4 p q1 q2)⟩, fun l hl => ?_⟩
  · rw [hs (12 * l + 1296) (by rw [kd_E (c := 6) rfl hl (by decide)]; rfl), hs (12 * l + 1294) (by rw [kd_E (c := 4) rfl hl (by decide)]; rfl)]
    exact h2 l hl hx
  · obtain ⟨len, q1, q2, q3⟩ := h5 l hl
    refine ⟨len, by rw [hs (65 * l + 514) (by rw [kd_L (c := 4) rfl hl (by decide)]; rfl)]; exact q1, q2, cOK.congr len 0 0 (fun i _ hi => ?_) q3⟩
    refine (hs _ ?_).symm
    rw [kd_L (k := l) (c := 5 + i) (by omega) hl (by omega)]
    unfold kdLaw
    rw [if_neg (by omega), if_neg (by omega)]
theorem NRx.w {x : Nat} {n n' : Nat → Int32} {e : Nat} {v : Int32} (en : n' = upd n e v) (h : NRx x n) (hs : (kd e).2.2 = false) : NRx x n' := by
  refine h.congr (fun j hj => ?_)
  rw [en, pk_un]
  rintro rfl
  rw [hs] at hj; cases hj
section PMM
variable {M : pm_M} {G : pm_G} {B pc pc' : Nat} {loc : List (Option Value)} {st : List Value} {cs zs cnt : Nat} {σ : pm_S}
theorem pm_iaddN {a b c : Nat} (hG : pm_ok M G B) (hd : pm_dec M pc (.iadd, 1) pc') (h : a + b = c) (k : pm_wp M G B pc' loc (.int (nI c) :: st) cs zs cnt σ) : pm_wp M G B pc loc (.int (nI b) :: .int (nI a) :: st) cs zs cnt σ :=
  pm_iadd hG hd (by rw [nI_add, h]; exact k)
theorem pm_isubN {a b c : Nat} (hG : pm_ok M G B) (hd : pm_dec M pc (.isub, 1) pc') (h : a = b + c) (k : pm_wp M G B pc' loc (.int (nI c) :: st) cs zs cnt σ) : pm_wp M G B pc loc (.int (nI b) :: .int (nI a) :: st) cs zs cnt σ :=
  pm_isub hG hd (by rw [pk_sub (by omega), show a - b = c by omega]; exact k)
theorem pm_imulN {a b c : Nat} (hG : pm_ok M G B) (hd : pm_dec M pc (.imul, 1) pc') (h : a * b = c) (k : pm_wp M G B pc' loc (.int (nI c) :: st) cs zs cnt σ) : pm_wp M G B pc loc (.int (nI b) :: .int (nI a) :: st) cs zs cnt σ :=
  pm_imul hG hd (by rw [pk_mul, h]; exact k)
theorem pm_idivN {a b : Nat} (hG : pm_ok M G B) (hd : pm_dec M pc (.idiv, 1) pc') (ha : a < 2 ^ 31) (h0 : 0 < b) (hb : b < 2 ^ 31) (k : pm_wp M G B pc' loc (.int (nI (a / b)) :: st) cs zs cnt σ) : pm_wp M G B pc loc (.int (nI b) :: .int (nI a) :: st) cs zs cnt σ :=
  pm_idiv hG hd (nI_ne0 h0 hb) (by rw [pk_div ha h0 hb]; exact k)
theorem pm_iremN {a b : Nat} (hG : pm_ok M G B) (hd : pm_dec M pc (.irem, 1) pc') (ha : a < 2 ^ 31) (h0 : 0 < b) (hb : b < 2 ^ 31) (k : ∀ r : Nat, r < b → r = a % b → pm_wp M G B pc' loc (.int (nI r) :: st) cs zs cnt σ) : pm_wp M G B pc loc (.int (nI b) :: .int (nI a) :: st) cs zs cnt σ :=
  pm_irem hG hd (nI_ne0 h0 hb) (by rw [pk_rem ha h0 hb]; exact k _ (Nat.mod_lt _ h0) rfl)
theorem pm_ialdN {a n e : Nat} {f : Nat → Int32} (hG : pm_ok M G B) (hd : pm_dec M pc (.iaload, 1) pc') (ha : σ a = some (.inl (n, f))) (hn : n < 2 ^ 31) (he : e < n) (k : pm_wp M G B pc' loc (.int (f e) :: st) cs zs cnt σ) : pm_wp M G B pc loc (.int (nI e) :: .ref (B + a) :: st) cs zs cnt σ :=
  pm_iald hG hd ha (vp_in_nI he hn) (by rw [nI_clamp (by omega)]; exact k)
theorem pm_iastN {a n e : Nat} {f : Nat → Int32} {x : Int32} (hG : pm_ok M G B) (hd : pm_dec M pc (.iastore, 1) pc') (ha : σ a = some (.inl (n, f))) (hn : n < 2 ^ 31) (he : e < n) (k : pm_wp M G B pc' loc st cs zs cnt (pm_up σ a (.inl (n, upd f e x)))) : pm_wp M G B pc loc (.int x :: .int (nI e) :: .ref (B + a) :: st) cs zs cnt σ :=
  pm_iast hG hd ha (vp_in_nI he hn) (by rw [nI_clamp (by omega)]; exact k)
theorem pm_icmpN_eq {a b : Nat} {off : Int} {tgt : Nat} (hG : pm_ok M G B) (hd : pm_dec M pc (.if_icmp .eq off, 3) pc') (ht : pm_br pc off tgt) (ha : a < 2 ^ 31) (hb : b < 2 ^ 31) (kt : a = b → pm_wp M G B tgt loc st cs zs cnt σ) (kf : a ≠ b → pm_wp M G B pc' loc st cs zs cnt σ) : pm_wp M G B pc loc (.int (nI b) :: .int (nI a) :: st) cs zs cnt σ :=
  pm_icmp_eq hG hd ht (fun q => kt ((nI_eq ha hb).mp q)) (fun q => kf (fun e => q ((nI_eq ha hb).mpr e)))
theorem pm_icmpN_ne {a b : Nat} {off : Int} {tgt : Nat} (hG : pm_ok M G B) (hd : pm_dec M pc (.if_icmp .ne off, 3) pc') (ht : pm_br pc off tgt) (ha : a < 2 ^ 31) (hb : b < 2 ^ 31) (kt : a ≠ b → pm_wp M G B tgt loc st cs zs cnt σ) (kf : a = b → pm_wp M G B pc' loc st cs zs cnt σ) : pm_wp M G B pc loc (.int (nI b) :: .int (nI a) :: st) cs zs cnt σ :=
  pm_icmp_ne hG hd ht (fun q => kt (fun e => q ((nI_eq ha hb).mpr e))) (fun q => kf ((nI_eq ha hb).mp q))
theorem pm_icmpN_lt {a b : Nat} {off : Int} {tgt : Nat} (hG : pm_ok M G B) (hd : pm_dec M pc (.if_icmp .lt off, 3) pc') (ht : pm_br pc off tgt) (ha : a < 2 ^ 31) (hb : b < 2 ^ 31) (kt : a < b → pm_wp M G B tgt loc st cs zs cnt σ) (kf : b ≤ a → pm_wp M G B pc' loc st cs zs cnt σ) : pm_wp M G B pc loc (.int (nI b) :: .int (nI a) :: st) cs zs cnt σ :=
  pm_icmp_lt hG hd ht (fun q => kt ((nI_ltI ha hb).mp q)) (fun q => kf (Nat.le_of_not_lt (fun e => q ((nI_ltI ha hb).mpr e))))
theorem pm_icmpN_ge {a b : Nat} {off : Int} {tgt : Nat} (hG : pm_ok M G B) (hd : pm_dec M pc (.if_icmp .ge off, 3) pc') (ht : pm_br pc off tgt) (ha : a < 2 ^ 31) (hb : b < 2 ^ 31) (kt : b ≤ a → pm_wp M G B tgt loc st cs zs cnt σ) (kf : a < b → pm_wp M G B pc' loc st cs zs cnt σ) : pm_wp M G B pc loc (.int (nI b) :: .int (nI a) :: st) cs zs cnt σ :=
  pm_icmp_ge hG hd ht (fun q => kt ((nI_leI hb ha).mp q)) (fun q => kf (Nat.lt_of_not_le (fun e => q ((nI_leI hb ha).mpr e))))
theorem pm_icmpN_gt {a b : Nat} {off : Int} {tgt : Nat} (hG : pm_ok M G B) (hd : pm_dec M pc (.if_icmp .gt off, 3) pc') (ht : pm_br pc off tgt) (ha : a < 2 ^ 31) (hb : b < 2 ^ 31) (kt : b < a → pm_wp M G B tgt loc st cs zs cnt σ) (kf : a ≤ b → pm_wp M G B pc' loc st cs zs cnt σ) : pm_wp M G B pc loc (.int (nI b) :: .int (nI a) :: st) cs zs cnt σ :=
  pm_icmp_gt hG hd ht (fun q => kt ((nI_ltI hb ha).mp q)) (fun q => kf (Nat.le_of_not_lt (fun e => q ((nI_ltI hb ha).mpr e))))
theorem pm_icmpN_le {a b : Nat} {off : Int} {tgt : Nat} (hG : pm_ok M G B) (hd : pm_dec M pc (.if_icmp .le off, 3) pc') (ht : pm_br pc off tgt) (ha : a < 2 ^ 31) (hb : b < 2 ^ 31) (kt : a ≤ b → pm_wp M G B tgt loc st cs zs cnt σ) (kf : b < a → pm_wp M G B pc' loc st cs zs cnt σ) : pm_wp M G B pc loc (.int (nI b) :: .int (nI a) :: st) cs zs cnt σ :=
  pm_icmp_le hG hd ht (fun q => kt ((nI_leI ha hb).mp q)) (fun q => kf (Nat.lt_of_not_le (fun e => q ((nI_leI ha hb).mpr e))))
theorem pm_ifN_eq {a : Nat} {off : Int} {tgt : Nat} (hG : pm_ok M G B) (hd : pm_dec M pc (.ifCond .eq off, 3) pc') (ht : pm_br pc off tgt) (ha : a < 2 ^ 31) (kt : a = 0 → pm_wp M G B tgt loc st cs zs cnt σ) (kf : a ≠ 0 → pm_wp M G B pc' loc st cs zs cnt σ) : pm_wp M G B pc loc (.int (nI a) :: st) cs zs cnt σ :=
  pm_if_eq hG hd ht (fun q => kt ((nI_eq ha (by decide)).mp q)) (fun q => kf (fun e => q ((nI_eq ha (by decide)).mpr e)))
theorem pm_ifN_ne {a : Nat} {off : Int} {tgt : Nat} (hG : pm_ok M G B) (hd : pm_dec M pc (.ifCond .ne off, 3) pc') (ht : pm_br pc off tgt) (ha : a < 2 ^ 31) (kt : a ≠ 0 → pm_wp M G B tgt loc st cs zs cnt σ) (kf : a = 0 → pm_wp M G B pc' loc st cs zs cnt σ) : pm_wp M G B pc loc (.int (nI a) :: st) cs zs cnt σ :=
  pm_if_ne hG hd ht (fun q => kt (fun e => q ((nI_eq ha (by decide)).mpr e))) (fun q => kf ((nI_eq ha (by decide)).mp q))
theorem pm_ifN_lt {a : Nat} {off : Int} {tgt : Nat} (hG : pm_ok M G B) (hd : pm_dec M pc (.ifCond .lt off, 3) pc') (ht : pm_br pc off tgt) (ha : a < 2 ^ 31) (kf : pm_wp M G B pc' loc st cs zs cnt σ) : pm_wp M G B pc loc (.int (nI a) :: st) cs zs cnt σ :=
  pm_if_lt hG hd ht (fun q => absurd q (nI_pos ha)) (fun _ => kf)
theorem pm_ifN_ge {a : Nat} {off : Int} {tgt : Nat} (hG : pm_ok M G B) (hd : pm_dec M pc (.ifCond .ge off, 3) pc') (ht : pm_br pc off tgt) (ha : a < 2 ^ 31) (kt : pm_wp M G B tgt loc st cs zs cnt σ) : pm_wp M G B pc loc (.int (nI a) :: st) cs zs cnt σ :=
  pm_if_ge hG hd ht (fun _ => kt) (fun q => absurd (nI_pos' ha) q)
theorem pm_ifN_gt {a : Nat} {off : Int} {tgt : Nat} (hG : pm_ok M G B) (hd : pm_dec M pc (.ifCond .gt off, 3) pc') (ht : pm_br pc off tgt) (ha : a < 2 ^ 31) (kt : 0 < a → pm_wp M G B tgt loc st cs zs cnt σ) (kf : a = 0 → pm_wp M G B pc' loc st cs zs cnt σ) : pm_wp M G B pc loc (.int (nI a) :: st) cs zs cnt σ :=
  pm_if_gt hG hd ht (fun q => kt ((nI_ltI (by decide) ha).mp q)) (fun q => kf (by
    have h : ¬ 0 < a := fun e => q ((nI_ltI (a := 0) (by decide) ha).mpr e)
    omega))
theorem pm_ifN_le {a : Nat} {off : Int} {tgt : Nat} (hG : pm_ok M G B) (hd : pm_dec M pc (.ifCond .le off, 3) pc') (ht : pm_br pc off tgt) (ha : a < 2 ^ 31) (kt : a = 0 → pm_wp M G B tgt loc st cs zs cnt σ) (kf : 0 < a → pm_wp M G B pc' loc st cs zs cnt σ) : pm_wp M G B pc loc (.int (nI a) :: st) cs zs cnt σ :=
  pm_if_le hG hd ht (fun q => kt (by
    have h : a ≤ 0 := (nI_leI (b := 0) ha (by decide)).mp q
    omega)) (fun q => kf (by
    have h : ¬ a ≤ 0 := fun e => q ((nI_leI (b := 0) ha (by decide)).mpr e)
    omega))
end PMM
theorem nI_m1 {a : Nat} (h : a < 2 ^ 31) : ¬ nI a = -1 := fun q => nI_pos h (by rw [q]; decide)
theorem in_nat {x : Int32} {a b : Nat} (ha : a < 2 ^ 31) (hb : b < 2 ^ 31) (h1 : ¬ x < nI a) (h2 : ¬ nI b < x) : ∃ k : Nat, (a ≤ k ∧ k ≤ b) ∧ x = nI k := by
  have h3 : ¬ x < 0 := fun q => h1 (Int32.lt_of_lt_of_le q (nI_pos' ha))
  obtain ⟨k, hk, rfl⟩ := nI_of h3
  refine ⟨k, ⟨?_, ?_⟩, rfl⟩
  · exact Nat.le_of_not_lt (fun q => h1 ((nI_ltI hk ha).mpr q))
  · exact Nat.le_of_not_lt (fun q => h2 ((nI_ltI hb hk).mpr q))
theorem in_cnt {x : Int32} {c : Nat} (hc : c < 2 ^ 30) (h1 : ¬ x < 0) (h2 : ¬ nI c - 1 < x) : ∃ k : Nat, k < c ∧ x = nI k := by
  obtain ⟨k, hk, rfl⟩ := nI_of h1
  refine ⟨k, Nat.lt_of_not_le (fun q => h2 ?_), rfl⟩
  rcases c with _ | c
  · exact Int32.lt_of_lt_of_le (by decide) (nI_pos' hk)
  · rw [nI_pred]; exact nI_lt (by omega) hk
theorem nI_inj {a b : Nat} (ha : a < 2 ^ 31) (hb : b < 2 ^ 31) (h : nI a = nI b) : a = b := (nI_eq ha hb).mp h
theorem kd_Rx {e : Nat} (h1 : 50 ≤ e) (h2 : e < 110) : kd e = (1, 10, false) := by
  rw [kd_R (e := e) (k := (e - 50) / 3) (c := (e - 50) % 3) (by omega) (by omega) (by omega)]
  have : (e - 50) % 3 = 0 ∨ (e - 50) % 3 = 1 ∨ (e - 50) % 3 = 2 := by omega
  rcases this with h | h | h <;> rw [h] <;> rfl
theorem kd_PF {e k c : Nat} (he : e = 14 * k + (110 + c)) (hk : k < 20) (h1 : 2 ≤ c) (h2 : c ≤ 3) : kd e = (2, 20, false) := by
  rw [kd_P he hk (by omega)]
  have : c = 2 ∨ c = 3 := by omega
  rcases this with h | h <;> rw [h] <;> rfl
def SZ (z : Nat → Int32) : Prop := ∀ s : Nat, s < 4 → ∃ k : Nat, k < 25 ∧ z s = nI k
theorem SZ.w {z z' : Nat → Int32} {e v : Nat} (ez : z' = upd z e (nI v)) (h : SZ z) (hv : v < 25) : SZ z' := by
  intro s hs
  rw [ez]
  by_cases he : s = e
  · rw [he, pk_us]; exact ⟨v, hv, rfl⟩
  · rw [pk_un he]; exact h s hs
section PMM2
variable {M : pm_M} {G : pm_G} {B pc pc' : Nat} {loc loc' : List (Option Value)} {st : List Value} {cs zs cnt : Nat} {σ : pm_S}
theorem pm_gen {x : Int32} (h : ∀ v : Int32, x = v → pm_wp M G B pc loc (.int v :: st) cs zs cnt σ) : pm_wp M G B pc loc (.int x :: st) cs zs cnt σ := h x rfl
theorem pm_iremM {a b : Nat} (hG : pm_ok M G B) (hd : pm_dec M pc (.irem, 1) pc') (ha : a < 2 ^ 31) (h0 : 0 < b) (hb : b < 2 ^ 31) (k : pm_wp M G B pc' loc (.int (nI (a % b)) :: st) cs zs cnt σ) : pm_wp M G B pc loc (.int (nI b) :: .int (nI a) :: st) cs zs cnt σ :=
  pm_irem hG hd (nI_ne0 h0 hb) (by rw [pk_rem ha h0 hb]; exact k)
theorem pm_le (h : loc = loc') (k : pm_wp M G B pc loc' st cs zs cnt σ) : pm_wp M G B pc loc st cs zs cnt σ := h ▸ k
end PMM2
theorem nI_dn (i : Nat) : nI (i + 1) - nI 1 + (-1) = nI i - nI 1 := by
  have h : nI (i + 1) - nI 1 = nI i := nI_pred i
  rw [h, Int32.sub_eq_add_neg]
  rfl
theorem nIneg_lt {a : Nat} {z : Int32} (ha : a < 2 ^ 31) (hz : z < 0) : ¬ nI a < z := fun q => nI_pos ha (Int32.lt_trans q hz)
theorem nIneg_eq {a : Nat} {z : Int32} (ha : a < 2 ^ 31) (hz : z < 0) : ¬ nI a = z := fun q => nI_pos ha (q ▸ hz)
theorem nIneg_ne {a : Nat} {z : Int32} (ha : a < 2 ^ 31) (hz : z < 0) : ¬ nI a = z := fun q => nI_pos ha (q ▸ hz)
theorem nIneg_le {a : Nat} {z : Int32} (ha : a < 2 ^ 31) (hz : z < 0) : ¬ nI a ≤ z := fun q => nI_pos ha (Int32.lt_of_le_of_lt q hz)
theorem nIneg_ge {a : Nat} {z : Int32} (ha : a < 2 ^ 31) (hz : z < 0) : ¬ ¬ z ≤ nI a := fun q => q (Int32.le_of_lt (Int32.lt_of_lt_of_le hz (nI_pos' ha)))
theorem nIneg_gt {a : Nat} {z : Int32} (ha : a < 2 ^ 31) (hz : z < 0) : ¬ ¬ z < nI a := fun q => q (Int32.lt_of_lt_of_le hz (nI_pos' ha))
/-! the numbers that are bound to others -/
theorem NRx.gen {x : Nat} {n n' : Nat → Int32} {e : Nat} {v : Int32} (en : n' = upd n e v) {j : Nat} (h : j ≠ e) : n' j = n j := by rw [en, pk_un h]
theorem NRx.law {n n' : Nat → Int32} {e : Nat} {v : Int32} (en : n' = upd n e v) (he : e < 514 ∨ 1290 ≤ e) {l : Nat} (hl : l < 12) (h : lawOK n l) : lawOK n' l := by
  obtain ⟨len, q1, q2, q3⟩ := h
  refine ⟨len, by rw [en, pk_un (by omega)]; exact q1, q2, cOK.congr len 0 0 (fun i _ hi => ?_) q3⟩
  show n _ = n' _
  rw [en, pk_un (by omega)]
theorem NRx.town {x t : Nat} {n n' : Nat → Int32} (en : n' = upd n 0 (nI (t + 1))) (h : NRx x n) (ht : t < 100) : NRx x n' := by
  obtain ⟨-, h2, ⟨h3, c, hc, e2, h4⟩, h5⟩ := h
  have g : ∀ j : Nat, j ≠ 0 → n' j = n j := fun j hj => by rw [en, pk_un hj]
  refine ⟨Or.inr (by rw [en, pk_us]; exact nI_ne0 (by omega) (by omega)), fun l hl hx => ?_, ⟨?_, c, hc, by rw [g 2 (by decide)]; exact e2, fun p q1 q2 => by rw [g _ (by omega)]; exact h4 p q1 q2⟩, fun l hl => NRx.law en (by omega) hl (h5 l hl)⟩
  · rw [g _ (by omega), g _ (by omega)]; exact h2 l hl hx
  · rw [stN_congr 20 (fun p _ => g _ (by omega))]; exact h3
theorem NRx.pers {x t c : Nat} {n n' : Nat → Int32} (en : n' = upd n 2 (nI (c + 1))) (h : NRx x n) (ht : n 0 = nI t) (h0 : 0 < t ∧ t < 100) (hc : n 2 = nI c) (hc2 : c < 20) : NRx x n' := by
  obtain ⟨-, h2, ⟨h3, c', hc', e2, h4⟩, h5⟩ := h
  have g : ∀ j : Nat, j ≠ 2 → n' j = n j := fun j hj => by rw [en, pk_un hj]
  have ec : c = c' := nI_inj (by omega) (by omega) (hc.symm.trans e2)
  refine ⟨Or.inr (by rw [g 0 (by decide), ht]; exact nI_ne0 h0.1 (by omega)), fun l hl hx => ?_, ⟨?_, c + 1, by omega, by rw [en, pk_us], fun p q1 q2 => by rw [g _ (by omega)]; exact h4 p (by omega) q2⟩, fun l hl => NRx.law en (by omega) hl (h5 l hl)⟩
  · rw [g _ (by omega), g _ (by omega)]; exact h2 l hl hx
  · rw [stN_congr 20 (fun p _ => g _ (by omega))]; exact h3
theorem NRx.lett {x t c : Nat} {n n' : Nat → Int32} (en : n' = upd n 5 (nI (c + 1))) (h : NRx x n) (ht : n 0 = nI t) (h0 : 0 < t ∧ t < 100) (hc : n 5 = nI c) (hc2 : c < 40) : NRx x n' := by
  obtain ⟨-, h2, ⟨h3, c', hc', e2, h4⟩, h5⟩ := h
  have g : ∀ j : Nat, j ≠ 5 → n' j = n j := fun j hj => by rw [en, pk_un hj]
  refine ⟨Or.inr (by rw [g 0 (by decide), ht]; exact nI_ne0 h0.1 (by omega)), fun l hl hx => ?_, ⟨?_, c', hc', by rw [g 2 (by decide)]; exact e2, fun p q1 q2 => by rw [g _ (by omega)]; exact h4 p q1 q2⟩, fun l hl => NRx.law en (by omega) hl (h5 l hl)⟩
  · rw [g _ (by omega), g _ (by omega)]; exact h2 l hl hx
  · rw [stN_congr 20 (fun p _ => g _ (by omega))]; exact h3
theorem NRx.sent {x l q : Nat} {n n' : Nat → Int32} (en : n' = upd n (12 * l + 1294) (nI q)) (h : NRx x n) (hl : l < 40 ∧ q < 100) : NRx x n' := by
  obtain ⟨h1, h2, ⟨h3, c, hc, e2, h4⟩, h5⟩ := h
  have g : ∀ j : Nat, j ≠ 12 * l + 1294 → n' j = n j := fun j hj => by rw [en, pk_un hj]
  refine ⟨by rw [g 0 (by omega), g 2 (by omega), g 5 (by omega)]; exact h1, fun l' hl' hx => ?_, ⟨?_, c, hc, by rw [g 2 (by omega)]; exact e2, fun p q1 q2 => by rw [g _ (by omega)]; exact h4 p q1 q2⟩, fun l' hl' => NRx.law en (by omega) hl' (h5 l' hl')⟩
  · by_cases e : l' = l
    · subst e; right; rw [en, pk_us]; exact nI_m1 (by omega)
    · rw [g _ (by omega), g _ (by omega)]; exact h2 l' hl' hx
  · rw [stN_congr 20 (fun p _ => g _ (by omega))]; exact h3
theorem NRx.opened {x l : Nat} {n n' : Nat → Int32} {v : Int32} (en : n' = upd n (12 * l + 1296) v) (h : NRx x n) (hs : n (12 * l + 1294) ≠ -1) (hl : l < 40) : NRx x n' := by
  obtain ⟨h1, h2, ⟨h3, c, hc, e2, h4⟩, h5⟩ := h
  have g : ∀ j : Nat, j ≠ 12 * l + 1296 → n' j = n j := fun j hj => by rw [en, pk_un hj]
  refine ⟨by rw [g 0 (by omega), g 2 (by omega), g 5 (by omega)]; exact h1, fun l' hl' hx => ?_, ⟨?_, c, hc, by rw [g 2 (by omega)]; exact e2, fun p q1 q2 => by rw [g _ (by omega)]; exact h4 p q1 q2⟩, fun l' hl' => NRx.law en (by omega) hl' (h5 l' hl')⟩
  · by_cases e : l' = l
    · subst e; right; rw [g _ (by omega)]; exact hs
    · rw [g _ (by omega), g _ (by omega)]; exact h2 l' hl' hx
  · rw [stN_congr 20 (fun p _ => g _ (by omega))]; exact h3
theorem stN_zero {p : Nat} {n n' : Nat → Int32} (en : n' = upd n (14 * p + 121) 0) : ∀ k : Nat, stN n' k ≤ stN n k
  | 0 => Nat.le_refl _
  | k + 1 => by
    have ih := stN_zero en k
    unfold stN
    by_cases e : k = p
    · subst e
      have h9 : n' (14 * k + 121) = 0 := by rw [en, pk_us]
      rw [if_pos h9]; omega
    · rw [show n' (14 * k + 121) = n (14 * k + 121) by rw [en, pk_un (by omega)]]; omega
theorem NRx.unseat {x p : Nat} {n n' : Nat → Int32} (en : n' = upd n (14 * p + 121) (nI 0)) (h : NRx x n) (hp : p < 20) : NRx x n' := by
  obtain ⟨h1, h2, ⟨h3, c, hc, e2, h4⟩, h5⟩ := h
  have g : ∀ j : Nat, j ≠ 14 * p + 121 → n' j = n j := fun j hj => by rw [en, pk_un hj]
  refine ⟨by rw [g 0 (by omega), g 2 (by omega), g 5 (by omega)]; exact h1, fun l' hl' hx => ?_, ⟨Nat.le_trans (stN_zero (p := p) en 20) h3, c, hc, by rw [g 2 (by omega)]; exact e2, fun q q1 q2 => ?_⟩, fun l' hl' => NRx.law en (by omega) hl' (h5 l' hl')⟩
  · rw [g _ (by omega), g _ (by omega)]; exact h2 l' hl' hx
  · by_cases e : q = p
    · subst e; rw [en, pk_us]; rfl
    · rw [g _ (by omega)]; exact h4 q q1 q2
theorem NRx.some {x c : Nat} {n : Nat → Int32} (hn : KI n) (hc : n 2 = nI c) (h0 : 0 < c ∧ c < 100) (h : NRx x n) : ∃ t : Nat, (0 < t ∧ t < 11) ∧ n 0 = nI t := by
  obtain ⟨t, ht, e⟩ := KI.nat hn (show kd 0 = (1, 11, true) by decide)
  refine ⟨t, ⟨?_, ht⟩, e⟩
  rcases h.1 with ⟨q, -⟩ | q
  · rw [hc] at q; exact absurd q (nI_ne0 h0.1 (by omega))
  · rw [e] at q
    rcases t with _ | t
    · exact absurd rfl q
    · omega
theorem NRx.wk {n : Nat → Int32} (x : Nat) (h : NRx 40 n) : NRx x n := ⟨h.1, fun l hl _ => h.2.1 l hl (by omega), h.2.2⟩
theorem NRx.cl {n : Nat → Int32} {x : Nat} (h : NRx x n) (e : n (12 * x + 1296) = -1) : NRx 40 n := by
  refine ⟨h.1, fun l hl _ => ?_, h.2.2⟩
  by_cases q : l = x
  · subst q; exact Or.inl e
  · exact h.2.1 l hl q
theorem NRx.row {l e : Nat} {n n' : Nat → Int32} {v : Int32} (en : n' = upd n e v) (h : NRx l n) (he : 1290 + 12 * l ≤ e ∧ e < 1302 + 12 * l ∧ l < 40) : NRx l n' := by
  obtain ⟨h1, h2, ⟨h3, c, hc, e2, h4⟩, h5⟩ := h
  have g : ∀ j : Nat, j ≠ e → n' j = n j := fun j hj => by rw [en, pk_un hj]
  refine ⟨by rw [g 0 (by omega), g 2 (by omega), g 5 (by omega)]; exact h1, fun l' hl' hx => ?_, ⟨?_, c, hc, by rw [g 2 (by omega)]; exact e2, fun p q1 q2 => by rw [g _ (by omega)]; exact h4 p q1 q2⟩, fun l' hl' => NRx.law en (by omega) hl' (h5 l' hl')⟩
  · rw [g _ (by omega), g _ (by omega)]; exact h2 l' hl' hx
  · rw [stN_congr 20 (fun p _ => g _ (by omega))]; exact h3
theorem stN_one {p : Nat} {n n' : Nat → Int32} {v : Int32} (en : n' = upd n (14 * p + 121) v) : ∀ k : Nat, stN n' k ≤ stN n k + 1 ∧ (k ≤ p → stN n' k = stN n k)
  | 0 => ⟨Nat.le_add_right _ _, fun _ => rfl⟩
  | k + 1 => by
    have ih := stN_one en k
    unfold stN
    by_cases e : k = p
    · subst e
      have h9 := ih.2 (Nat.le_refl _)
      refine ⟨?_, fun q => by omega⟩
      split <;> split <;> omega
    · have e9 : n' (14 * k + 121) = n (14 * k + 121) := by rw [en, pk_un (by omega)]
      rw [e9]
      refine ⟨by omega, fun q => by rw [ih.2 (by omega)]⟩
theorem stN_tail {n : Nat → Int32} {c : Nat} (h : ∀ p : Nat, c ≤ p → p < 20 → n (14 * p + 121) = 0) : ∀ k : Nat, c ≤ k → k ≤ 20 → stN n k = stN n c := by
  intro k hk
  induction hk with
  | refl => intro _; rfl
  | @step m h1 ih =>
    intro h2
    have e : stN n (m + 1) = stN n m + if n (14 * m + 121) = 0 then 0 else 1 := rfl
    rw [e, ih (by omega), if_pos (h _ h1 (by omega))]; rfl
theorem NRx.seat {x p c : Nat} {n n' : Nat → Int32} {v : Int32} (en : n' = upd n (14 * p + 121) v) (h : NRx x n) (hc : n 2 = nI c) (hp : p < c ∧ c ≤ 20) (h8 : stN n c ≤ 8) : NRx x n' := by
  obtain ⟨h1, h2, ⟨h3, c', hc', e2, h4⟩, h5⟩ := h
  have ec : c = c' := nI_inj (by omega) (by omega) (hc.symm.trans e2)
  subst ec
  have g : ∀ j : Nat, j ≠ 14 * p + 121 → n' j = n j := fun j hj => by rw [en, pk_un hj]
  have h9 := stN_tail h4 20 (by omega) (Nat.le_refl _)
  have h10 := (stN_one en 20).1
  refine ⟨by rw [g 0 (by omega), g 2 (by omega), g 5 (by omega)]; exact h1, fun l' hl' hx => ?_, ⟨by omega, c, hc', by rw [g 2 (by omega)]; exact e2, fun q q1 q2 => by rw [g _ (by omega)]; exact h4 q q1 q2⟩, fun l' hl' => NRx.law en (by omega) hl' (h5 l' hl')⟩
  rw [g _ (by omega), g _ (by omega)]; exact h2 l' hl' hx
theorem NRx.someL {x c : Nat} {n : Nat → Int32} (hn : KI n) (hc : n 5 = nI c) (h0 : 0 < c ∧ c < 100) (h : NRx x n) : ∃ t : Nat, (0 < t ∧ t < 11) ∧ n 0 = nI t := by
  obtain ⟨t, ht, e⟩ := KI.nat hn (show kd 0 = (1, 11, true) by decide)
  refine ⟨t, ⟨?_, ht⟩, e⟩
  rcases h.1 with ⟨-, q⟩ | q
  · rw [hc] at q; exact absurd q (nI_ne0 h0.1 (by omega))
  · rw [e] at q
    rcases t with _ | t
    · exact absurd rfl q
    · omega
theorem KI.sent {n : Nat → Int32} {l : Nat} (hn : KI n) (h : NR n) (hl : l < 40) (ho : ¬ n (12 * l + 1296) = -1) : ∃ k : Nat, k < 20 ∧ n (12 * l + 1294) = nI k := by
  rcases KI.opt hn (show kd (12 * l + 1294) = (2, 20, true) from kd_E (k := l) (c := 4) rfl hl (by decide)) with q | q
  · rcases h.2.1 l hl (by omega) with q2 | q2
    · exact absurd q2 ho
    · exact absurd q q2
  · exact q
def obOK (n : Nat → Int32) (l : Nat) : Prop := (n (12 * l + 1291) = nI 2 → ∃ w : Nat, w < 20 ∧ n (12 * l + 1292) = nI w) ∧ (n (12 * l + 1291) = nI 3 → ∃ w : Nat, w < 12 ∧ n (12 * l + 1292) = nI w)
theorem in_cnt2 {c k : Nat} (hc : c < 2 ^ 30) (hk : k < 2 ^ 31) (h : ¬ nI c - nI 1 < nI k) : k < c := by
  refine Nat.lt_of_not_le (fun q => h ?_)
  rcases c with _ | c
  · exact Int32.lt_of_lt_of_le (by decide) (nI_pos' hk)
  · rw [show nI (c + 1) - nI 1 = nI c from nI_pred c]; exact nI_lt (by omega) hk
theorem KI.eqv {n n' : Nat → Int32} {i : Nat} (h : ∀ j : Nat, j < i → n' j = n j) (hi : 2071 ≤ i) (hn : KI n) : KI n' := by
  intro j
  by_cases hj : j < i
  · rw [h j hj]; exact hn j
  · exact okv_f (kd_O (by omega))
theorem NR.eqv {n n' : Nat → Int32} {i : Nat} (h : ∀ j : Nat, j < i → n' j = n j) (hi : 2071 ≤ i) (hn : NR n) : NR n' := by
  refine NRx.congr hn (fun j hj => h j ?_)
  refine Nat.lt_of_not_le (fun q => ?_)
  rw [kd_O (by omega)] at hj; cases hj
theorem cpy_step {f g g' : Nat → Int32} {i : Nat} {x : Int32} (h : ∀ j : Nat, j < i → g j = f j) (e : g' = upd g i x) (ex : f i = x) : ∀ j : Nat, j < i + 1 → g' j = f j := by
  intro j hj
  rw [e]
  by_cases q : j = i
  · rw [q, pk_us]; exact ex.symm
  · rw [pk_un q]; exact h j (by omega)
def sdI (s : Nat) : Int32 := if s = 0 then -1 else if s = 1 then nI 1 else nI 3
def WH (w : Nat → Int32) : Prop := ∀ j : Nat, ∃ q : Nat, q < 20 ∧ w j = nI q
theorem WH.w {w w' : Nat → Int32} {e v : Nat} (ew : w' = upd w e (nI v)) (h : WH w) (hv : v < 20) : WH w' := by
  intro j
  rw [ew]
  by_cases q : j = e
  · rw [q, pk_us]; exact ⟨v, hv, rfl⟩
  · rw [pk_un q]; exact h j
theorem pm_mid_hi {σ : pm_S} {L : List pm_C} {a : Nat} {x : pm_C} (h : 74 ≤ a) (e : σ a = some x) : pm_mid σ L a = some x := by
  unfold pm_mid; rw [if_neg (by omega), if_neg (by omega)]; exact e
theorem pm_nrw {M : pm_M} {G : pm_G} {B pc : Nat} {loc : List (Option Value)} {st : List Value} {cs zs cnt k : Nat} {σ : pm_S} {L : List pm_C} {x : pm_C} (h : 74 ≤ k) (kk : pm_wp M G B pc loc st cs zs cnt (pm_mid (pm_up σ k x) L)) : pm_wp M G B pc loc st cs zs cnt (pm_up (pm_mid σ L) k x) := by
  have e : pm_up (pm_mid σ L) k x = pm_mid (pm_up σ k x) L := by
    funext j
    unfold pm_up pm_mid
    by_cases h1 : j = k
    · rw [if_pos h1, if_neg (by omega), if_neg (by omega)]; exact (if_pos h1).symm
    · rw [if_neg h1]
      have h3 : (fun j => if j = k then some x else σ j) j = σ j := if_neg h1
      rw [h3]
  rw [e]; exact kk
theorem pm_genB {M : pm_M} {G : pm_G} {B pc : Nat} {loc : List (Option Value)} {st : List Value} {cs zs cnt : Nat} {σ : pm_S} {L : List pm_C} (h : ∀ τ : pm_S, τ = σ → pm_wp M G B pc loc st cs zs cnt (pm_mid τ L)) : pm_wp M G B pc loc st cs zs cnt (pm_mid σ L) := h σ rfl
theorem pm_sh1 {n : Nat} (h : n ≤ 9) : ∃ b : Nat, b ≤ 512 ∧ nI 1 <<< (nI n &&& 31) = nI b := by
  have : n = 0 ∨ n = 1 ∨ n = 2 ∨ n = 3 ∨ n = 4 ∨ n = 5 ∨ n = 6 ∨ n = 7 ∨ n = 8 ∨ n = 9 := by omega
  rcases this with h | h | h | h | h | h | h | h | h | h <;> subst h
  · exact ⟨1, by decide, by decide⟩
  · exact ⟨2, by decide, by decide⟩
  · exact ⟨4, by decide, by decide⟩
  · exact ⟨8, by decide, by decide⟩
  · exact ⟨16, by decide, by decide⟩
  · exact ⟨32, by decide, by decide⟩
  · exact ⟨64, by decide, by decide⟩
  · exact ⟨128, by decide, by decide⟩
  · exact ⟨256, by decide, by decide⟩
  · exact ⟨512, by decide, by decide⟩
theorem lcmp_le {a b c : Nat} (ha : a < 2 ^ 31) (hb : b < 2 ^ 31) (hc : c < 2 ^ 31) (h : ¬ 0 < lg_cmp ((nI a).toInt64 + (nI b).toInt64) (nI c).toInt64) : a + b ≤ c := by
  refine Nat.le_of_not_lt (fun q => h ?_)
  have e1 : ((nI a).toInt64 + (nI b).toInt64).toInt = (a : Int) + b := by
    rw [Int64.toInt_add, Int32.toInt_toInt64, Int32.toInt_toInt64, nI_toInt ha, nI_toInt hb]
    exact Int.bmod_eq_of_le (by omega) (by omega)
  have e2 : ((nI c).toInt64).toInt = (c : Int) := by rw [Int32.toInt_toInt64, nI_toInt hc]
  have e3 : (nI a).toInt64 + (nI b).toInt64 > (nI c).toInt64 := by
    show (nI c).toInt64 < (nI a).toInt64 + (nI b).toInt64
    rw [Int64.lt_iff_toInt_lt, e1, e2]; omega
  unfold lg_cmp
  rw [if_pos e3]; decide
/-! ===== findDays ===== -/
def dW (v : Int32) : Nat := if v = -1 then 100 else v.toNatClampNeg
def dMu (f : Nat → Int32) : Nat → Nat
  | 0 => 0
  | k + 1 => dMu f k + dW (f k)
def dU (f : Nat → Int32) : Nat → Nat
  | 0 => 0
  | k + 1 => dU f k + if f k = -1 then 1 else 0
theorem dMu_out {f : Nat → Int32} {b : Nat} {v : Int32} : ∀ k : Nat, k ≤ b → dMu (upd f b v) k = dMu f k
  | 0, _ => rfl
  | k + 1, h => by unfold dMu; rw [dMu_out k (by omega), pk_un (by omega)]
theorem dU_out {f : Nat → Int32} {b : Nat} {v : Int32} : ∀ k : Nat, k ≤ b → dU (upd f b v) k = dU f k
  | 0, _ => rfl
  | k + 1, h => by unfold dU; rw [dU_out k (by omega), pk_un (by omega)]
theorem dMu_upd {f : Nat → Int32} {b : Nat} {v : Int32} : ∀ k : Nat, b < k → dMu (upd f b v) k + dW (f b) = dMu f k + dW v
  | 0, h => absurd h (Nat.not_lt_zero _)
  | k + 1, h => by
    unfold dMu
    by_cases e : b = k
    · subst e; rw [dMu_out b (Nat.le_refl _), pk_us]; omega
    · have ih := dMu_upd (f := f) (b := b) (v := v) k (by omega)
      rw [pk_un (by omega)]; omega
theorem dU_upd {f : Nat → Int32} {b : Nat} {v : Int32} : ∀ k : Nat, b < k → dU (upd f b v) k + (if f b = -1 then 1 else 0) = dU f k + if v = -1 then 1 else 0
  | 0, h => absurd h (Nat.not_lt_zero _)
  | k + 1, h => by
    unfold dU
    by_cases e : b = k
    · subst e; rw [dU_out b (Nat.le_refl _), pk_us]; omega
    · have ih := dU_upd (f := f) (b := b) (v := v) k (by omega)
      rw [pk_un (by omega)]; omega
def dOK (f : Nat → Int32) : Prop := ∀ t : Nat, t < 10 → f t = -1 ∨ ∃ q : Nat, f t = nI q ∧ q + 9 * dU f 10 ≤ 81
theorem dOK.one {f : Nat → Int32} {b a d : Nat} (h : dOK f) (hb : b < 10) (e : f b = -1) (hd : d ≤ a + 9) (ha : a + 9 * dU f 10 ≤ 81) : dOK (upd f b (nI d)) ∧ dMu (upd f b (nI d)) 10 < dMu f 10 := by
  have hu := dU_upd (f := f) (v := nI d) 10 hb
  have hm := dMu_upd (f := f) (v := nI d) 10 hb
  have hn : ¬ nI d = -1 := nI_m1 (by omega)
  rw [if_pos e, if_neg hn] at hu
  have w1 : dW (f b) = 100 := by unfold dW; rw [if_pos e]
  have w2 : dW (nI d) = d := by unfold dW; rw [if_neg hn, nI_clamp (by omega)]
  refine ⟨fun t ht => ?_, by omega⟩
  by_cases et : t = b
  · subst et; right; rw [pk_us]; exact ⟨d, rfl, by omega⟩
  · rw [pk_un et]
    rcases h t ht with q | ⟨q, q1, q2⟩
    · exact Or.inl q
    · exact Or.inr ⟨q, q1, by omega⟩
theorem dOK.two {f : Nat → Int32} {b c d : Nat} (h : dOK f) (hb : b < 10) (e : f b = nI c) (hc : c + 9 * dU f 10 ≤ 81) (hd : d < c) : dOK (upd f b (nI d)) ∧ dMu (upd f b (nI d)) 10 < dMu f 10 := by
  have hu := dU_upd (f := f) (v := nI d) 10 hb
  have hm := dMu_upd (f := f) (v := nI d) 10 hb
  have hn : ¬ nI d = -1 := nI_m1 (by omega)
  have hn2 : ¬ f b = -1 := by rw [e]; exact nI_m1 (by omega)
  rw [if_neg hn2, if_neg hn] at hu
  have w1 : dW (f b) = c := by unfold dW; rw [if_neg hn2, e, nI_clamp (by omega)]
  have w2 : dW (nI d) = d := by unfold dW; rw [if_neg hn, nI_clamp (by omega)]
  refine ⟨fun t ht => ?_, by omega⟩
  by_cases et : t = b
  · subst et; right; rw [pk_us]; exact ⟨d, rfl, by omega⟩
  · rw [pk_un et]
    rcases h t ht with q | ⟨q, q1, q2⟩
    · exact Or.inl q
    · exact Or.inr ⟨q, q1, by omega⟩
/-- at the start: one 0 at most -/
def dInit (f : Nat → Int32) (x : Int32) (i : Nat) : Prop := ∀ t : Nat, t < i → f t = if nI t = x then nI 0 else -1
theorem dInit.nil {f : Nat → Int32} {x : Int32} : dInit f x 0 := fun _ h => absurd h (Nat.not_lt_zero _)
theorem dInit.step {f g : Nat → Int32} {x v : Int32} {i : Nat} (h : dInit f x i) (e : g = upd f i v) (hv : v = if nI i = x then nI 0 else -1) : dInit g x (i + 1) := by
  intro t ht
  rw [e]
  by_cases et : t = i
  · subst et; rw [pk_us]; exact hv
  · rw [pk_un et]; exact h t (by omega)
theorem dU_ge {f : Nat → Int32} {x : Int32} : ∀ k : Nat, k < 2 ^ 31 → dInit f x k → k ≤ dU f k + 1 ∧ ((∀ t : Nat, t < k → ¬ nI t = x) → k ≤ dU f k)
  | 0, _, _ => ⟨by omega, fun _ => Nat.le_refl _⟩
  | k + 1, hk, h => by
    have ih := dU_ge (f := f) (x := x) k (by omega) (fun t ht => h t (by omega))
    have hl := h k (by omega)
    unfold dU
    by_cases e : nI k = x
    · rw [if_pos e] at hl
      have h0 : ∀ t : Nat, t < k → ¬ nI t = x := fun t ht q => by
        have := nI_inj (a := t) (b := k) (by omega) (by omega) (q.trans e.symm); omega
      have := ih.2 h0
      refine ⟨by omega, fun q => absurd e (q k (by omega))⟩
    · rw [if_neg e] at hl
      rw [if_pos hl]
      refine ⟨by omega, fun q => ?_⟩
      have := ih.2 (fun t ht => q t (by omega)); omega
theorem dU_le {f : Nat → Int32} : ∀ k : Nat, dU f k ≤ k
  | 0 => Nat.le_refl _
  | k + 1 => by
    have := dU_le (f := f) k
    unfold dU; split <;> omega
theorem dU_lt {f : Nat → Int32} {t : Nat} (ht : t < 10) (h : ¬ f t = -1) : dU f 10 ≤ 9 := by
  have h1 : ∀ k : Nat, t < k → dU f k + 1 ≤ k := by
    intro k hk
    induction hk with
    | refl => unfold dU; rw [if_neg h]; have := dU_le (f := f) t; omega
    | step _ ih => unfold dU; split <;> omega
  have := h1 10 ht
  omega
theorem dInit.ok {f : Nat → Int32} {x : Int32} (h : dInit f x 10) : dOK f := by
  intro t ht
  have h1 := h t ht
  by_cases e : nI t = x
  · rw [if_pos e] at h1
    exact Or.inr ⟨0, h1, by
      have := dU_lt (f := f) ht (by rw [h1]; exact nI_m1 (by decide))
      omega⟩
  · rw [if_neg e] at h1; exact Or.inl h1
theorem pm_bt {x : Int32} (h : ¬ x = 0) : (x &&& (x - nI 1)).toBitVec.toNat < x.toBitVec.toNat := by
  have h0 : x.toBitVec.toNat ≠ 0 := fun q => h (Int32.toBitVec_inj.mp (BitVec.eq_of_toNat_eq q))
  rw [Int32.toBitVec_and, BitVec.toNat_and]
  have h1 : (x - nI 1).toBitVec.toNat = x.toBitVec.toNat - 1 := by
    rw [Int32.toBitVec_sub, BitVec.toNat_sub]
    have h2 : (nI 1).toBitVec.toNat = 1 := rfl
    have h3 := x.toBitVec.isLt
    rw [h2]; omega
  have h4 := Nat.and_le_right (n := x.toBitVec.toNat) (m := (x - nI 1).toBitVec.toNat)
  omega
/-! ===== reading a text ===== -/
def rk (b : Int32) : Nat := if b = 124 then 1 else if b = 38 then 2 else if b = 60 ∨ b = 61 ∨ b = 62 then 3 else if b = 43 ∨ b = 45 then 4 else if b = 33 then 5 else 0
theorem rk_le (b : Int32) : rk b ≤ 5 := by
  unfold rk; repeat' split
  all_goals omega
def nmB (b : Int32) : Nat := if b = 97 then 1 else if b = 115 then 2 else if b = 107 then 3 else if b = 99 then 4 else if b = 109 then 5 else if b = 116 then 6 else if b = 98 then 7 else if b = 121 then 8 else if b = 111 then 9 else if b = 119 then 10 else if b = 100 then 11 else 0
theorem nmB_le (b : Int32) : nmB b ≤ 11 := by
  unfold nmB; repeat' split
  all_goals omega
def psh (v : Int32) : Prop := ¬ v ≤ -100 ∧ (v < 0 → ∃ k : Nat, k < 11 ∧ -1 - v = nI k)
theorem psh_n {k : Nat} (h : k < 2 ^ 31) : psh (nI k) := ⟨nIneg_le h (by decide), fun q => absurd q (nI_pos h)⟩
theorem psh_m {k : Nat} (h0 : 0 < k) (h : k < 12) : psh (-nI k) := by
  have : k = 1 ∨ k = 2 ∨ k = 3 ∨ k = 4 ∨ k = 5 ∨ k = 6 ∨ k = 7 ∨ k = 8 ∨ k = 9 ∨ k = 10 ∨ k = 11 := by omega
  rcases this with h | h | h | h | h | h | h | h | h | h | h <;> subst h
  · exact ⟨by decide, fun _ => ⟨0, by decide, by decide⟩⟩
  · exact ⟨by decide, fun _ => ⟨1, by decide, by decide⟩⟩
  · exact ⟨by decide, fun _ => ⟨2, by decide, by decide⟩⟩
  · exact ⟨by decide, fun _ => ⟨3, by decide, by decide⟩⟩
  · exact ⟨by decide, fun _ => ⟨4, by decide, by decide⟩⟩
  · exact ⟨by decide, fun _ => ⟨5, by decide, by decide⟩⟩
  · exact ⟨by decide, fun _ => ⟨6, by decide, by decide⟩⟩
  · exact ⟨by decide, fun _ => ⟨7, by decide, by decide⟩⟩
  · exact ⟨by decide, fun _ => ⟨8, by decide, by decide⟩⟩
  · exact ⟨by decide, fun _ => ⟨9, by decide, by decide⟩⟩
  · exact ⟨by decide, fun _ => ⟨10, by decide, by decide⟩⟩
/-- the first a steps, from an empty row, leave D numbers -/
def pD (f : Nat → Int32) : Nat → Nat → Prop
  | 0, D => D = 0
  | a + 1, D => (psh (f a) ∧ ∃ D' : Nat, D = D' + 1 ∧ pD f a D') ∨ (f a = -133 ∧ 1 ≤ D ∧ pD f a D) ∨ (f a ≤ -100 ∧ ¬ f a = -133 ∧ 1 ≤ D ∧ pD f a (D + 1))
theorem pD.congr {f g : Nat → Int32} : ∀ (a D : Nat), (∀ i : Nat, i < a → f i = g i) → pD f a D → pD g a D
  | 0, _, _, h => h
  | a + 1, D, he, h => by
    have e := he a (by omega)
    have hr : ∀ D' : Nat, pD f a D' → pD g a D' := fun D' => pD.congr a D' (fun i hi => he i (by omega))
    unfold pD at h ⊢
    rw [← e]
    rcases h with ⟨h1, D', h2, h3⟩ | ⟨h1, h2, h3⟩ | ⟨h1, h2, h3, h4⟩
    · exact Or.inl ⟨h1, D', h2, hr _ h3⟩
    · exact Or.inr (Or.inl ⟨h1, h2, hr _ h3⟩)
    · exact Or.inr (Or.inr ⟨h1, h2, h3, hr _ h4⟩)
theorem pD.keep {f g : Nat → Int32} {a D : Nat} {v : Int32} (e : g = upd f a v) (h : pD f a D) : pD g a D := pD.congr a D (fun i hi => by rw [e, pk_un (by omega)]) h
theorem pD.push {f g : Nat → Int32} {a D : Nat} {v : Int32} (e : g = upd f a v) (h : pD f a D) (hv : psh v) : pD g (a + 1) (D + 1) := by
  have h1 := h.keep e
  unfold pD
  left
  refine ⟨?_, D, rfl, h1⟩
  rw [e, pk_us]; exact hv
theorem pD.not {f g : Nat → Int32} {a D : Nat} {v : Int32} (e : g = upd f a v) (h : pD f a D) (hv : v = -133) (hD : 1 ≤ D) : pD g (a + 1) D := by
  have h1 := h.keep e
  unfold pD
  right; left
  refine ⟨?_, hD, h1⟩
  rw [e, pk_us]; exact hv
theorem pD.bin {f g : Nat → Int32} {a D : Nat} {v : Int32} (e : g = upd f a v) (h : pD f a (D + 1)) (hv : v ≤ -100 ∧ ¬ v = -133) (hD : 1 ≤ D) : pD g (a + 1) D := by
  have h1 := h.keep e
  unfold pD
  right; right
  refine ⟨?_, ?_, hD, h1⟩
  · rw [e, pk_us]; exact hv.1
  · rw [e, pk_us]; exact hv.2
theorem pD.ok {f : Nat → Int32} : ∀ (a r D : Nat), pD f a D → cOK f r a D → cOK f (a + r) 0 0
  | 0, r, D, h, h1 => by
    have e : D = 0 := h
    subst e; rw [Nat.zero_add]; exact h1
  | a + 1, r, D, h, h1 => by
    unfold pD at h
    rw [show a + 1 + r = a + (r + 1) by omega]
    rcases h with ⟨h2, D', h3, h4⟩ | ⟨h2, h3, h4⟩ | ⟨h2, h3, h4, h5⟩
    · refine pD.ok a (r + 1) D' h4 ?_
      unfold cOK; left; rw [← h3]; exact ⟨h2.1, h2.2, h1⟩
    · refine pD.ok a (r + 1) D h4 ?_
      unfold cOK; right; left; exact ⟨h2, h3, h1⟩
    · refine pD.ok a (r + 1) (D + 1) h5 ?_
      unfold cOK; right; right; exact ⟨h2, h3, by omega, h1⟩
abbrev isB (b : Int32) : Prop := 1 ≤ rk b ∧ rk b ≤ 4
def vw (b : Int32) : Prop := b = nI 33 ∨ b = nI 40 ∨ isB b
def bn (f : Nat → Int32) : Nat → Nat
  | 0 => 0
  | w + 1 => bn f w + if isB (f w) then 1 else 0
theorem bn_congr {f g : Nat → Int32} : ∀ w : Nat, (∀ i : Nat, i < w → g i = f i) → bn g w = bn f w
  | 0, _ => rfl
  | w + 1, h => by unfold bn; rw [bn_congr w (fun i hi => h i (by omega)), h w (by omega)]
theorem bn_put {f g : Nat → Int32} {w : Nat} {b : Int32} (e : g = upd f w b) : bn g (w + 1) = bn f w + if isB b then 1 else 0 := by
  show bn g w + (if isB (g w) then 1 else 0) = bn f w + if isB b then 1 else 0
  rw [bn_congr (f := f) w (fun i hi => by rw [e, pk_un (by omega)]), e, pk_us]
theorem bn_top {f : Nat → Int32} {w : Nat} (h : ¬ isB (f w)) : bn f (w + 1) = bn f w := by
  show bn f w + (if isB (f w) then 1 else 0) = bn f w
  rw [if_neg h]; rfl
theorem bn_topB {f : Nat → Int32} {w : Nat} (h : isB (f w)) : bn f (w + 1) = bn f w + 1 := by
  show bn f w + (if isB (f w) then 1 else 0) = bn f w + 1
  rw [if_pos h]
theorem vw_put {f g : Nat → Int32} {w : Nat} {b : Int32} (e : g = upd f w b) (h : ∀ i : Nat, i < w → vw (f i)) (hb : vw b) : ∀ i : Nat, i < w + 1 → vw (g i) := by
  intro i hi
  rw [e]
  by_cases q : i = w
  · rw [q, pk_us]; exact hb
  · rw [pk_un q]; exact h i (by omega)
theorem isB_val {b : Int32} (h : isB b) : (-100) - b ≤ -100 ∧ ¬ (-100) - b = -133 := by
  unfold isB rk at h
  split at h
  · next e => rw [e]; decide
  · split at h
    · next e => rw [e]; decide
    · split at h
      · next e => rcases e with e | e | e <;> rw [e] <;> decide
      · split at h
        · next e => rcases e with e | e <;> rw [e] <;> decide
        · split at h <;> omega
theorem isB_33 : ¬ isB (nI 33) := by decide
theorem isB_40 : ¬ isB (nI 40) := by decide
/-- a text half read: a steps, w signs that wait, p bytes; e is 1 behind a value -/
def RI (A : Nat → Nat → Int32) (T a w p e : Nat) : Prop := (a + w ≤ p ∧ p ≤ T ∧ T ≤ 60) ∧ (∀ i : Nat, i < w → vw (A 61 i)) ∧ pD (A 60) a (bn (A 61) w + e) ∧ (e = 0 → p = 0 ∨ 1 ≤ w)
def STL (A A' : Nat → Nat → Int32) (r a w a' w' : Nat) : Prop := A' 61 = A 61 ∧ pD (A' 60) a' (bn (A 61) w' + 1) ∧ (a' + w' = a + w ∧ w' ≤ w) ∧ (∀ i : Nat, w' ≤ i → i < w → r ≤ rk (A 61 i)) ∧ (w' = 0 ∨ rk (A 61 (w' - 1)) < r)
theorem stl_step {fw fa fa2 : Nat → Int32} {r a q : Nat} {x : Int32} (hr : 1 ≤ r) (hx : fw q = x) (hv : vw x) (hk : r ≤ rk x) (hp : pD fa a (bn fw (q + 1) + 1)) (e : fa2 = upd fa a ((-100) - x)) : pD fa2 (a + 1) (bn fw q + 1) := by
  rcases hv with h | h | h
  · rw [bn_top (by rw [hx, h]; exact isB_33)] at hp
    exact hp.not e (by rw [h]; decide) (by omega)
  · rw [h] at hk
    have h9 : rk (nI 40) = 0 := by decide
    omega
  · rw [bn_topB (by rw [hx]; exact h)] at hp
    exact hp.bin e (isB_val h) (by omega)
theorem RI.zero {A : Nat → Nat → Int32} {T : Nat} (h : T ≤ 60) : RI A T 0 0 0 0 := ⟨⟨by omega, by omega, h⟩, fun i hi => absurd hi (Nat.not_lt_zero _), rfl, fun _ => Or.inl rfl⟩
theorem RI.opn {A A1 : Nat → Nat → Int32} {T a w p : Nat} {b : Int32} (h : RI A T a w p 0) (hp : p < T) (hb : b = nI 33 ∨ b = nI 40) (e1 : A1 61 = upd (A 61) w b) (e2 : A1 60 = A 60) : RI A1 T a (w + 1) (p + 1) 0 := by
  obtain ⟨⟨h1, h2, h3⟩, h4, h5, h6⟩ := h
  have hb2 : ¬ isB b := by rcases hb with q | q <;> rw [q] <;> decide
  refine ⟨⟨by omega, by omega, h3⟩, vw_put e1 h4 (by rcases hb with q | q; exact Or.inl q; exact Or.inr (Or.inl q)), ?_, fun _ => Or.inr (by omega)⟩
  rw [bn_put e1, if_neg hb2, e2]; exact h5
theorem RI.val {A A1 : Nat → Nat → Int32} {T a w p p' : Nat} {v : Int32} (h : RI A T a w p 0) (hv : psh v) (e1 : A1 60 = upd (A 60) a v) (e2 : A1 61 = A 61) (hp : p + 1 ≤ p') (hp2 : p' ≤ T) : RI A1 T (a + 1) w p' 1 := by
  obtain ⟨⟨h1, h2, h3⟩, h4, h5, h6⟩ := h
  refine ⟨⟨by omega, hp2, h3⟩, by rw [e2]; exact h4, ?_, fun q => absurd q (by omega)⟩
  rw [e2]; exact h5.push e1 hv
theorem RI.stl {A A1 : Nat → Nat → Int32} {T a w p r a' w' : Nat} (h : RI A T a w p 1) (s : STL A A1 r a w a' w') : RI A1 T a' w' p 1 := by
  obtain ⟨⟨h1, h2, h3⟩, h4, h5, h6⟩ := h
  obtain ⟨s1, s2, s3, s4, s5⟩ := s
  refine ⟨⟨by omega, h2, h3⟩, fun i hi => by rw [s1]; exact h4 i (by omega), by rw [s1]; exact s2, fun q => absurd q (by omega)⟩
theorem RI.opr {A A1 A2 : Nat → Nat → Int32} {T a w p r a' w' : Nat} {x : Int32} (h : RI A T a w p 1) (s : STL A A1 r a w a' w') (hx : isB x) (e1 : A2 61 = upd (A1 61) w' x) (e2 : A2 60 = A1 60) (hp : p < T) : RI A2 T a' (w' + 1) (p + 1) 0 := by
  have h7 := h.stl s
  obtain ⟨⟨h1, h2, h3⟩, h4, h5, h6⟩ := h7
  refine ⟨⟨by omega, by omega, h3⟩, vw_put e1 h4 (Or.inr (Or.inr hx)), ?_, fun _ => Or.inr (by omega)⟩
  rw [bn_put e1, if_pos hx, e2]; exact h5
theorem RI.cls {A A1 : Nat → Nat → Int32} {T a w p a' w' : Nat} (h : RI A T a w p 1) (s : STL A A1 1 a w a' w') (ho : ∃ j : Nat, j < w ∧ A 61 j = nI 40) (hp : p < T) : ∃ q : Nat, w' = q + 1 ∧ RI A1 T a' q (p + 1) 1 := by
  have h7 := h.stl s
  obtain ⟨s1, s2, s3, s4, s5⟩ := s
  obtain ⟨j, hj, ej⟩ := ho
  have h8 : j < w' := Nat.lt_of_not_le (fun q => by
    have h9 := s4 j q hj
    rw [ej] at h9
    have h10 : rk (nI 40) = 0 := by decide
    omega)
  obtain ⟨⟨h1, h2, h3⟩, h4, h5, h6⟩ := h7
  refine ⟨w' - 1, by omega, ⟨by omega, by omega, h3⟩, fun i hi => h4 i (by omega), ?_, fun q => absurd q (by omega)⟩
  have h11 : rk (A 61 (w' - 1)) < 1 := by rcases s5 with q | q <;> omega
  have h12 : bn (A1 61) (w' - 1 + 1) = bn (A1 61) (w' - 1) := bn_top (by rw [s1]; intro q; have := q.1; omega)
  rw [show w' - 1 + 1 = w' by omega] at h12
  rw [← h12]; exact h5
def NRL (l : Nat) (n : Nat → Int32) : Prop :=
  ((n 2 = 0 ∧ n 5 = 0) ∨ n 0 ≠ 0) ∧ (∀ l : Nat, l < 40 → l ≠ 40 → n (12 * l + 1296) = -1 ∨ n (12 * l + 1294) ≠ -1) ∧ (stN n 20 ≤ 9 ∧ ∃ c : Nat, c ≤ 20 ∧ n 2 = nI c ∧ ∀ p : Nat, c ≤ p → p < 20 → n (14 * p + 121) = 0) ∧ ∀ l' : Nat, l' < 12 → l' ≠ l → lawOK n l'
theorem NRL.of {n : Nat → Int32} (l : Nat) (h : NRx 40 n) : NRL l n := ⟨h.1, h.2.1, h.2.2.1, fun l' hl _ => h.2.2.2 l' hl⟩
theorem NRL.w {l e : Nat} {n n' : Nat → Int32} {v : Int32} (en : n' = upd n e v) (h : NRL l n) (he : 65 * l + 514 ≤ e ∧ e < 65 * l + 575 ∧ l < 12) : NRL l n' := by
  obtain ⟨h1, h2, ⟨h3, c, hc, e2, h4⟩, h5⟩ := h
  have g : ∀ j : Nat, j ≠ e → n' j = n j := fun j hj => by rw [en, pk_un hj]
  refine ⟨by rw [g 0 (by omega), g 2 (by omega), g 5 (by omega)]; exact h1, fun l' hl' hx => ?_, ⟨?_, c, hc, by rw [g 2 (by omega)]; exact e2, fun p q1 q2 => by rw [g _ (by omega)]; exact h4 p q1 q2⟩, fun l' hl' hx => ?_⟩
  · rw [g _ (by omega), g _ (by omega)]; exact h2 l' hl' hx
  · rw [stN_congr 20 (fun p _ => g _ (by omega))]; exact h3
  · obtain ⟨len, q1, q2, q3⟩ := h5 l' hl' hx
    refine ⟨len, by rw [g _ (by omega)]; exact q1, q2, cOK.congr len 0 0 (fun i _ hi => ?_) q3⟩
    show n _ = n' _
    rw [g _ (by omega)]
theorem NRL.cl {l a D : Nat} {n f : Nat → Int32} (h : NRL l n) (e : n (65 * l + 514) = nI a) (ha : a ≤ 60) (hc : ∀ j : Nat, j < a → n (65 * l + 515 + j) = f j) (hp : pD f a D) : NRx 40 n := by
  refine ⟨h.1, h.2.1, h.2.2.1, fun l' hl' => ?_⟩
  by_cases q : l' = l
  · subst q
    refine ⟨a, e, ha, cOK.congr a 0 0 (fun i _ hi => ?_) (pD.ok a 0 D hp trivial)⟩
    exact (hc i (by omega)).symm
  · exact h.2.2.2 l' hl' q
theorem kd_Lc {e k c : Nat} (he : e = 65 * k + (510 + c)) (hk : k < 12) (h1 : 5 ≤ c) (h2 : c < 65) : kd e = (0, 0, true) := by
  rw [kd_L he hk h2]; unfold kdLaw; rw [if_neg (by omega), if_neg (by omega)]
theorem cpyL {n n' f : Nat → Int32} {b i e : Nat} {x : Int32} (h : ∀ j : Nat, j < i → n (b + j) = f j) (en : n' = upd n e x) (he : e = b + i) (ex : f i = x) : ∀ j : Nat, j < i + 1 → n' (b + j) = f j := by
  intro j hj
  rw [en]
  by_cases q : j = i
  · rw [q, ← he, pk_us]; exact ex.symm
  · rw [pk_un (by omega)]; exact h j (by omega)
/-! ===== what sheet answers ===== -/
def vS (s b n : Int32) : Int32 := if (s < 0 ∨ 3 < s) ∨ (¬ b = 0 ∧ ¬ (b = 8 ∨ b = 16 ∨ b = 32)) then -1000001 else if ¬ b = 0 ∧ n < 0 then -1000003 else if ¬ b = 0 ∧ 24 < n then -1000001 else 1
theorem vS_a {s b n : Int32} (h : s < 0 ∨ 3 < s) : vS s b n = -1000001 := if_pos (Or.inl h)
theorem vS_b {s b n : Int32} (h : ¬ b = 0) (h1 : ¬ (b = 8 ∨ b = 16 ∨ b = 32)) : vS s b n = -1000001 := if_pos (Or.inr ⟨h, h1⟩)
theorem vS_0 {s b n : Int32} (h : ¬ (s < 0 ∨ 3 < s)) (h1 : b = 8 ∨ b = 16 ∨ b = 32) : ¬ ((s < 0 ∨ 3 < s) ∨ (¬ b = 0 ∧ ¬ (b = 8 ∨ b = 16 ∨ b = 32))) := fun q => q.elim h (fun q => q.2 h1)
theorem vS_c {s b n : Int32} (h : ¬ (s < 0 ∨ 3 < s)) (h1 : b = 8 ∨ b = 16 ∨ b = 32) (h2 : ¬ b = 0) (h3 : n < 0) : vS s b n = -1000003 := by
  unfold vS; rw [if_neg (vS_0 (n := n) h h1), if_pos ⟨h2, h3⟩]
theorem vS_d {s b n : Int32} (h : ¬ (s < 0 ∨ 3 < s)) (h1 : b = 8 ∨ b = 16 ∨ b = 32) (h2 : ¬ b = 0) (h3 : ¬ n < 0) (h4 : 24 < n) : vS s b n = -1000001 := by
  unfold vS; rw [if_neg (vS_0 (n := n) h h1), if_neg (fun q => h3 q.2), if_pos ⟨h2, h4⟩]
theorem vS_e {s b n : Int32} (h : ¬ (s < 0 ∨ 3 < s)) (h1 : b = 8 ∨ b = 16 ∨ b = 32) (h3 : ¬ n < 0) (h4 : ¬ 24 < n) : vS s b n = 1 := by
  unfold vS; rw [if_neg (vS_0 (n := n) h h1), if_neg (fun q => h3 q.2), if_neg (fun q => h4 q.2)]
theorem vS_f {s b n : Int32} (h : ¬ (s < 0 ∨ 3 < s)) (h1 : b = 0) : vS s b n = 1 := by
  unfold vS; rw [if_neg (fun q => q.elim h (fun q => q.1 h1)), if_neg (fun q => q.1 h1), if_neg (fun q => q.1 h1)]
theorem pm_hasS {x v : Int32} (h : v = if x < 0 ∨ 4 ≤ x then 0 else 1) : (v = 1 ∧ ¬ (x < 0 ∨ 3 < x)) ∨ (v = 0 ∧ (x < 0 ∨ 3 < x)) := by
  have e : (4 ≤ x) ↔ (3 < x) := by
    rw [Int32.le_iff_toInt_le, Int32.lt_iff_toInt_lt, show (4 : Int32).toInt = 4 by decide, show (3 : Int32).toInt = 3 by decide]; omega
  by_cases q : x < 0 ∨ 3 < x
  · rw [if_pos (q.imp id e.mpr)] at h; exact Or.inr ⟨h, q⟩
  · rw [if_neg (fun z => q (z.imp id e.mp))] at h; exact Or.inl ⟨h, q⟩
theorem pm_widS {x v : Int32} (h : v = if x = 8 ∨ x = 16 ∨ x = 32 then 1 else 0) : (v = 1 ∧ (x = 8 ∨ x = 16 ∨ x = 32)) ∨ (v = 0 ∧ ¬ (x = 8 ∨ x = 16 ∨ x = 32)) := by
  by_cases q : x = 8 ∨ x = 16 ∨ x = 32
  · rw [if_pos q] at h; exact Or.inl ⟨h, q⟩
  · rw [if_neg q] at h; exact Or.inr ⟨h, q⟩
def md_L (B : Nat) (I : Nat → Int32) (A : Nat → Nat → Int32) (n k z : Nat → Int32) (ac wt pl ps tr im : Int32) : List pm_C := [.inr (12, [.ref (B + 55), .ref (B + 56), .ref (B + 57), .int im, .ref (B + 58), .ref (B + 59), .ref (B + 60), .ref (B + 61), .ref (B + 62), .ref (B + 63), .int ac, .int wt, .int pl, .ref (B + 64), .ref (B + 65), .ref (B + 66), .ref (B + 67), .ref (B + 68), .int ps, .int (I 19), .int (I 20), .ref (B + 69), .int tr, .ref (B + 70), .ref (B + 71), .ref (B + 72), .ref (B + 73)]), .inl (2071, n), .inl (2071, k), .inl (6, A 57), .inl (10, A 58), .inl (20, A 59), .inl (60, A 60), .inl (60, A 61), .inl (60, A 62), .inl (11, A 63), .inl (20, A 64), .inl (20, A 65), .inl (5, A 66), .inl (8, A 67), .inl (8, A 68), .inl (40, A 69), .inl (4, A 70), .inl (4, z), .inl (96, A 72), .inl (24, A 73)]
theorem mdn_now {M : pm_M} {G : pm_G} {B pc : Nat} {loc : List (Option Value)} {st : List Value} {cs zs cnt : Nat} {σ : pm_S} {I : Nat → Int32} {A : Nat → Nat → Int32} {n k z : Nat → Int32} {ac wt pl ps tr im : Int32}  {f : Nat → Int32} (kk : ∀ f' : Nat → Int32, f' = f → pm_wp M G B pc loc st cs zs cnt (pm_mid σ (md_L B I A f' k z ac wt pl ps tr im))) : pm_wp M G B pc loc st cs zs cnt (pm_up (pm_mid σ (md_L B I A n k z ac wt pl ps tr im)) 55 (.inl (2071, f))) := by
  rw [pm_mid_up (by decide) (by decide) (Nat.le_of_ble_eq_true rfl)]; exact kk f rfl
theorem mdn_kept {M : pm_M} {G : pm_G} {B pc : Nat} {loc : List (Option Value)} {st : List Value} {cs zs cnt : Nat} {σ : pm_S} {I : Nat → Int32} {A : Nat → Nat → Int32} {n k z : Nat → Int32} {ac wt pl ps tr im : Int32}  {f : Nat → Int32} (kk : ∀ f' : Nat → Int32, f' = f → pm_wp M G B pc loc st cs zs cnt (pm_mid σ (md_L B I A n f' z ac wt pl ps tr im))) : pm_wp M G B pc loc st cs zs cnt (pm_up (pm_mid σ (md_L B I A n k z ac wt pl ps tr im)) 56 (.inl (2071, f))) := by
  rw [pm_mid_up (by decide) (by decide) (Nat.le_of_ble_eq_true rfl)]; exact kk f rfl
theorem mdn_found {M : pm_M} {G : pm_G} {B pc : Nat} {loc : List (Option Value)} {st : List Value} {cs zs cnt : Nat} {σ : pm_S} {I : Nat → Int32} {A : Nat → Nat → Int32} {n k z : Nat → Int32} {ac wt pl ps tr im : Int32}  {f : Nat → Int32} (kk : ∀ A' : Nat → Nat → Int32, pm_wp M G B pc loc st cs zs cnt (pm_mid σ (md_L B I A' n k z ac wt pl ps tr im))) : pm_wp M G B pc loc st cs zs cnt (pm_up (pm_mid σ (md_L B I A n k z ac wt pl ps tr im)) 57 (.inl (6, f))) := by
  rw [pm_mid_up (by decide) (by decide) (Nat.le_of_ble_eq_true rfl)]; exact kk (ua A 57 f)
theorem mdn_images {M : pm_M} {G : pm_G} {B pc : Nat} {loc : List (Option Value)} {st : List Value} {cs zs cnt : Nat} {σ : pm_S} {I : Nat → Int32} {A : Nat → Nat → Int32} {n k z : Nat → Int32} {ac wt pl ps tr im : Int32}  {v : Int32} (kk : pm_wp M G B pc loc st cs zs cnt (pm_mid σ (md_L B I A n k z ac wt pl ps tr v))) : pm_wp M G B pc loc st cs zs cnt (pm_up (pm_mid σ (md_L B I A n k z ac wt pl ps tr im)) 54 (.inr (12, [.ref (B + 55), .ref (B + 56), .ref (B + 57), .int v, .ref (B + 58), .ref (B + 59), .ref (B + 60), .ref (B + 61), .ref (B + 62), .ref (B + 63), .int ac, .int wt, .int pl, .ref (B + 64), .ref (B + 65), .ref (B + 66), .ref (B + 67), .ref (B + 68), .int ps, .int (I 19), .int (I 20), .ref (B + 69), .int tr, .ref (B + 70), .ref (B + 71), .ref (B + 72), .ref (B + 73)]))) := by
  rw [pm_mid_up (by decide) (by decide) (Nat.le_of_ble_eq_true rfl)]; exact kk
theorem mdn_days {M : pm_M} {G : pm_G} {B pc : Nat} {loc : List (Option Value)} {st : List Value} {cs zs cnt : Nat} {σ : pm_S} {I : Nat → Int32} {A : Nat → Nat → Int32} {n k z : Nat → Int32} {ac wt pl ps tr im : Int32}  {f : Nat → Int32} (kk : ∀ A' : Nat → Nat → Int32, pm_wp M G B pc loc st cs zs cnt (pm_mid σ (md_L B I A' n k z ac wt pl ps tr im))) : pm_wp M G B pc loc st cs zs cnt (pm_up (pm_mid σ (md_L B I A n k z ac wt pl ps tr im)) 58 (.inl (10, f))) := by
  rw [pm_mid_up (by decide) (by decide) (Nat.le_of_ble_eq_true rfl)]; exact kk (ua A 58 f)
theorem mdE_days {M : pm_M} {G : pm_G} {B pc : Nat} {loc : List (Option Value)} {st : List Value} {cs zs cnt : Nat} {σ : pm_S} {I : Nat → Int32} {A : Nat → Nat → Int32} {n k z : Nat → Int32} {ac wt pl ps tr im : Int32}  {f : Nat → Int32} (kk : ∀ A' : Nat → Nat → Int32, A' 58 = f → (∀ j : Nat, j ≠ 58 → A' j = A j) → pm_wp M G B pc loc st cs zs cnt (pm_mid σ (md_L B I A' n k z ac wt pl ps tr im))) : pm_wp M G B pc loc st cs zs cnt (pm_up (pm_mid σ (md_L B I A n k z ac wt pl ps tr im)) 58 (.inl (10, f))) := by
  rw [pm_mid_up (by decide) (by decide) (Nat.le_of_ble_eq_true rfl)]; exact kk (ua A 58 f) ua_eq (fun j hj => ua_ne hj)
theorem mdn_steps {M : pm_M} {G : pm_G} {B pc : Nat} {loc : List (Option Value)} {st : List Value} {cs zs cnt : Nat} {σ : pm_S} {I : Nat → Int32} {A : Nat → Nat → Int32} {n k z : Nat → Int32} {ac wt pl ps tr im : Int32}  {f : Nat → Int32} (kk : ∀ A' : Nat → Nat → Int32, pm_wp M G B pc loc st cs zs cnt (pm_mid σ (md_L B I A' n k z ac wt pl ps tr im))) : pm_wp M G B pc loc st cs zs cnt (pm_up (pm_mid σ (md_L B I A n k z ac wt pl ps tr im)) 59 (.inl (20, f))) := by
  rw [pm_mid_up (by decide) (by decide) (Nat.le_of_ble_eq_true rfl)]; exact kk (ua A 59 f)
theorem mdn_acts {M : pm_M} {G : pm_G} {B pc : Nat} {loc : List (Option Value)} {st : List Value} {cs zs cnt : Nat} {σ : pm_S} {I : Nat → Int32} {A : Nat → Nat → Int32} {n k z : Nat → Int32} {ac wt pl ps tr im : Int32}  {f : Nat → Int32} (kk : ∀ A' : Nat → Nat → Int32, pm_wp M G B pc loc st cs zs cnt (pm_mid σ (md_L B I A' n k z ac wt pl ps tr im))) : pm_wp M G B pc loc st cs zs cnt (pm_up (pm_mid σ (md_L B I A n k z ac wt pl ps tr im)) 60 (.inl (60, f))) := by
  rw [pm_mid_up (by decide) (by decide) (Nat.le_of_ble_eq_true rfl)]; exact kk (ua A 60 f)
theorem mdE_acts {M : pm_M} {G : pm_G} {B pc : Nat} {loc : List (Option Value)} {st : List Value} {cs zs cnt : Nat} {σ : pm_S} {I : Nat → Int32} {A : Nat → Nat → Int32} {n k z : Nat → Int32} {ac wt pl ps tr im : Int32}  {f : Nat → Int32} (kk : ∀ A' : Nat → Nat → Int32, A' 60 = f → (∀ j : Nat, j ≠ 60 → A' j = A j) → pm_wp M G B pc loc st cs zs cnt (pm_mid σ (md_L B I A' n k z ac wt pl ps tr im))) : pm_wp M G B pc loc st cs zs cnt (pm_up (pm_mid σ (md_L B I A n k z ac wt pl ps tr im)) 60 (.inl (60, f))) := by
  rw [pm_mid_up (by decide) (by decide) (Nat.le_of_ble_eq_true rfl)]; exact kk (ua A 60 f) ua_eq (fun j hj => ua_ne hj)
theorem mdn_waits {M : pm_M} {G : pm_G} {B pc : Nat} {loc : List (Option Value)} {st : List Value} {cs zs cnt : Nat} {σ : pm_S} {I : Nat → Int32} {A : Nat → Nat → Int32} {n k z : Nat → Int32} {ac wt pl ps tr im : Int32}  {f : Nat → Int32} (kk : ∀ A' : Nat → Nat → Int32, pm_wp M G B pc loc st cs zs cnt (pm_mid σ (md_L B I A' n k z ac wt pl ps tr im))) : pm_wp M G B pc loc st cs zs cnt (pm_up (pm_mid σ (md_L B I A n k z ac wt pl ps tr im)) 61 (.inl (60, f))) := by
  rw [pm_mid_up (by decide) (by decide) (Nat.le_of_ble_eq_true rfl)]; exact kk (ua A 61 f)
theorem mdE_waits {M : pm_M} {G : pm_G} {B pc : Nat} {loc : List (Option Value)} {st : List Value} {cs zs cnt : Nat} {σ : pm_S} {I : Nat → Int32} {A : Nat → Nat → Int32} {n k z : Nat → Int32} {ac wt pl ps tr im : Int32}  {f : Nat → Int32} (kk : ∀ A' : Nat → Nat → Int32, A' 61 = f → (∀ j : Nat, j ≠ 61 → A' j = A j) → pm_wp M G B pc loc st cs zs cnt (pm_mid σ (md_L B I A' n k z ac wt pl ps tr im))) : pm_wp M G B pc loc st cs zs cnt (pm_up (pm_mid σ (md_L B I A n k z ac wt pl ps tr im)) 61 (.inl (60, f))) := by
  rw [pm_mid_up (by decide) (by decide) (Nat.le_of_ble_eq_true rfl)]; exact kk (ua A 61 f) ua_eq (fun j hj => ua_ne hj)
theorem mdn_row {M : pm_M} {G : pm_G} {B pc : Nat} {loc : List (Option Value)} {st : List Value} {cs zs cnt : Nat} {σ : pm_S} {I : Nat → Int32} {A : Nat → Nat → Int32} {n k z : Nat → Int32} {ac wt pl ps tr im : Int32}  {f : Nat → Int32} (kk : ∀ A' : Nat → Nat → Int32, pm_wp M G B pc loc st cs zs cnt (pm_mid σ (md_L B I A' n k z ac wt pl ps tr im))) : pm_wp M G B pc loc st cs zs cnt (pm_up (pm_mid σ (md_L B I A n k z ac wt pl ps tr im)) 62 (.inl (60, f))) := by
  rw [pm_mid_up (by decide) (by decide) (Nat.le_of_ble_eq_true rfl)]; exact kk (ua A 62 f)
theorem mdn_names {M : pm_M} {G : pm_G} {B pc : Nat} {loc : List (Option Value)} {st : List Value} {cs zs cnt : Nat} {σ : pm_S} {I : Nat → Int32} {A : Nat → Nat → Int32} {n k z : Nat → Int32} {ac wt pl ps tr im : Int32}  {f : Nat → Int32} (kk : ∀ A' : Nat → Nat → Int32, pm_wp M G B pc loc st cs zs cnt (pm_mid σ (md_L B I A' n k z ac wt pl ps tr im))) : pm_wp M G B pc loc st cs zs cnt (pm_up (pm_mid σ (md_L B I A n k z ac wt pl ps tr im)) 63 (.inl (11, f))) := by
  rw [pm_mid_up (by decide) (by decide) (Nat.le_of_ble_eq_true rfl)]; exact kk (ua A 63 f)
theorem mdn_acted {M : pm_M} {G : pm_G} {B pc : Nat} {loc : List (Option Value)} {st : List Value} {cs zs cnt : Nat} {σ : pm_S} {I : Nat → Int32} {A : Nat → Nat → Int32} {n k z : Nat → Int32} {ac wt pl ps tr im : Int32}  {v : Int32} (kk : pm_wp M G B pc loc st cs zs cnt (pm_mid σ (md_L B I A n k z v wt pl ps tr im))) : pm_wp M G B pc loc st cs zs cnt (pm_up (pm_mid σ (md_L B I A n k z ac wt pl ps tr im)) 54 (.inr (12, [.ref (B + 55), .ref (B + 56), .ref (B + 57), .int im, .ref (B + 58), .ref (B + 59), .ref (B + 60), .ref (B + 61), .ref (B + 62), .ref (B + 63), .int v, .int wt, .int pl, .ref (B + 64), .ref (B + 65), .ref (B + 66), .ref (B + 67), .ref (B + 68), .int ps, .int (I 19), .int (I 20), .ref (B + 69), .int tr, .ref (B + 70), .ref (B + 71), .ref (B + 72), .ref (B + 73)]))) := by
  rw [pm_mid_up (by decide) (by decide) (Nat.le_of_ble_eq_true rfl)]; exact kk
theorem mdn_waiting {M : pm_M} {G : pm_G} {B pc : Nat} {loc : List (Option Value)} {st : List Value} {cs zs cnt : Nat} {σ : pm_S} {I : Nat → Int32} {A : Nat → Nat → Int32} {n k z : Nat → Int32} {ac wt pl ps tr im : Int32}  {v : Int32} (kk : pm_wp M G B pc loc st cs zs cnt (pm_mid σ (md_L B I A n k z ac v pl ps tr im))) : pm_wp M G B pc loc st cs zs cnt (pm_up (pm_mid σ (md_L B I A n k z ac wt pl ps tr im)) 54 (.inr (12, [.ref (B + 55), .ref (B + 56), .ref (B + 57), .int im, .ref (B + 58), .ref (B + 59), .ref (B + 60), .ref (B + 61), .ref (B + 62), .ref (B + 63), .int ac, .int v, .int pl, .ref (B + 64), .ref (B + 65), .ref (B + 66), .ref (B + 67), .ref (B + 68), .int ps, .int (I 19), .int (I 20), .ref (B + 69), .int tr, .ref (B + 70), .ref (B + 71), .ref (B + 72), .ref (B + 73)]))) := by
  rw [pm_mid_up (by decide) (by decide) (Nat.le_of_ble_eq_true rfl)]; exact kk
theorem mdn_place {M : pm_M} {G : pm_G} {B pc : Nat} {loc : List (Option Value)} {st : List Value} {cs zs cnt : Nat} {σ : pm_S} {I : Nat → Int32} {A : Nat → Nat → Int32} {n k z : Nat → Int32} {ac wt pl ps tr im : Int32}  {v : Int32} (kk : pm_wp M G B pc loc st cs zs cnt (pm_mid σ (md_L B I A n k z ac wt v ps tr im))) : pm_wp M G B pc loc st cs zs cnt (pm_up (pm_mid σ (md_L B I A n k z ac wt pl ps tr im)) 54 (.inr (12, [.ref (B + 55), .ref (B + 56), .ref (B + 57), .int im, .ref (B + 58), .ref (B + 59), .ref (B + 60), .ref (B + 61), .ref (B + 62), .ref (B + 63), .int ac, .int wt, .int v, .ref (B + 64), .ref (B + 65), .ref (B + 66), .ref (B + 67), .ref (B + 68), .int ps, .int (I 19), .int (I 20), .ref (B + 69), .int tr, .ref (B + 70), .ref (B + 71), .ref (B + 72), .ref (B + 73)]))) := by
  rw [pm_mid_up (by decide) (by decide) (Nat.le_of_ble_eq_true rfl)]; exact kk
theorem mdn_weights {M : pm_M} {G : pm_G} {B pc : Nat} {loc : List (Option Value)} {st : List Value} {cs zs cnt : Nat} {σ : pm_S} {I : Nat → Int32} {A : Nat → Nat → Int32} {n k z : Nat → Int32} {ac wt pl ps tr im : Int32}  {f : Nat → Int32} (kk : ∀ A' : Nat → Nat → Int32, pm_wp M G B pc loc st cs zs cnt (pm_mid σ (md_L B I A' n k z ac wt pl ps tr im))) : pm_wp M G B pc loc st cs zs cnt (pm_up (pm_mid σ (md_L B I A n k z ac wt pl ps tr im)) 64 (.inl (20, f))) := by
  rw [pm_mid_up (by decide) (by decide) (Nat.le_of_ble_eq_true rfl)]; exact kk (ua A 64 f)
theorem mdn_voices {M : pm_M} {G : pm_G} {B pc : Nat} {loc : List (Option Value)} {st : List Value} {cs zs cnt : Nat} {σ : pm_S} {I : Nat → Int32} {A : Nat → Nat → Int32} {n k z : Nat → Int32} {ac wt pl ps tr im : Int32}  {f : Nat → Int32} (kk : ∀ A' : Nat → Nat → Int32, pm_wp M G B pc loc st cs zs cnt (pm_mid σ (md_L B I A' n k z ac wt pl ps tr im))) : pm_wp M G B pc loc st cs zs cnt (pm_up (pm_mid σ (md_L B I A n k z ac wt pl ps tr im)) 65 (.inl (20, f))) := by
  rw [pm_mid_up (by decide) (by decide) (Nat.le_of_ble_eq_true rfl)]; exact kk (ua A 65 f)
theorem mdn_guards {M : pm_M} {G : pm_G} {B pc : Nat} {loc : List (Option Value)} {st : List Value} {cs zs cnt : Nat} {σ : pm_S} {I : Nat → Int32} {A : Nat → Nat → Int32} {n k z : Nat → Int32} {ac wt pl ps tr im : Int32}  {f : Nat → Int32} (kk : ∀ A' : Nat → Nat → Int32, pm_wp M G B pc loc st cs zs cnt (pm_mid σ (md_L B I A' n k z ac wt pl ps tr im))) : pm_wp M G B pc loc st cs zs cnt (pm_up (pm_mid σ (md_L B I A n k z ac wt pl ps tr im)) 66 (.inl (5, f))) := by
  rw [pm_mid_up (by decide) (by decide) (Nat.le_of_ble_eq_true rfl)]; exact kk (ua A 66 f)
theorem mdn_pledges {M : pm_M} {G : pm_G} {B pc : Nat} {loc : List (Option Value)} {st : List Value} {cs zs cnt : Nat} {σ : pm_S} {I : Nat → Int32} {A : Nat → Nat → Int32} {n k z : Nat → Int32} {ac wt pl ps tr im : Int32}  {f : Nat → Int32} (kk : ∀ A' : Nat → Nat → Int32, pm_wp M G B pc loc st cs zs cnt (pm_mid σ (md_L B I A' n k z ac wt pl ps tr im))) : pm_wp M G B pc loc st cs zs cnt (pm_up (pm_mid σ (md_L B I A n k z ac wt pl ps tr im)) 67 (.inl (8, f))) := by
  rw [pm_mid_up (by decide) (by decide) (Nat.le_of_ble_eq_true rfl)]; exact kk (ua A 67 f)
theorem mdn_bestPledges {M : pm_M} {G : pm_G} {B pc : Nat} {loc : List (Option Value)} {st : List Value} {cs zs cnt : Nat} {σ : pm_S} {I : Nat → Int32} {A : Nat → Nat → Int32} {n k z : Nat → Int32} {ac wt pl ps tr im : Int32}  {f : Nat → Int32} (kk : ∀ A' : Nat → Nat → Int32, pm_wp M G B pc loc st cs zs cnt (pm_mid σ (md_L B I A' n k z ac wt pl ps tr im))) : pm_wp M G B pc loc st cs zs cnt (pm_up (pm_mid σ (md_L B I A n k z ac wt pl ps tr im)) 68 (.inl (8, f))) := by
  rw [pm_mid_up (by decide) (by decide) (Nat.le_of_ble_eq_true rfl)]; exact kk (ua A 68 f)
theorem mdn_planSheet {M : pm_M} {G : pm_G} {B pc : Nat} {loc : List (Option Value)} {st : List Value} {cs zs cnt : Nat} {σ : pm_S} {I : Nat → Int32} {A : Nat → Nat → Int32} {n k z : Nat → Int32} {ac wt pl ps tr im : Int32}  {v : Int32} (kk : pm_wp M G B pc loc st cs zs cnt (pm_mid σ (md_L B I A n k z ac wt pl v tr im))) : pm_wp M G B pc loc st cs zs cnt (pm_up (pm_mid σ (md_L B I A n k z ac wt pl ps tr im)) 54 (.inr (12, [.ref (B + 55), .ref (B + 56), .ref (B + 57), .int im, .ref (B + 58), .ref (B + 59), .ref (B + 60), .ref (B + 61), .ref (B + 62), .ref (B + 63), .int ac, .int wt, .int pl, .ref (B + 64), .ref (B + 65), .ref (B + 66), .ref (B + 67), .ref (B + 68), .int v, .int (I 19), .int (I 20), .ref (B + 69), .int tr, .ref (B + 70), .ref (B + 71), .ref (B + 72), .ref (B + 73)]))) := by
  rw [pm_mid_up (by decide) (by decide) (Nat.le_of_ble_eq_true rfl)]; exact kk
theorem mdn_planMost {M : pm_M} {G : pm_G} {B pc : Nat} {loc : List (Option Value)} {st : List Value} {cs zs cnt : Nat} {σ : pm_S} {I : Nat → Int32} {A : Nat → Nat → Int32} {n k z : Nat → Int32} {ac wt pl ps tr im : Int32}  {v : Int32} (kk : ∀ I' : Nat → Int32, pm_wp M G B pc loc st cs zs cnt (pm_mid σ (md_L B I' A n k z ac wt pl ps tr im))) : pm_wp M G B pc loc st cs zs cnt (pm_up (pm_mid σ (md_L B I A n k z ac wt pl ps tr im)) 54 (.inr (12, [.ref (B + 55), .ref (B + 56), .ref (B + 57), .int im, .ref (B + 58), .ref (B + 59), .ref (B + 60), .ref (B + 61), .ref (B + 62), .ref (B + 63), .int ac, .int wt, .int pl, .ref (B + 64), .ref (B + 65), .ref (B + 66), .ref (B + 67), .ref (B + 68), .int ps, .int v, .int (I 20), .ref (B + 69), .int tr, .ref (B + 70), .ref (B + 71), .ref (B + 72), .ref (B + 73)]))) := by
  rw [pm_mid_up (by decide) (by decide) (Nat.le_of_ble_eq_true rfl)]; exact kk (ui I 19 v)
theorem mdn_hasPlan {M : pm_M} {G : pm_G} {B pc : Nat} {loc : List (Option Value)} {st : List Value} {cs zs cnt : Nat} {σ : pm_S} {I : Nat → Int32} {A : Nat → Nat → Int32} {n k z : Nat → Int32} {ac wt pl ps tr im : Int32}  {v : Int32} (kk : ∀ I' : Nat → Int32, pm_wp M G B pc loc st cs zs cnt (pm_mid σ (md_L B I' A n k z ac wt pl ps tr im))) : pm_wp M G B pc loc st cs zs cnt (pm_up (pm_mid σ (md_L B I A n k z ac wt pl ps tr im)) 54 (.inr (12, [.ref (B + 55), .ref (B + 56), .ref (B + 57), .int im, .ref (B + 58), .ref (B + 59), .ref (B + 60), .ref (B + 61), .ref (B + 62), .ref (B + 63), .int ac, .int wt, .int pl, .ref (B + 64), .ref (B + 65), .ref (B + 66), .ref (B + 67), .ref (B + 68), .int ps, .int (I 19), .int v, .ref (B + 69), .int tr, .ref (B + 70), .ref (B + 71), .ref (B + 72), .ref (B + 73)]))) := by
  rw [pm_mid_up (by decide) (by decide) (Nat.le_of_ble_eq_true rfl)]; exact kk (ui I 20 v)
theorem mdn_trace {M : pm_M} {G : pm_G} {B pc : Nat} {loc : List (Option Value)} {st : List Value} {cs zs cnt : Nat} {σ : pm_S} {I : Nat → Int32} {A : Nat → Nat → Int32} {n k z : Nat → Int32} {ac wt pl ps tr im : Int32}  {f : Nat → Int32} (kk : ∀ A' : Nat → Nat → Int32, pm_wp M G B pc loc st cs zs cnt (pm_mid σ (md_L B I A' n k z ac wt pl ps tr im))) : pm_wp M G B pc loc st cs zs cnt (pm_up (pm_mid σ (md_L B I A n k z ac wt pl ps tr im)) 69 (.inl (40, f))) := by
  rw [pm_mid_up (by decide) (by decide) (Nat.le_of_ble_eq_true rfl)]; exact kk (ua A 69 f)
theorem mdn_traced {M : pm_M} {G : pm_G} {B pc : Nat} {loc : List (Option Value)} {st : List Value} {cs zs cnt : Nat} {σ : pm_S} {I : Nat → Int32} {A : Nat → Nat → Int32} {n k z : Nat → Int32} {ac wt pl ps tr im : Int32}  {v : Int32} (kk : pm_wp M G B pc loc st cs zs cnt (pm_mid σ (md_L B I A n k z ac wt pl ps v im))) : pm_wp M G B pc loc st cs zs cnt (pm_up (pm_mid σ (md_L B I A n k z ac wt pl ps tr im)) 54 (.inr (12, [.ref (B + 55), .ref (B + 56), .ref (B + 57), .int im, .ref (B + 58), .ref (B + 59), .ref (B + 60), .ref (B + 61), .ref (B + 62), .ref (B + 63), .int ac, .int wt, .int pl, .ref (B + 64), .ref (B + 65), .ref (B + 66), .ref (B + 67), .ref (B + 68), .int ps, .int (I 19), .int (I 20), .ref (B + 69), .int v, .ref (B + 70), .ref (B + 71), .ref (B + 72), .ref (B + 73)]))) := by
  rw [pm_mid_up (by decide) (by decide) (Nat.le_of_ble_eq_true rfl)]; exact kk
theorem mdn_bitsOf {M : pm_M} {G : pm_G} {B pc : Nat} {loc : List (Option Value)} {st : List Value} {cs zs cnt : Nat} {σ : pm_S} {I : Nat → Int32} {A : Nat → Nat → Int32} {n k z : Nat → Int32} {ac wt pl ps tr im : Int32}  {f : Nat → Int32} (kk : ∀ A' : Nat → Nat → Int32, pm_wp M G B pc loc st cs zs cnt (pm_mid σ (md_L B I A' n k z ac wt pl ps tr im))) : pm_wp M G B pc loc st cs zs cnt (pm_up (pm_mid σ (md_L B I A n k z ac wt pl ps tr im)) 70 (.inl (4, f))) := by
  rw [pm_mid_up (by decide) (by decide) (Nat.le_of_ble_eq_true rfl)]; exact kk (ua A 70 f)
theorem mdn_sizeOf {M : pm_M} {G : pm_G} {B pc : Nat} {loc : List (Option Value)} {st : List Value} {cs zs cnt : Nat} {σ : pm_S} {I : Nat → Int32} {A : Nat → Nat → Int32} {n k z : Nat → Int32} {ac wt pl ps tr im : Int32}  {f : Nat → Int32} (kk : ∀ f' : Nat → Int32, f' = f → pm_wp M G B pc loc st cs zs cnt (pm_mid σ (md_L B I A n k f' ac wt pl ps tr im))) : pm_wp M G B pc loc st cs zs cnt (pm_up (pm_mid σ (md_L B I A n k z ac wt pl ps tr im)) 71 (.inl (4, f))) := by
  rw [pm_mid_up (by decide) (by decide) (Nat.le_of_ble_eq_true rfl)]; exact kk f rfl
theorem mdn_sheets {M : pm_M} {G : pm_G} {B pc : Nat} {loc : List (Option Value)} {st : List Value} {cs zs cnt : Nat} {σ : pm_S} {I : Nat → Int32} {A : Nat → Nat → Int32} {n k z : Nat → Int32} {ac wt pl ps tr im : Int32}  {f : Nat → Int32} (kk : ∀ A' : Nat → Nat → Int32, pm_wp M G B pc loc st cs zs cnt (pm_mid σ (md_L B I A' n k z ac wt pl ps tr im))) : pm_wp M G B pc loc st cs zs cnt (pm_up (pm_mid σ (md_L B I A n k z ac wt pl ps tr im)) 72 (.inl (96, f))) := by
  rw [pm_mid_up (by decide) (by decide) (Nat.le_of_ble_eq_true rfl)]; exact kk (ua A 72 f)
theorem mdn_carried {M : pm_M} {G : pm_G} {B pc : Nat} {loc : List (Option Value)} {st : List Value} {cs zs cnt : Nat} {σ : pm_S} {I : Nat → Int32} {A : Nat → Nat → Int32} {n k z : Nat → Int32} {ac wt pl ps tr im : Int32}  {f : Nat → Int32} (kk : ∀ A' : Nat → Nat → Int32, pm_wp M G B pc loc st cs zs cnt (pm_mid σ (md_L B I A' n k z ac wt pl ps tr im))) : pm_wp M G B pc loc st cs zs cnt (pm_up (pm_mid σ (md_L B I A n k z ac wt pl ps tr im)) 73 (.inl (24, f))) := by
  rw [pm_mid_up (by decide) (by decide) (Nat.le_of_ble_eq_true rfl)]; exact kk (ua A 73 f)
/-! ===== tracked places of now ===== -/
def tS (j : Nat) : Prop := 110 ≤ j ∧ j < 390 ∧ ((j - 110) % 14 = 0 ∨ (j - 110) % 14 = 1 ∨ (j - 110) % 14 = 9 ∨ (j - 110) % 14 = 11)
def KS (n' n : Nat → Int32) : Prop := ∀ j : Nat, tS j → n' j = n j
theorem KS.rf {n : Nat → Int32} : KS n n := fun _ _ => rfl
theorem KS.tr {a b c : Nat → Int32} (h : KS a b) (h2 : KS b c) : KS a c := fun j hj => (h j hj).trans (h2 j hj)
theorem KS.w {n n' n0 : Nat → Int32} {e : Nat} {v : Int32} (en : n' = upd n e v) (h : KS n n0) (he : ¬ tS e) : KS n' n0 := fun j hj => by
  have hne : j ≠ e := fun q => he (by rw [← q]; exact hj)
  rw [en, pk_un hne]; exact h j hj
/-! ===== persons: the model's side; who lives, who is seated ===== -/
def KSh (h : Nat) (n' n : Nat → Int32) : Prop := ∀ j : Nat, tS j → ¬ (h ≤ j ∧ j < h + 14) → n' j = n j
theorem KSh.rf {h : Nat} {n : Nat → Int32} : KSh h n n := fun _ _ _ => rfl
theorem KSh.w {h : Nat} {n n' n0 : Nat → Int32} {e : Nat} {v : Int32} (en : n' = upd n e v) (hk : KSh h n n0) (he : tS e → h ≤ e ∧ e < h + 14) : KSh h n' n0 := fun j hj hh => by
  have hne : j ≠ e := fun q => hh (by rw [q]; exact he (by rw [← q]; exact hj))
  rw [en, pk_un hne]; exact hk j hj hh
def KSs (a b : Nat) (n' n : Nat → Int32) : Prop := ∀ j : Nat, tS j → j ≠ a → j ≠ b → n' j = n j
theorem KSs.rf {a b : Nat} {n : Nat → Int32} : KSs a b n n := fun _ _ _ _ => rfl
theorem KSs.w {a b : Nat} {n n' n0 : Nat → Int32} {e : Nat} {v : Int32} (en : n' = upd n e v) (hk : KSs a b n n0) (he : tS e → e = a ∨ e = b) : KSs a b n' n0 := fun j hj h1 h2 => by
  have hne : j ≠ e := fun q => (he (by rw [← q]; exact hj)).elim (fun z => h1 (q.trans z)) (fun z => h2 (q.trans z))
  rw [en, pk_un hne]; exact hk j hj h1 h2
theorem KSs.tr {a b c : Nat} {n2 n1 n0 : Nat → Int32} (h : KSs c c n2 n1) (h0 : KSs a b n1 n0) (hc : c = a ∨ c = b) : KSs a b n2 n0 := fun j hj h1 h2 =>
  (h j hj (fun q => hc.elim (fun z => h1 (q.trans z)) (fun z => h2 (q.trans z))) (fun q => hc.elim (fun z => h1 (q.trans z)) (fun z => h2 (q.trans z)))).trans (h0 j hj h1 h2)
def mT (n : Nat → Int32) (j : Nat) : Int32 := if j % 14 = 9 then (if n (110 + j) = -1 then 0 else 1) else if j % 14 = 13 then n (108 + j) else n (110 + j)
abbrev pN (n : Nat → Int32) : Nat → Int32 := mT n
theorem mT_0 {n : Nat → Int32} {k : Nat} : mT n (14 * k + 0) = n (14 * k + 110) := by
  unfold mT; rw [if_neg (by omega), if_neg (by omega), show 110 + (14 * k + 0) = 14 * k + 110 by omega]
theorem mT_1 {n : Nat → Int32} {k : Nat} : mT n (14 * k + 1) = n (14 * k + 111) := by
  unfold mT; rw [if_neg (by omega), if_neg (by omega), show 110 + (14 * k + 1) = 14 * k + 111 by omega]
theorem mT_9 {n : Nat → Int32} {k : Nat} : mT n (14 * k + 9) = if n (14 * k + 119) = -1 then 0 else 1 := by
  unfold mT; rw [if_pos (by omega), show 110 + (14 * k + 9) = 14 * k + 119 by omega]
theorem mT_13 {n : Nat → Int32} {k : Nat} : mT n (14 * k + 13) = n (14 * k + 121) := by
  unfold mT; rw [if_neg (by omega), if_pos (by omega), show 108 + (14 * k + 13) = 14 * k + 121 by omega]
/-- the same number where the model's place is the same -/
theorem mT_c {n n' : Nat → Int32} {j : Nat} (h1 : j % 14 = 13 → n' (108 + j) = n (108 + j)) (h2 : ¬ j % 14 = 13 → n' (110 + j) = n (110 + j)) : mT n' j = mT n j := by
  unfold mT
  by_cases q : j % 14 = 9
  · rw [if_pos q, if_pos q, h2 (by omega)]
  · rw [if_neg q, if_neg q]
    by_cases q2 : j % 14 = 13
    · rw [if_pos q2, if_pos q2, h1 q2]
    · rw [if_neg q2, if_neg q2, h2 q2]
theorem par_y {n : Nat → Int32} {x s b x0 x1 : Int32} {k c : Nat} (e : x = nI k) (ec : n 2 = nI c) (hk : k < c) (hc : c < 21) (e0 : n (14 * k + 110) = x0) (h0 : x0 = s) (e1 : n (14 * k + 111) = x1) (h1 : x1 < b) : par (pN n) (n 2) x s b := by
  refine Or.inr ⟨nt_in ec (by omega) e hk, ?_, ?_⟩
  · show mT n (14 * x.toNatClampNeg + 0) = s
    rw [e, nI_clamp (by omega), mT_0, e0]; exact h0
  · show mT n (14 * x.toNatClampNeg + 1) < b
    rw [e, nI_clamp (by omega), mT_1, e1]; exact h1
theorem par_n0 {n : Nat → Int32} {x s b : Int32} {c : Nat} (ec : n 2 = nI c) (hc : c < 21) (h : ¬ x = -1) (nt : x < nI 0 ∨ nI c - nI 1 < x) : ¬ par (pN n) (n 2) x s b := fun q => q.elim h (fun q => q.1 (nt_out ec (by omega) nt))
theorem par_n1 {n : Nat → Int32} {x s b x0 : Int32} {k : Nat} (h : ¬ x = -1) (e : x = nI k) (hk : k < 21) (e0 : n (14 * k + 110) = x0) (h0 : ¬ x0 = s) : ¬ par (pN n) (n 2) x s b := fun q => q.elim h (fun q => h0 (by
  have h1 : mT n (14 * x.toNatClampNeg + 0) = s := q.2.1
  rw [e, nI_clamp (by omega), mT_0, e0] at h1; exact h1))
theorem par_n2 {n : Nat → Int32} {x s b x1 : Int32} {k : Nat} (h : ¬ x = -1) (e : x = nI k) (hk : k < 21) (e1 : n (14 * k + 111) = x1) (h1 : ¬ x1 < b) : ¬ par (pN n) (n 2) x s b := fun q => q.elim h (fun q => h1 (by
  have h2 : mT n (14 * x.toNatClampNeg + 1) < b := q.2.2
  rw [e, nI_clamp (by omega), mT_1, e1] at h2; exact h2))
theorem dv1 {c : Int32} {k : Nat} (e : c = nI k) (hk : k < 2 ^ 31) : c / 100 - 1 = nI (k / 100) - nI 1 := by
  rw [e, show nI k / 100 = nI (k / 100) from pk_div (a := k) (d := 100) hk (by decide) (by decide)]; rfl
theorem rm1 {c : Int32} {k : Nat} (e : c = nI k) (hk : k < 2 ^ 31) : c - c / 100 * 100 - 1 = nI (k % 100) - nI 1 := by
  rw [e, show nI k - nI k / 100 * 100 = nI (k % 100) from pk_rem (a := k) (d := 100) hk (by decide) (by decide)]; rfl
/-- rows of persons that are -/
abbrev t7u (c j : Nat) : Prop := t7 j = true ∧ j < 14 * c
theorem tS_13 {j : Nat} (h : t7 j = true) (h2 : j % 14 = 13) : tS (108 + j) := by
  have h1 := t7_iff.mp h
  unfold tS; omega
theorem tS_n {j : Nat} (h : t7 j = true) (h2 : ¬ j % 14 = 13) : tS (110 + j) := by
  have h1 := t7_iff.mp h
  unfold tS; omega
theorem tP_ok {n n' : Nat → Int32} {s b : Int32} {u : Nat} (hk : KSh (14 * u + 110) n' n) (e0 : n' (14 * u + 110) = s) (e1 : n' (14 * u + 111) = b) (e9 : n' (14 * u + 119) = -1) (e11 : n' (14 * u + 121) = nI 0) (hu : u < 20) : ∀ j : Nat, t7u (u + 1) j → mT n' j = tP (mT n) u s b j := by
  intro j hj
  have h1 := t7_iff.mp hj.1
  have h2 := hj.2
  unfold tP
  by_cases r : 14 * u ≤ j ∧ j < 14 * u + 14
  · rcases (show j = 14 * u + 0 ∨ j = 14 * u + 1 ∨ j = 14 * u + 9 ∨ j = 14 * u + 13 by omega) with rfl | rfl | rfl | rfl
    · rw [mT_0, e0]
      unfold upd pm_apf
      rw [if_neg (by omega), if_pos (by omega), if_pos (by omega)]
    · rw [mT_1, e1]
      unfold upd
      rw [if_pos (by omega)]
    · rw [mT_9, if_pos e9]
      unfold upd pm_apf
      rw [if_neg (by omega), if_pos (by omega), if_neg (by omega)]
    · rw [mT_13, e11]
      unfold upd pm_apf
      rw [if_neg (by omega), if_pos (by omega), if_neg (by omega)] <;> rfl
  · have e : mT n' j = mT n j := mT_c (fun q => hk _ (tS_13 hj.1 q) (by omega)) (fun q => hk _ (tS_n hj.1 q) (by omega))
    rw [e]
    unfold upd pm_apf
    rw [if_neg (by omega), if_neg (by omega)]
/-! die -/
theorem lv_y {n : Nat → Int32} {x : Int32} {k c : Nat} (e : x = nI k) (ec : n 2 = nI c) (hk : k < c) (hc : c < 21) (h : n (14 * k + 119) = -1) : lv (mT n) (n 2) x := by
  refine ⟨nt_in ec (by omega) e hk, ?_⟩
  rw [e, nI_clamp (by omega), mT_9, if_pos h]
theorem lv_n {n : Nat → Int32} {x : Int32} {k q : Nat} (e : x = nI k) (hk : k < 21) (h : n (14 * k + 119) = nI q) (hq : q < 2001) : ¬ mT n (14 * x.toNatClampNeg + 9) = 0 := by
  rw [e, nI_clamp (by omega), mT_9, if_neg (by rw [h]; exact nI_m1 (by omega))]; decide
theorem tX_y {n n' : Nat → Int32} {x : Int32} {k c q : Nat} (e : x = nI k) (ec : n 2 = nI c) (hk : k < c) (hc : c < 21) (h : n (14 * k + 119) = -1) (ks : KSs (14 * k + 119) (14 * k + 121) n' n) (e9 : n' (14 * k + 119) = nI q) (hq : q < 2001) (e11 : n' (14 * k + 121) = 0) : ∀ j : Nat, t7u c j → mT n' j = tX (mT n) (n 2) x j := by
  intro j hj
  have h1 := t7_iff.mp hj.1
  unfold tX
  rw [if_pos (lv_y e ec hk hc h), e, nI_clamp (by omega)]
  by_cases q9 : j = 14 * k + 9
  · subst q9
    rw [mT_9, if_neg (by rw [e9]; exact nI_m1 (by omega))]
    unfold upd
    rw [if_pos (by omega)]
  · by_cases q13 : j = 14 * k + 13
    · subst q13
      rw [mT_13, e11]
      unfold upd
      rw [if_neg (by omega), if_pos (by omega)]
    · unfold upd
      rw [if_neg (by omega), if_neg (by omega)]
      exact mT_c (fun q => ks _ (tS_13 hj.1 q) (by omega) (by omega)) (fun q => ks _ (tS_n hj.1 q) (by omega) (by omega))
theorem tX_n {n : Nat → Int32} {x : Int32} {c : Nat} (h : ¬ lv (mT n) (n 2) x) : ∀ j : Nat, t7u c j → mT n j = tX (mT n) (n 2) x j := fun j _ => by
  rw [show tX (mT n) (n 2) x = mT n from if_neg h]
/-! seat -/
theorem cS_st {n : Nat → Int32} {c : Nat} (hn : KI n) (ec : n 2 = nI c) (hc : c < 21) : cS (mT n) (n 2) = stN n c := by
  unfold cS
  rw [ec, nI_clamp (by omega)]
  suffices H : ∀ u : Nat, u ≤ 20 → pm_cnt (fun r => mT n (r * 14 + 13) == 1) u = stN n u from H c (by omega)
  intro u
  induction u with
  | zero => intro _; rfl
  | succ u ih =>
    intro hu
    unfold pm_cnt stN
    rw [ih (by omega), show u * 14 + 13 = 14 * u + 13 by omega, mT_13]
    obtain ⟨k, hk, e⟩ := KI.nat hn (show kd (14 * u + 121) = (1, 2, true) from kd_P (k := u) (c := 11) (by omega) (by omega) (by decide))
    rw [e]
    rcases (show k = 0 ∨ k = 1 by omega) with rfl | rfl <;> rfl
theorem tW_y {n n' : Nat → Int32} {x v : Int32} {k c : Nat} (e : x = nI k) (hk : k < c) (hc : c < 21) (ks : KSs (14 * k + 121) (14 * k + 121) n' n) (e11 : n' (14 * k + 121) = v) : ∀ j : Nat, t7u c j → mT n' j = upd (mT n) (x.toNatClampNeg * 14 + 13) v j := by
  intro j hj
  have h1 := t7_iff.mp hj.1
  rw [e, nI_clamp (by omega)]
  by_cases q13 : j = 14 * k + 13
  · subst q13
    rw [mT_13, e11]
    unfold upd
    rw [if_pos (by omega)]
  · unfold upd
    rw [if_neg (by omega)]
    exact mT_c (fun q => ks _ (tS_13 hj.1 q) (by omega) (by omega)) (fun q => ks _ (tS_n hj.1 q) (by omega) (by omega))
theorem cS_u {T T' : Nat → Int32} {p : Int32} {c : Nat} (ec : p = nI c) (hc : c < 21) (h : ∀ j : Nat, t7u c j → T j = T' j) : cS T p = cS T' p := by
  unfold cS
  rw [ec, nI_clamp (by omega)]
  refine pm_cnt_c c (fun r hr => ?_)
  rw [h (r * 14 + 13) ⟨t7_iff.mpr ⟨by omega, by omega⟩, by omega⟩]
theorem s13_0 {n : Nat → Int32} {x : Int32} {k : Nat} (e : x = nI k) (hk : k < 21) : mT n (14 * x.toNatClampNeg + 13) = n (14 * k + 121) := by
  rw [e, nI_clamp (by omega), mT_13]
