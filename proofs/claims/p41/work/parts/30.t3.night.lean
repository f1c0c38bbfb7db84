/-! ===== pure: a night, both sides alike ===== -/
section NIX
variable {K : Nat → Nat} {S T : FS} {za zb zc zd ze : Int32}
/-! ===== a night: what is counted ===== -/
def mvG (f : Nat → Int32) (i j : Nat) : Nat → Int32 := upd (upd f i (f i - 1)) j (upd f i (f i - 1) j + 1)
def wD (W : (Nat → Int32) → Bool) (f : Nat → Int32) (i j : Nat) : Bool := decide (f i < 1) || (decide (6 ≤ f j) || W (mvG f i j))
def wG (W : (Nat → Int32) → Bool) (f : Nat → Int32) (g : Nat) : Bool := wD W f g (g + 1) && wD W f (g + 1) g
/-- all that guards may do from gate g on -/
def wZ (W : (Nat → Int32) → Bool) (f : Nat → Int32) : Nat → Nat → Bool
  | 0, _ => true
  | r + 1, g => wG W f g && wZ W f r (g + 1)
def wV (W : Nat → Int32 → (Nat → Int32) → Bool) (k : Nat) (m : Int32) (f : Nat → Int32) : Bool := W k m f && wZ (W k m) f (4 - k) k
def wT (W : Nat → Int32 → (Nat → Int32) → Bool) (a : Int32) (k : Nat) (m : Int32) (f : Nat → Int32) : Bool := decide (k < 5) && (decide (f k < m) && (decide (nI k = a) || wV W (k + 1) (m - f k) f))
def wN (a : Int32) : Nat → Nat → Int32 → (Nat → Int32) → Bool
  | 0, _, _, _ => false
  | h + 1, k, m, f => wT (wN a h) a k m f || wV (wN a h) k m f
def bI (b : Bool) : Int32 := if b = true then 1 else 0
theorem bI_s {v : Int32} {b : Bool} (h : v = bI b) : (v = 1 ∧ b = true) ∨ (v = 0 ∧ b = false) := by
  cases b
  · exact Or.inr ⟨h, rfl⟩
  · exact Or.inl ⟨h, rfl⟩
theorem bI_1 {b : Bool} (h : b = true) : 1 = bI b := by subst h; rfl
theorem bI_0 {b : Bool} (h : b = false) : 0 = bI b := by subst h; rfl
theorem and_t {a b : Bool} (h1 : a = true) (h2 : b = true) : (a && b) = true := by subst h1 h2; rfl
theorem and_l {a b : Bool} (h1 : a = false) : (a && b) = false := by subst h1; rfl
theorem and_r {a b : Bool} (h1 : b = false) : (a && b) = false := by subst h1; cases a <;> rfl
theorem or_l {a b : Bool} (h1 : a = true) : (a || b) = true := by subst h1; rfl
theorem or_r {a b : Bool} (h1 : b = true) : (a || b) = true := by subst h1; cases a <;> rfl
theorem or_f {a b : Bool} (h1 : a = false) (h2 : b = false) : (a || b) = false := by subst h1 h2; rfl
theorem dt {p : Prop} [Decidable p] (h : p) : decide p = true := decide_eq_true h
theorem df {p : Prop} [Decidable p] (h : ¬ p) : decide p = false := decide_eq_false h
theorem mv_back {f : Nat → Int32} {i j : Nat} (h : i ≠ j) : upd (upd (mvG f i j) i (mvG f i j i + 1)) j (upd (mvG f i j) i (mvG f i j i + 1) j - 1) = f := by
  have e1 : mvG f i j i = f i - 1 := by
    unfold mvG; rw [pk_un h, pk_us]
  have e2 : mvG f i j j = f j + 1 := by
    unfold mvG; rw [pk_us, pk_un (Ne.symm h)]
  rw [pk_un (Ne.symm h), e1, e2]
  have a1 : ∀ x : Int32, x - 1 + 1 = x := fun x => by first | exact Int32.sub_add_cancel x 1 | simp
  have a2 : ∀ x : Int32, x + 1 - 1 = x := fun x => by first | exact Int32.add_sub_cancel x 1 | simp
  rw [a1, a2]
  funext q
  by_cases q1 : q = j
  · subst q1; rw [pk_us]
  · rw [pk_un q1]
    by_cases q2 : q = i
    · subst q2; rw [pk_us]
    · rw [pk_un q2]; unfold mvG; rw [pk_un q1, pk_un q2]
/-- the model's moves, one behind another -/
def mvs : Nat → List (Nat × Nat)
  | 0 => [(0, 1), (1, 0), (1, 2), (2, 1), (2, 3), (3, 2), (3, 4), (4, 3)]
  | 1 => [(1, 2), (2, 1), (2, 3), (3, 2), (3, 4), (4, 3)]
  | 2 => [(2, 3), (3, 2), (3, 4), (4, 3)]
  | 3 => [(3, 4), (4, 3)]
  | _ => []
def mD (W : (Nat → Int32) → Bool) (f : Nat → Int32) (i j : Nat) : Bool := decide (f i = 0) || (decide (f j = 6) || W (mvG f i j))
def mL (D : Nat → Nat → Bool) : List (Nat × Nat) → Bool
  | [] => true
  | (i, j) :: r => D i j && mL D r
def mV (W : Nat → Int32 → (Nat → Int32) → Bool) (k : Nat) (m : Int32) (f : Nat → Int32) : Bool := W k m f && mL (mD (W k m) f) (mvs k)
def mU (W : Nat → Int32 → (Nat → Int32) → Bool) (a : Int32) (k : Nat) (m : Int32) (f : Nat → Int32) : Bool := decide (nI k = a) || mV W (k + 1) (m - f k) f
def mN (a : Int32) : Nat → Nat → Int32 → (Nat → Int32) → Bool
  | 0, _, _, _ => false
  | h + 1, k, m, f => mV (mN a h) k m f || (decide (f k < m) && mU (mN a h) a k m f)
theorem and_tt {a b : Bool} (h1 : a = true) : (a && b) = b := by subst h1; rfl
theorem or_ff {a b : Bool} (h1 : a = false) : (a || b) = b := by subst h1; rfl
abbrev nO (m h g w : Int32) : Prop := (m < 1 ∨ 20 < m) ∨ (h < 1 ∨ 3 < h) ∨ (g < 0 ∨ 4 < g) ∨ (w < 0 ∨ 1 < w)
def vN1 (a : Int32) (q : Nat) (m : Int32) (f : Nat → Int32) : Int32 := if wT (wN a q) a 0 m f = true then 0 else if wV (wN a q) 0 m f = true then -1 else -1000002
def vN (f : Nat → Int32) (m h g w : Int32) : Int32 := if nO m h g w then -1000001 else if w = 0 then bI (wN g h.toNatClampNeg 0 m f) else vN1 g (h.toNatClampNeg - 1) m f
theorem vN_n {f : Nat → Int32} {m h g w : Int32} (q : nO m h g w) : vN f m h g w = -1000001 := if_pos q
def tM (a : Int32) (q : Nat) (m : Int32) (f : Nat → Int32) : Bool := decide (f 0 < m) && mU (mN a q) a 0 m f
def vM0 (a : Int32) (q : Nat) (m : Int32) (f : Nat → Int32) : Int32 := bI (tM a q m f || mV (mN a q) 0 m f)
def vM1 (a : Int32) (q : Nat) (m : Int32) (f : Nat → Int32) : Int32 := if tM a q m f = true then 0 else if mV (mN a q) 0 m f = true then -1 else -1000002
def vM (f : Nat → Int32) (m h g w : Int32) : Int32 := if nO m h g w then -1000001 else if w = 0 then vM0 g (h.toNatClampNeg - 1) m f else vM1 g (h.toNatClampNeg - 1) m f
theorem vM_n {f : Nat → Int32} {m h g w : Int32} (q : nO m h g w) : vM f m h g w = -1000001 := if_pos q
theorem nbt {b : Bool} (h : b = false) : ¬ b = true := by subst h; decide
theorem vN1_t {a : Int32} {q : Nat} {m : Int32} {f : Nat → Int32} (h : wT (wN a q) a 0 m f = true) : 0 = vN1 a q m f := (if_pos h).symm
theorem vN1_w {a : Int32} {q : Nat} {m : Int32} {f : Nat → Int32} (h : wT (wN a q) a 0 m f = false) (h2 : wV (wN a q) 0 m f = true) : -1 = vN1 a q m f := by
  unfold vN1; rw [if_neg (nbt h), if_pos h2]
theorem vN1_n {a : Int32} {q : Nat} {m : Int32} {f : Nat → Int32} (h : wT (wN a q) a 0 m f = false) (h2 : wV (wN a q) 0 m f = false) : -1000002 = vN1 a q m f := by
  unfold vN1; rw [if_neg (nbt h), if_neg (nbt h2)]
theorem vM1_t {a : Int32} {q : Nat} {m : Int32} {f : Nat → Int32} (h : tM a q m f = true) : 0 = vM1 a q m f := (if_pos h).symm
theorem vM1_w {a : Int32} {q : Nat} {m : Int32} {f : Nat → Int32} (h : tM a q m f = false) (h2 : mV (mN a q) 0 m f = true) : -1 = vM1 a q m f := by
  unfold vM1; rw [if_neg (nbt h), if_pos h2]
theorem vM1_n {a : Int32} {q : Nat} {m : Int32} {f : Nat → Int32} (h : tM a q m f = false) (h2 : mV (mN a q) 0 m f = false) : -1000002 = vM1 a q m f := by
  unfold vM1; rw [if_neg (nbt h), if_neg (nbt h2)]
theorem in3 {x : Int32} (h : ¬ (x < 1 ∨ 3 < x)) : x = 1 ∨ x = 2 ∨ x = 3 := by
  have h1 : ¬ x < 1 := fun q => h (Or.inl q)
  have h2 : ¬ 3 < x := fun q => h (Or.inr q)
  have a1 : (1 : Int32).toInt = 1 := by decide
  have a2 : (3 : Int32).toInt = 3 := by decide
  simp only [Int32.lt_iff_toInt_lt, a1, a2] at h1 h2
  rcases (show x.toInt = 1 ∨ x.toInt = 2 ∨ x.toInt = 3 by omega) with q | q | q
  · exact Or.inl (Int32.toInt_inj.mp (q.trans (by decide)))
  · exact Or.inr (Or.inl (Int32.toInt_inj.mp (q.trans (by decide))))
  · exact Or.inr (Or.inr (Int32.toInt_inj.mp (q.trans (by decide))))
theorem in2 {x : Int32} (h : ¬ (x < 0 ∨ 1 < x)) : x = 0 ∨ x = 1 := by
  have h1 : ¬ x < 0 := fun q => h (Or.inl q)
  have h2 : ¬ 1 < x := fun q => h (Or.inr q)
  have a1 : (0 : Int32).toInt = 0 := by decide
  have a2 : (1 : Int32).toInt = 1 := by decide
  simp only [Int32.lt_iff_toInt_lt, a1, a2] at h1 h2
  rcases (show x.toInt = 0 ∨ x.toInt = 1 by omega) with q | q
  · exact Or.inl (Int32.toInt_inj.mp (q.trans (by decide)))
  · exact Or.inr (Int32.toInt_inj.mp (q.trans (by decide)))
/-! ===== both counts are the same ===== -/
def R5 (f : Nat → Int32) : Prop := ∀ i : Nat, i < 5 → ¬ f i < 0 ∧ ¬ 6 < f i
def A5 (f g : Nat → Int32) : Prop := ∀ i : Nat, i < 5 → f i = g i
theorem A5.mv {f g : Nat → Int32} (h : A5 f g) {i j : Nat} (hi : i < 5) (hj : j < 5) : A5 (mvG f i j) (mvG g i j) := by
  have h1 : A5 (upd f i (f i - 1)) (upd g i (g i - 1)) := by
    intro q hq
    by_cases e : q = i
    · subst e; rw [pk_us, pk_us, h q hq]
    · rw [pk_un e, pk_un e]; exact h q hq
  intro q hq
  unfold mvG
  by_cases e : q = j
  · subst e; rw [pk_us, pk_us, h1 q hq]
  · rw [pk_un e, pk_un e]; exact h1 q hq
theorem i6_s {x : Int32} (h : ¬ x < 0) (h2 : ¬ 6 < x) : (x = 0 ↔ x < 1) ∧ (x = 6 ↔ 6 ≤ x) ∧ (¬ x < 1 → ¬ x - 1 < 0 ∧ ¬ 6 < x - 1) ∧ (¬ 6 ≤ x → ¬ x + 1 < 0 ∧ ¬ 6 < x + 1) := by
  have a0 : (0 : Int32).toInt = 0 := by decide
  have a6 : (6 : Int32).toInt = 6 := by decide
  have h' := h
  have h2' := h2
  simp only [Int32.lt_iff_toInt_lt, a0, a6] at h' h2'
  rcases (show x.toInt = 0 ∨ x.toInt = 1 ∨ x.toInt = 2 ∨ x.toInt = 3 ∨ x.toInt = 4 ∨ x.toInt = 5 ∨ x.toInt = 6 by omega) with q | q | q | q | q | q | q
  · obtain rfl : x = 0 := Int32.toInt_inj.mp (q.trans (by decide))
    decide
  · obtain rfl : x = 1 := Int32.toInt_inj.mp (q.trans (by decide))
    decide
  · obtain rfl : x = 2 := Int32.toInt_inj.mp (q.trans (by decide))
    decide
  · obtain rfl : x = 3 := Int32.toInt_inj.mp (q.trans (by decide))
    decide
  · obtain rfl : x = 4 := Int32.toInt_inj.mp (q.trans (by decide))
    decide
  · obtain rfl : x = 5 := Int32.toInt_inj.mp (q.trans (by decide))
    decide
  · obtain rfl : x = 6 := Int32.toInt_inj.mp (q.trans (by decide))
    decide
theorem R5.mv {f : Nat → Int32} (h : R5 f) {i j : Nat} (hi : i < 5) (hj : j < 5) (hij : i ≠ j) (h1 : ¬ f i < 1) (h2 : ¬ 6 ≤ f j) : R5 (mvG f i j) := by
  intro q hq
  unfold mvG
  by_cases e : q = j
  · subst e
    rw [pk_us, pk_un (Ne.symm hij)]
    exact (i6_s (h q hq).1 (h q hq).2).2.2.2 h2
  · rw [pk_un e]
    by_cases e2 : q = i
    · subst e2
      rw [pk_us]
      exact (i6_s (h q hq).1 (h q hq).2).2.2.1 h1
    · rw [pk_un e2]; exact h q hq
theorem mD_w {W1 W2 : (Nat → Int32) → Bool} (hW : ∀ f g : Nat → Int32, A5 f g → R5 f → W1 f = W2 g) {f g : Nat → Int32} (h : A5 f g) (hr : R5 f) {i j : Nat} (hi : i < 5) (hj : j < 5) (hij : i ≠ j) : mD W1 f i j = wD W2 g i j := by
  have hs := i6_s (hr i hi).1 (hr i hi).2
  have ht := i6_s (hr j hj).1 (hr j hj).2
  unfold mD wD
  rw [← h i hi, ← h j hj]
  by_cases c1 : f i < 1
  · rw [dt c1, dt (hs.1.mpr c1), Bool.true_or, Bool.true_or]
  · rw [df c1, df (fun q => c1 (hs.1.mp q))]
    by_cases c2 : 6 ≤ f j
    · rw [dt c2, dt (ht.2.1.mpr c2), Bool.true_or, Bool.true_or]
    · rw [df c2, df (fun q => c2 (ht.2.1.mp q)), hW _ _ (h.mv hi hj) (hr.mv hi hj hij c1 c2)]
theorem mV_w {W1 W2 : Nat → Int32 → (Nat → Int32) → Bool} {k : Nat} {m : Int32} (hk : k ≤ 3) (hW : ∀ f g : Nat → Int32, A5 f g → R5 f → W1 k m f = W2 k m g) {f g : Nat → Int32} (h : A5 f g) (hr : R5 f) : mV W1 k m f = wV W2 k m g := by
  have hD : ∀ i j : Nat, i < 5 → j < 5 → i ≠ j → mD (W1 k m) f i j = wD (W2 k m) g i j := fun i j hi hj hij => mD_w hW h hr hi hj hij
  unfold mV wV
  rw [hW f g h hr]
  refine congrArg (fun b => W2 k m g && b) ?_
  have h01 := hD 0 1 (by decide) (by decide) (by decide)
  have h10 := hD 1 0 (by decide) (by decide) (by decide)
  have h12 := hD 1 2 (by decide) (by decide) (by decide)
  have h21 := hD 2 1 (by decide) (by decide) (by decide)
  have h23 := hD 2 3 (by decide) (by decide) (by decide)
  have h32 := hD 3 2 (by decide) (by decide) (by decide)
  have h34 := hD 3 4 (by decide) (by decide) (by decide)
  have h43 := hD 4 3 (by decide) (by decide) (by decide)
  rcases (show k = 0 ∨ k = 1 ∨ k = 2 ∨ k = 3 by omega) with rfl | rfl | rfl | rfl
  · show (mD (W1 0 m) f 0 1 && (mD (W1 0 m) f 1 0 && (mD (W1 0 m) f 1 2 && (mD (W1 0 m) f 2 1 && (mD (W1 0 m) f 2 3 && (mD (W1 0 m) f 3 2 && (mD (W1 0 m) f 3 4 && (mD (W1 0 m) f 4 3 && true)))))))) = ((wD (W2 0 m) g 0 1 && wD (W2 0 m) g 1 0) && ((wD (W2 0 m) g 1 2 && wD (W2 0 m) g 2 1) && ((wD (W2 0 m) g 2 3 && wD (W2 0 m) g 3 2) && ((wD (W2 0 m) g 3 4 && wD (W2 0 m) g 4 3) && true))))
    rw [h01, h10, h12, h21, h23, h32, h34, h43]
    simp only [Bool.and_assoc]
  · show (mD (W1 1 m) f 1 2 && (mD (W1 1 m) f 2 1 && (mD (W1 1 m) f 2 3 && (mD (W1 1 m) f 3 2 && (mD (W1 1 m) f 3 4 && (mD (W1 1 m) f 4 3 && true)))))) = ((wD (W2 1 m) g 1 2 && wD (W2 1 m) g 2 1) && ((wD (W2 1 m) g 2 3 && wD (W2 1 m) g 3 2) && ((wD (W2 1 m) g 3 4 && wD (W2 1 m) g 4 3) && true)))
    rw [h12, h21, h23, h32, h34, h43]
    simp only [Bool.and_assoc]
  · show (mD (W1 2 m) f 2 3 && (mD (W1 2 m) f 3 2 && (mD (W1 2 m) f 3 4 && (mD (W1 2 m) f 4 3 && true)))) = ((wD (W2 2 m) g 2 3 && wD (W2 2 m) g 3 2) && ((wD (W2 2 m) g 3 4 && wD (W2 2 m) g 4 3) && true))
    rw [h23, h32, h34, h43]
    simp only [Bool.and_assoc]
  · show (mD (W1 3 m) f 3 4 && (mD (W1 3 m) f 4 3 && true)) = ((wD (W2 3 m) g 3 4 && wD (W2 3 m) g 4 3) && true)
    rw [h34, h43]
    simp only [Bool.and_assoc]
theorem mN_w (a : Int32) : ∀ (h k : Nat) (m : Int32) (f g : Nat → Int32), h + k ≤ 3 → A5 f g → R5 f → mN a h k m f = wN a h k m g := by
  intro h
  induction h with
  | zero => intro k m f g _ _ _; rfl
  | succ h ih =>
    intro k m f g hk hA hr
    have e1 : mV (mN a h) k m f = wV (wN a h) k m g := mV_w (by omega) (fun f g h1 h2 => ih k m f g (by omega) h1 h2) hA hr
    have e2 : mV (mN a h) (k + 1) (m - g k) f = wV (wN a h) (k + 1) (m - g k) g := mV_w (by omega) (fun f g h1 h2 => ih (k + 1) _ f g (by omega) h1 h2) hA hr
    show (mV (mN a h) k m f || (decide (f k < m) && (decide (nI k = a) || mV (mN a h) (k + 1) (m - f k) f))) = ((decide (k < 5) && (decide (g k < m) && (decide (nI k = a) || wV (wN a h) (k + 1) (m - g k) g))) || wV (wN a h) k m g)
    rw [hA k (by omega), e1, e2, dt (show k < 5 by omega), Bool.true_and]
    exact Bool.or_comm _ _
theorem mU_w (a : Int32) (q : Nat) (m : Int32) (f g : Nat → Int32) (hq : q ≤ 2) (hA : A5 f g) (hr : R5 f) : tM a q m f = wT (wN a q) a 0 m g ∧ mV (mN a q) 0 m f = wV (wN a q) 0 m g := by
  have e1 : mV (mN a q) 0 m f = wV (wN a q) 0 m g := mV_w (by omega) (fun f g h1 h2 => mN_w a q 0 m f g (by omega) h1 h2) hA hr
  have e2 : mV (mN a q) 1 (m - g 0) f = wV (wN a q) 1 (m - g 0) g := mV_w (by omega) (fun f g h1 h2 => mN_w a q 1 _ f g (by omega) h1 h2) hA hr
  refine ⟨?_, e1⟩
  show (decide (f 0 < m) && (decide (nI 0 = a) || mV (mN a q) 1 (m - f 0) f)) = (decide (0 < 5) && (decide (g 0 < m) && (decide (nI 0 = a) || wV (wN a q) 1 (m - g 0) g)))
  rw [hA 0 (by omega), e2, dt (show 0 < 5 by decide), Bool.true_and]
theorem vM_w {f g : Nat → Int32} {m h a w : Int32} (hA : A5 f g) (hr : R5 f) : vN g m h a w = vM f m h a w := by
  by_cases q : nO m h a w
  · unfold vN vM; rw [if_pos q, if_pos q]
  · have key : ∀ t : Nat, t ≤ 2 → bI (wN a (t + 1) 0 m g) = vM0 a t m f ∧ vN1 a t m g = vM1 a t m f := by
      intro t ht
      obtain ⟨e1, e2⟩ := mU_w a t m f g ht hA hr
      unfold vM0 vM1 vN1
      rw [e1, e2]
      exact ⟨rfl, rfl⟩
    unfold vN vM
    rw [if_neg q, if_neg q]
    have q2 : ¬ (h < 1 ∨ 3 < h) := fun z => q (Or.inr (Or.inl z))
    rcases in3 q2 with rfl | rfl | rfl
    · rw [show Int32.toNatClampNeg 1 = 0 + 1 by decide, Nat.add_sub_cancel, (key 0 (by decide)).1, (key 0 (by decide)).2]
    · rw [show Int32.toNatClampNeg 2 = 1 + 1 by decide, Nat.add_sub_cancel, (key 1 (by decide)).1, (key 1 (by decide)).2]
    · rw [show Int32.toNatClampNeg 3 = 2 + 1 by decide, Nat.add_sub_cancel, (key 2 (by decide)).1, (key 2 (by decide)).2]
theorem ltc_4 {i : Nat} (h : i < 4) : nI i < 4 := nI_lt (b := 4) h (by decide)
theorem ltc_5 {i : Nat} (h : i < 5) : nI i < 5 := nI_lt (b := 5) h (by decide)
theorem ltc_6 {i : Nat} (h : i < 6) : nI i < 6 := nI_lt (b := 6) h (by decide)
theorem ltc_7 {i : Nat} (h : i < 7) : nI i < 7 := nI_lt (b := 7) h (by decide)
theorem ltc_64 {i : Nat} (h : i < 64) : nI i < 64 := nI_lt (b := 64) h (by decide)
theorem nlc_4 {i : Nat} (h : 4 ≤ i) (g : i < 2 ^ 31) : ¬ nI i < 4 := nI_nlt (b := 4) h g
theorem nlc_5 {i : Nat} (h : 5 ≤ i) (g : i < 2 ^ 31) : ¬ nI i < 5 := nI_nlt (b := 5) h g
theorem bz_I (b : Bool) : bz (bI b) = some (bI b) := by cases b <;> rfl
theorem bI_ne : ¬ bI true = 0 := by decide
/-- a guard goes, and comes back -/
def mS (S : FS) (a i j : Nat) : FS := wA (wA S a i (S.2 a i - 1)) a j ((wA S a i (S.2 a i - 1)).2 a j + 1)
theorem mS_1 {a i j : Nat} : (mS S a i j).1 = S.1 := rfl
theorem mS_e {a i j : Nat} : (mS S a i j).2 a = mvG (S.2 a) i j := by
  unfold mS mvG; rw [wA_e, wA_e]
theorem mS_n {a i j b : Nat} (h : b ≠ a) : (mS S a i j).2 b = S.2 b := by
  unfold mS; rw [wA_n h, wA_n h]
theorem mS_back {a i j : Nat} (h : i ≠ j) : wA (wA (mS S a i j) a i ((mS S a i j).2 a i + 1)) a j ((wA (mS S a i j) a i ((mS S a i j).2 a i + 1)).2 a j - 1) = S := by
  refine Prod.ext rfl (funext fun b => ?_)
  by_cases e : b = a
  · subst e
    rw [wA_e, wA_e, mS_e]; exact mv_back h
  · rw [wA_n e, wA_n e, mS_n e]
theorem imax_n (k : Nat) (h : k < 2 ^ 31) : imax 0 (nI k) = nI k := by
  unfold imax
  by_cases z : (0 : Int32) < nI k
  · rw [if_pos z]
  · rw [if_neg z]
    by_cases k0 : k = 0
    · subst k0; rfl
    · exact absurd (nI_lt (a := 0) (b := k) (by omega) h) z
/-! the class -/
theorem wh_0 (S : FS) (zb zc : Int32) : f_X1_winsWhatever_k0 S zb zc = some (0, S) := by
  unfold f_X1_winsWhatever_k0
  rw [fv_s, fv_s]
  obtain ⟨m, e⟩ : ∃ m : Nat, FU = m + 1 := ⟨4999, rfl⟩
  rw [e, l_X1_winsWhatever_k0_16, show p_X1_winsWithin_k0 S zb zc = 0 from rfl, if_pos rfl]
  split
  · rfl
  · rfl
theorem ta_1 {k : Nat} {m : Int32} (S : FS) (hk : k + 1 ≤ 3) : f_X1_winsByTaking_k1 S (nI k) m = some (bI (wT (wN (S.1 111) 0) (S.1 111) k m (S.2 41)), S) := by
  unfold f_X1_winsByTaking_k1 wT
  rw [if_neg (nI_pos (by omega)), if_pos (ltc_5 (show k < 5 by omega)), ix_nI (show k < 5 by omega) (by decide), fb_s, dt (show k < 5 by omega), Bool.true_and]
  by_cases c1 : S.2 41 k < m
  · rw [if_pos c1, dt c1, Bool.true_and]
    by_cases c2 : nI k = S.1 111
    · rw [if_pos c2, dt c2, Bool.true_or]; rfl
    · rw [if_neg c2, df c2, Bool.false_or, nI_1, wh_0 S, fb_s]
      rw [if_pos rfl]; rfl
  · rw [if_neg c1, df c1, Bool.false_and]; rfl
theorem wa_1 {k : Nat} {m : Int32} (S : FS) (hk : k + 1 ≤ 3) : f_X1_winsByWaiting_k1 S (nI k) m = some (bI (wV (wN (S.1 111) 0) k m (S.2 41)), S) := by
  unfold f_X1_winsByWaiting_k1
  rw [wh_0 S, fb_s]
  rfl
theorem wj_1 {k : Nat} {m : Int32} (S : FS) (hk : k + 1 ≤ 3) : f_X1_winsWithin_k1 S (nI k) m = some (bI (wN (S.1 111) 1 k m (S.2 41)), S) := by
  unfold f_X1_winsWithin_k1
  rw [ta_1 S hk, fb_s, wN]
  cases wT (wN (S.1 111) 0) (S.1 111) k m (S.2 41) with
  | true => rw [if_neg bI_ne, Bool.true_or]; rfl
  | false =>
    rw [if_pos (show bI false = 0 from rfl), wa_1 S hk, fb_s, Bool.false_or]
    cases wV (wN (S.1 111) 0) k m (S.2 41) with
    | true => rw [if_neg bI_ne]; rfl
    | false => rw [if_pos (show bI false = 0 from rfl)]; rfl
theorem de_1 {i j k : Nat} {m : Int32} (S : FS) (hi : i < 5) (hj : j < 5) (hij : i ≠ j) (hk : k + 1 ≤ 3) : f_X1_winsDespite_k1 S (nI i) (nI j) (nI k) m = some (bI (wD (wN (S.1 111) 1 k m) (S.2 41) i j), S) := by
  unfold f_X1_winsDespite_k1 wD
  rw [if_neg (nI_pos (by omega)), if_pos (ltc_5 hi), if_neg (nI_pos (by omega)), if_pos (ltc_5 hj), ix_nI hi (by decide), fb_s, ix_nI hj (by decide)]
  by_cases c1 : S.2 41 i < 1
  · rw [if_pos c1, dt c1, Bool.true_or]; rfl
  · rw [if_neg c1, df c1, Bool.false_or, fb_s]
    by_cases c2 : S.2 41 j < 6
    · rw [if_pos c2, df (fun z => Int32.not_lt.mpr z c2), Bool.false_or, fl_s, fl_s]
      show fb (f_X1_winsWithin_k1 (mS S 41 i j) (nI k) m) _ = _
      rw [wj_1 (mS S 41 i j) hk, fb_s]
      show fl (wA (mS S 41 i j) 41 i ((mS S 41 i j).2 41 i + 1)) _ = _
      rw [fl_s, fl_s, mS_back hij, mS_1, mS_e]
      show fb (bz (bI _)) _ = _
      rw [bz_I, fb_s]
    · rw [if_neg c2, dt (Int32.not_lt.mp c2), Bool.true_or]; rfl
theorem whl_1 {k : Nat} {m : Int32} (S : FS) (hk : k + 1 ≤ 3) : ∀ (r g n : Nat) (b : Bool), g + r = 4 → r < n → l_X1_winsWhatever_k1_16 (nI k) m (fun S13 x13_4 x13_5 => fb (bz x13_4) (fun b14 => some (b14, S13))) n S (bI b) (nI g) = some (bI (b && wZ (wN (S.1 111) 1 k m) (S.2 41) r g), S) := by
  intro r
  induction r with
  | zero =>
    intro g n b hg hn
    obtain ⟨n, rfl⟩ : ∃ n' : Nat, n = n' + 1 := ⟨n - 1, by omega⟩
    rw [l_X1_winsWhatever_k1_16, if_neg (nlc_4 (by omega) (by omega)), bz_I, fb_s, wZ, Bool.and_true]
  | succ r ih =>
    intro g n b hg hn
    obtain ⟨n, rfl⟩ : ∃ n' : Nat, n = n' + 1 := ⟨n - 1, by omega⟩
    rw [l_X1_winsWhatever_k1_16, if_pos (ltc_4 (show g < 4 by omega)), wZ]
    cases b with
    | false => rw [if_pos (show bI false = 0 from rfl), bz_I, fb_s, Bool.false_and]
    | true =>
      rw [if_neg bI_ne, nI_1, de_1 S (by omega) (by omega) (by omega) hk, fb_s, Bool.true_and]
      unfold wG
      cases wD (wN (S.1 111) 1 k m) (S.2 41) g (g + 1) with
      | false =>
        rw [if_pos (show bI false = 0 from rfl)]
        refine (ih (g + 1) n false (by omega) (by omega)).trans ?_
        rw [Bool.false_and, Bool.false_and, Bool.false_and]
      | true =>
        rw [if_neg bI_ne, de_1 S (by omega) (by omega) (by omega) hk, fb_s, Bool.true_and]
        cases wD (wN (S.1 111) 1 k m) (S.2 41) (g + 1) g with
        | false =>
          rw [if_pos (show bI false = 0 from rfl)]
          exact ih (g + 1) n false (by omega) (by omega)
        | true =>
          rw [if_neg bI_ne]
          exact ih (g + 1) n true (by omega) (by omega)
theorem wh_1 {k : Nat} {m : Int32} (S : FS) (hk : k + 1 ≤ 3) : f_X1_winsWhatever_k1 S (nI k) m = some (bI (wV (wN (S.1 111) 1) k m (S.2 41)), S) := by
  unfold f_X1_winsWhatever_k1 wV
  rw [wj_1 S hk, fb_s, fv_s, imax_n k (by omega)]
  exact whl_1 S hk (4 - k) k FU _ (by omega) (FU_lt (by omega))
theorem ta_2 {k : Nat} {m : Int32} (S : FS) (hk : k + 2 ≤ 3) : f_X1_winsByTaking_k2 S (nI k) m = some (bI (wT (wN (S.1 111) 1) (S.1 111) k m (S.2 41)), S) := by
  unfold f_X1_winsByTaking_k2 wT
  rw [if_neg (nI_pos (by omega)), if_pos (ltc_5 (show k < 5 by omega)), ix_nI (show k < 5 by omega) (by decide), fb_s, dt (show k < 5 by omega), Bool.true_and]
  by_cases c1 : S.2 41 k < m
  · rw [if_pos c1, dt c1, Bool.true_and]
    by_cases c2 : nI k = S.1 111
    · rw [if_pos c2, dt c2, Bool.true_or]; rfl
    · rw [if_neg c2, df c2, Bool.false_or, nI_1, wh_1 S (by omega), fb_s]
      cases wV (wN (S.1 111) 1) (k + 1) (m - S.2 41 k) (S.2 41) with
      | true => rw [if_neg bI_ne]; rfl
      | false => rw [if_pos (show bI false = 0 from rfl)]; rfl
  · rw [if_neg c1, df c1, Bool.false_and]; rfl
theorem wa_2 {k : Nat} {m : Int32} (S : FS) (hk : k + 2 ≤ 3) : f_X1_winsByWaiting_k2 S (nI k) m = some (bI (wV (wN (S.1 111) 1) k m (S.2 41)), S) := by
  unfold f_X1_winsByWaiting_k2
  rw [wh_1 S (by omega), fb_s]
  show fb (bz (bI _)) _ = _
  rw [bz_I, fb_s]
theorem wj_2 {k : Nat} {m : Int32} (S : FS) (hk : k + 2 ≤ 3) : f_X1_winsWithin_k2 S (nI k) m = some (bI (wN (S.1 111) 2 k m (S.2 41)), S) := by
  unfold f_X1_winsWithin_k2
  rw [ta_2 S hk, fb_s, wN]
  cases wT (wN (S.1 111) 1) (S.1 111) k m (S.2 41) with
  | true => rw [if_neg bI_ne, Bool.true_or]; rfl
  | false =>
    rw [if_pos (show bI false = 0 from rfl), wa_2 S hk, fb_s, Bool.false_or]
    cases wV (wN (S.1 111) 1) k m (S.2 41) with
    | true => rw [if_neg bI_ne]; rfl
    | false => rw [if_pos (show bI false = 0 from rfl)]; rfl
theorem de_2 {i j k : Nat} {m : Int32} (S : FS) (hi : i < 5) (hj : j < 5) (hij : i ≠ j) (hk : k + 2 ≤ 3) : f_X1_winsDespite_k2 S (nI i) (nI j) (nI k) m = some (bI (wD (wN (S.1 111) 2 k m) (S.2 41) i j), S) := by
  unfold f_X1_winsDespite_k2 wD
  rw [if_neg (nI_pos (by omega)), if_pos (ltc_5 hi), if_neg (nI_pos (by omega)), if_pos (ltc_5 hj), ix_nI hi (by decide), fb_s, ix_nI hj (by decide)]
  by_cases c1 : S.2 41 i < 1
  · rw [if_pos c1, dt c1, Bool.true_or]; rfl
  · rw [if_neg c1, df c1, Bool.false_or, fb_s]
    by_cases c2 : S.2 41 j < 6
    · rw [if_pos c2, df (fun z => Int32.not_lt.mpr z c2), Bool.false_or, fl_s, fl_s]
      show fb (f_X1_winsWithin_k2 (mS S 41 i j) (nI k) m) _ = _
      rw [wj_2 (mS S 41 i j) hk, fb_s]
      show fl (wA (mS S 41 i j) 41 i ((mS S 41 i j).2 41 i + 1)) _ = _
      rw [fl_s, fl_s, mS_back hij, mS_1, mS_e]
      show fb (bz (bI _)) _ = _
      rw [bz_I, fb_s]
    · rw [if_neg c2, dt (Int32.not_lt.mp c2), Bool.true_or]; rfl
theorem whl_2 {k : Nat} {m : Int32} (S : FS) (hk : k + 2 ≤ 3) : ∀ (r g n : Nat) (b : Bool), g + r = 4 → r < n → l_X1_winsWhatever_k2_16 (nI k) m (fun S13 x13_4 x13_5 => fb (bz x13_4) (fun b14 => some (b14, S13))) n S (bI b) (nI g) = some (bI (b && wZ (wN (S.1 111) 2 k m) (S.2 41) r g), S) := by
  intro r
  induction r with
  | zero =>
    intro g n b hg hn
    obtain ⟨n, rfl⟩ : ∃ n' : Nat, n = n' + 1 := ⟨n - 1, by omega⟩
    rw [l_X1_winsWhatever_k2_16, if_neg (nlc_4 (by omega) (by omega)), bz_I, fb_s, wZ, Bool.and_true]
  | succ r ih =>
    intro g n b hg hn
    obtain ⟨n, rfl⟩ : ∃ n' : Nat, n = n' + 1 := ⟨n - 1, by omega⟩
    rw [l_X1_winsWhatever_k2_16, if_pos (ltc_4 (show g < 4 by omega)), wZ]
    cases b with
    | false => rw [if_pos (show bI false = 0 from rfl), bz_I, fb_s, Bool.false_and]
    | true =>
      rw [if_neg bI_ne, nI_1, de_2 S (by omega) (by omega) (by omega) hk, fb_s, Bool.true_and]
      unfold wG
      cases wD (wN (S.1 111) 2 k m) (S.2 41) g (g + 1) with
      | false =>
        rw [if_pos (show bI false = 0 from rfl)]
        refine (ih (g + 1) n false (by omega) (by omega)).trans ?_
        rw [Bool.false_and, Bool.false_and, Bool.false_and]
      | true =>
        rw [if_neg bI_ne, de_2 S (by omega) (by omega) (by omega) hk, fb_s, Bool.true_and]
        cases wD (wN (S.1 111) 2 k m) (S.2 41) (g + 1) g with
        | false =>
          rw [if_pos (show bI false = 0 from rfl)]
          exact ih (g + 1) n false (by omega) (by omega)
        | true =>
          rw [if_neg bI_ne]
          exact ih (g + 1) n true (by omega) (by omega)
theorem wh_2 {k : Nat} {m : Int32} (S : FS) (hk : k + 2 ≤ 3) : f_X1_winsWhatever_k2 S (nI k) m = some (bI (wV (wN (S.1 111) 2) k m (S.2 41)), S) := by
  unfold f_X1_winsWhatever_k2 wV
  rw [wj_2 S hk, fb_s, fv_s, imax_n k (by omega)]
  exact whl_2 S hk (4 - k) k FU _ (by omega) (FU_lt (by omega))
theorem ta_3 {k : Nat} {m : Int32} (S : FS) (hk : k + 3 ≤ 3) : f_X1_winsByTaking_k3 S (nI k) m = some (bI (wT (wN (S.1 111) 2) (S.1 111) k m (S.2 41)), S) := by
  unfold f_X1_winsByTaking_k3 wT
  rw [if_neg (nI_pos (by omega)), if_pos (ltc_5 (show k < 5 by omega)), ix_nI (show k < 5 by omega) (by decide), fb_s, dt (show k < 5 by omega), Bool.true_and]
  by_cases c1 : S.2 41 k < m
  · rw [if_pos c1, dt c1, Bool.true_and]
    by_cases c2 : nI k = S.1 111
    · rw [if_pos c2, dt c2, Bool.true_or]; rfl
    · rw [if_neg c2, df c2, Bool.false_or, nI_1, wh_2 S (by omega), fb_s]
      cases wV (wN (S.1 111) 2) (k + 1) (m - S.2 41 k) (S.2 41) with
      | true => rw [if_neg bI_ne]; rfl
      | false => rw [if_pos (show bI false = 0 from rfl)]; rfl
  · rw [if_neg c1, df c1, Bool.false_and]; rfl
theorem wa_3 {k : Nat} {m : Int32} (S : FS) (hk : k + 3 ≤ 3) : f_X1_winsByWaiting_k3 S (nI k) m = some (bI (wV (wN (S.1 111) 2) k m (S.2 41)), S) := by
  unfold f_X1_winsByWaiting_k3
  rw [wh_2 S (by omega), fb_s]
  show fb (bz (bI _)) _ = _
  rw [bz_I, fb_s]
theorem wj_3 {k : Nat} {m : Int32} (S : FS) (hk : k + 3 ≤ 3) : f_X1_winsWithin_k3 S (nI k) m = some (bI (wN (S.1 111) 3 k m (S.2 41)), S) := by
  unfold f_X1_winsWithin_k3
  rw [ta_3 S hk, fb_s, wN]
  cases wT (wN (S.1 111) 2) (S.1 111) k m (S.2 41) with
  | true => rw [if_neg bI_ne, Bool.true_or]; rfl
  | false =>
    rw [if_pos (show bI false = 0 from rfl), wa_3 S hk, fb_s, Bool.false_or]
    cases wV (wN (S.1 111) 2) k m (S.2 41) with
    | true => rw [if_neg bI_ne]; rfl
    | false => rw [if_pos (show bI false = 0 from rfl)]; rfl
/-! the model -/
def T00 : FS := ((fun _ => 0), (fun _ _ => 0))
def tk2 (k : Nat) : Int32 := nI (2 ^ k - 1)
theorem tk_t : ∀ (k : Fin 4) (g : Fin 5), p_X12_isTaken T00 (tk2 k.val) (nI g.val) = (if g.val < k.val then 1 else 0) ∧ p_X12_isTaken T00 (tk2 k.val) (nI g.val - 1) = (if 0 < g.val ∧ g.val ≤ k.val then 1 else 0) ∧ p_X12_isTaken T00 (tk2 k.val) (nI g.val + 1) = (if g.val + 1 < k.val then 1 else 0) := by decide +kernel
theorem tk_or : ∀ k : Fin 3, tk2 k.val ||| ((1 : Int32) <<< (nI k.val &&& 31)) = tk2 (k.val + 1) := by decide +kernel
theorem tk_g {k g : Nat} (T : FS) (hk : k ≤ 3) (hg : g < 5) : p_X12_isTaken T (tk2 k) (nI g) = (if g < k then 1 else 0) ∧ p_X12_isTaken T (tk2 k) (nI g - 1) = (if 0 < g ∧ g ≤ k then 1 else 0) ∧ p_X12_isTaken T (tk2 k) (nI g + 1) = (if g + 1 < k then 1 else 0) := tk_t ⟨k, by omega⟩ ⟨g, hg⟩
theorem can_x {k g : Nat} {m : Int32} (T : FS) (hk : k ≤ 3) (hg : g < 5) : q_X12_canTake T (tk2 k) m (nI g) = some (bI (decide (g = k) && decide (T.2 66 k < m))) := by
  obtain ⟨e1, e2, e3⟩ := tk_g T hk hg
  unfold q_X12_canTake
  rw [e1, e2, e3, ix_nI hg (by decide)]
  by_cases c1 : g < k
  · rw [if_pos c1, if_neg (by decide), df (show ¬ g = k by omega), Bool.false_and]; rfl
  · rw [if_neg c1, if_pos rfl, fb_s]
    by_cases c2 : g = k
    · subst c2
      rw [dt rfl, Bool.true_and]
      have fin : (if T.2 66 g < m then some (1 : Int32) else some 0) = some (bI (decide (T.2 66 g < m))) := by
        by_cases z : T.2 66 g < m
        · rw [if_pos z, dt z]; rfl
        · rw [if_neg z, df z]; rfl
      by_cases c3 : g = 0
      · subst c3; rw [if_pos (show nI 0 = 0 from rfl)]; exact fin
      · rw [if_neg (nI_ne0 (by omega) (by omega)), if_pos (show 0 < g ∧ g ≤ g by omega), if_neg (by decide)]; exact fin
    · rw [df c2, Bool.false_and]
      rw [if_neg (nI_ne0 (by omega) (by omega)), if_neg (show ¬ (0 < g ∧ g ≤ k) by omega), if_pos rfl, if_neg (show ¬ g + 1 < k by omega), if_pos rfl]; rfl
theorem m1ne {a : Int32} (ha : ¬ a < 0) : ¬ (-1 : Int32) = a := fun q => ha (by rw [← q]; decide)
/-- one move of a guard: nothing where a gate of it is taken -/
def mE (W : (Nat → Int32) → Bool) (f : Nat → Int32) (k i j : Nat) : Bool := if i < k ∨ j < k then true else mD W f i j
theorem mE_L {W : (Nat → Int32) → Bool} {f : Nat → Int32} {k : Nat} (hk : k ≤ 3) : (mE W f k 0 1 && (mE W f k 1 0 && (mE W f k 1 2 && (mE W f k 2 1 && (mE W f k 2 3 && (mE W f k 3 2 && (mE W f k 3 4 && mE W f k 4 3))))))) = mL (mD W f) (mvs k) := by
  unfold mE
  rcases (show k = 0 ∨ k = 1 ∨ k = 2 ∨ k = 3 by omega) with rfl | rfl | rfl | rfl
  all_goals simp [mvs, mL]
theorem in4_t {j : Nat} (S : FS) (hj : j < 5) : p_X12_in S (nI j) 0 4 = 1 := by
  rcases (show j = 0 ∨ j = 1 ∨ j = 2 ∨ j = 3 ∨ j = 4 by omega) with rfl | rfl | rfl | rfl | rfl <;> rfl
theorem FU_le {n : Nat} (h : n ≤ 5000) : n ≤ FU := h
theorem wl_1 {k : Nat} {m a : Int32} (S : FS) (hk : k + 1 ≤ 3) (ha : ¬ a < 0) : ∀ (r g n : Nat), g + r = 5 → r < n → ∀ b : Bool, l_X12_wins_k1_15 (tk2 k) m a S (fun x9_5 x9_6 => fb (bz x9_5) (fun b10 => some b10)) n (bI b) (nI g) = some (bI (b || (decide (g ≤ k) && (decide (S.2 66 k < m) && mU (mN a 0) a k m (S.2 66))))) := by
  intro r
  induction r with
  | zero =>
    intro g n hg hn b
    obtain ⟨n, rfl⟩ : ∃ n' : Nat, n = n' + 1 := ⟨n - 1, by omega⟩
    rw [l_X12_wins_k1_15, if_neg (nlc_5 (by omega) (by omega)), bz_I, fb_s, df (show ¬ g ≤ k by omega), Bool.false_and, Bool.or_false]
  | succ r ih =>
    intro g n hg hn b
    obtain ⟨n, rfl⟩ : ∃ n' : Nat, n = n' + 1 := ⟨n - 1, by omega⟩
    rw [l_X12_wins_k1_15, if_pos (ltc_5 (show g < 5 by omega))]
    cases b with
    | true => rw [if_neg bI_ne, bz_I, fb_s, Bool.true_or]
    | false =>
      rw [if_pos (show bI false = 0 from rfl), can_x S (by omega) (show g < 5 by omega), fb_s, nI_1, Bool.false_or]
      have r0 := ih (g + 1) n (by omega) (by omega)
      by_cases c : g = k
      · subst c
        rw [dt (show g = g from rfl), dt (show g ≤ g by omega), Bool.true_and, Bool.true_and]
        by_cases c2 : S.2 66 g < m
        · rw [dt c2, if_neg bI_ne, Bool.true_and]
          have e : p_X12_winsBy_k1 S (nI g) (tk2 g) m a = bI (mU (mN a 0) a g m (S.2 66)) := by
            unfold p_X12_winsBy_k1 mU
            rw [show mV (mN a 0) (g + 1) (m - S.2 66 g) (S.2 66) = false from rfl, Bool.or_false]
            by_cases c3 : nI g = a
            · rw [if_pos c3, dt c3]; rfl
            · rw [if_neg c3, df c3]; rfl
          rw [e]
          cases mU (mN a 0) a g m (S.2 66) with
          | true =>
            rw [if_neg bI_ne]
            refine (r0 true).trans ?_
            rw [Bool.true_or]
          | false =>
            rw [if_pos (show bI false = 0 from rfl)]
            refine (r0 false).trans ?_
            rw [df (show ¬ g + 1 ≤ g by omega), Bool.false_and, Bool.false_or]
        · rw [df c2, if_pos (show bI false = 0 from rfl), Bool.false_and]
          refine (r0 false).trans ?_
          rw [df (show ¬ g + 1 ≤ g by omega), Bool.false_and, Bool.false_or]
      · rw [df c, Bool.false_and, if_pos (show bI false = 0 from rfl)]
        refine (r0 false).trans ?_
        rw [Bool.false_or]
        by_cases c2 : g ≤ k
        · rw [dt c2, dt (show g + 1 ≤ k by omega)]
        · rw [df c2, df (show ¬ g + 1 ≤ k by omega)]
theorem wm_1 {k : Nat} {m a : Int32} (S : FS) (hk : k + 1 ≤ 3) (ha : ¬ a < 0) : q_X12_wins_k1 S (tk2 k) m a = some (bI (mN a 1 k m (S.2 66))) := by
  unfold q_X12_wins_k1
  rw [fv_s, show p_X12_winsBy_k1 S (-1) (tk2 k) m a = bI false from if_neg (m1ne ha)]
  refine (wl_1 S hk ha 5 0 FU (by decide) (FU_lt (by decide)) false).trans ?_
  rw [Bool.false_or, dt (Nat.zero_le k), Bool.true_and, mN, show mV (mN a 0) k m (S.2 66) = false from rfl, Bool.false_or]
theorem sd_2 {i j k : Nat} {m a s : Int32} {kk : FS → Int32 → Int32 → Option (Int32 × FS)} (S : FS) (hi : i < 5) (hj : j < 5) (hij : i ≠ j) (hk : k + 1 ≤ 3) (ha : ¬ a < 0) (hs : nI i + s = nI j) (hs1 : ¬ 1 < s) (hs2 : p_X12_isTaken S (tk2 k) (nI j) = (if j < k then 1 else 0)) (n : Nat) : l_X12_winsBy_k2_82 a (tk2 k) m (nI i) kk (n + 1) S 1 s = l_X12_winsBy_k2_82 a (tk2 k) m (nI i) kk n S (bI (mE (mN a 1 k m) (S.2 66) k i j)) (s + 2) := by
  have k3 : k ≤ 3 := by omega
  rw [l_X12_winsBy_k2_82, if_neg hs1, if_neg (by decide), fv_s, hs, show p_X12_in S (nI j) 0 4 = 1 from in4_t S hj, if_neg (by decide), (tk_g S k3 hi).1, hs2]
  unfold mE
  by_cases c1 : i < k
  · rw [if_pos c1, if_neg (by decide), if_pos (Or.inl c1)]; rfl
  · rw [if_neg c1, if_pos rfl]
    by_cases c2 : j < k
    · rw [if_pos c2, if_neg (by decide), if_pos (Or.inr c2)]; rfl
    · rw [if_neg c2, if_pos rfl, if_neg (fun z => z.elim c1 c2), ix_nI hi (by decide), fb_s]
      unfold mD
      by_cases c3 : S.2 66 i = 0
      · rw [if_pos c3, dt c3, Bool.true_or]; rfl
      · rw [if_neg c3, df c3, Bool.false_or, ix_nI hj (by decide), fb_s]
        by_cases c4 : S.2 66 j = 6
        · rw [if_pos c4, dt c4, Bool.true_or]; rfl
        · rw [if_neg c4, df c4, Bool.false_or, fl_s, fl_s]
          show fb (q_X12_wins_k1 (mS S 66 i j) (tk2 k) m a) _ = _
          rw [wm_1 (mS S 66 i j) hk ha]
          rw [fb_s]
          show fl (wA (mS S 66 i j) 66 i ((mS S 66 i j).2 66 i + 1)) _ = _
          rw [fl_s, fl_s, mS_back hij, mS_e]
theorem gt_2 {i k : Nat} {m a : Int32} {kk : FS → Int32 → Option (Int32 × FS)} (S : FS) (hi : i < 5) (hk : k + 1 ≤ 3) (ha : ¬ a < 0) (b : Bool) (n : Nat) (hn : 3 ≤ n) : l_X12_winsBy_k2_82 a (tk2 k) m (nI i) (fun S25 x25_8 x25_10 => kk S25 x25_8) n S (bI b) (-1) = kk S (bI (b && ((if 0 < i then mE (mN a 1 k m) (S.2 66) k i (i - 1) else true) && (if i < 4 then mE (mN a 1 k m) (S.2 66) k i (i + 1) else true)))) := by
  have k3 : k ≤ 3 := by omega
  obtain ⟨n, rfl⟩ : ∃ n' : Nat, n = n' + 1 + 1 + 1 := ⟨n - 3, by omega⟩
  have stop : ∀ (b : Bool) (n : Nat), l_X12_winsBy_k2_82 a (tk2 k) m (nI i) (fun S25 x25_8 x25_10 => kk S25 x25_8) (n + 1) S (bI b) 3 = kk S (bI b) := fun b n => by
    rw [l_X12_winsBy_k2_82, if_pos (by decide)]
  have nul : ∀ (s : Int32) (n : Nat), ¬ 1 < s → l_X12_winsBy_k2_82 a (tk2 k) m (nI i) (fun S25 x25_8 x25_10 => kk S25 x25_8) (n + 1) S (bI false) s = kk S (bI false) := fun s n hs => by
    rw [l_X12_winsBy_k2_82, if_neg hs, if_pos (show bI false = 0 from rfl)]
  cases b with
  | false => rw [nul _ _ (by decide), Bool.false_and]
  | true =>
    rw [Bool.true_and]
    -- the side before
    have s1 : l_X12_winsBy_k2_82 a (tk2 k) m (nI i) (fun S25 x25_8 x25_10 => kk S25 x25_8) (n + 1 + 1 + 1) S (bI true) (-1) = l_X12_winsBy_k2_82 a (tk2 k) m (nI i) (fun S25 x25_8 x25_10 => kk S25 x25_8) (n + 1 + 1) S (bI (if 0 < i then mE (mN a 1 k m) (S.2 66) k i (i - 1) else true)) 1 := by
      by_cases c : 0 < i
      · rw [if_pos c]
        have e : nI i + (-1) = nI (i - 1) := by
          obtain ⟨j, rfl⟩ : ∃ j : Nat, i = j + 1 := ⟨i - 1, by omega⟩
          rw [← Int32.sub_eq_add_neg, nI_pred]; rfl
        exact sd_2 S hi (show i - 1 < 5 by omega) (by omega) hk ha e (by decide) (tk_g S k3 (show i - 1 < 5 by omega)).1 (n + 1 + 1)
      · rw [if_neg c]
        obtain rfl : i = 0 := by omega
        rw [l_X12_winsBy_k2_82, if_neg (by decide), if_neg bI_ne, fv_s, show p_X12_in S (nI 0 + (-1)) 0 4 = 0 from rfl, if_pos rfl]; rfl
    rw [s1]
    generalize (if 0 < i then mE (mN a 1 k m) (S.2 66) k i (i - 1) else true) = b1
    cases b1 with
    | false => rw [nul _ _ (by decide), Bool.false_and]
    | true =>
      rw [Bool.true_and]
      have s2 : l_X12_winsBy_k2_82 a (tk2 k) m (nI i) (fun S25 x25_8 x25_10 => kk S25 x25_8) (n + 1 + 1) S (bI true) 1 = l_X12_winsBy_k2_82 a (tk2 k) m (nI i) (fun S25 x25_8 x25_10 => kk S25 x25_8) (n + 1) S (bI (if i < 4 then mE (mN a 1 k m) (S.2 66) k i (i + 1) else true)) 3 := by
        by_cases c : i < 4
        · rw [if_pos c]
          exact sd_2 S hi (show i + 1 < 5 by omega) (by omega) hk ha (nI_1 i) (by decide) (tk_g S k3 (show i + 1 < 5 by omega)).1 (n + 1)
        · rw [if_neg c]
          obtain rfl : i = 4 := by omega
          rw [l_X12_winsBy_k2_82, if_neg (by decide), if_neg bI_ne, fv_s, show p_X12_in S (nI 4 + 1) 0 4 = 0 from rfl, if_pos rfl]; rfl
      rw [s2, stop]
theorem al_2 {k : Nat} {m a : Int32} (S : FS) (hk : k + 1 ≤ 3) (ha : ¬ a < 0) (b : Bool) (n : Nat) (hn : 6 ≤ n) : l_X12_winsBy_k2_68 a (tk2 k) m (fun S26 x26_8 x26_9 => fb (bz x26_8) (fun b27 => some (b27, S26))) n S (bI b) 0 = some (bI (b && mL (mD (mN a 1 k m) (S.2 66)) (mvs k)), S) := by
  obtain ⟨n, rfl⟩ : ∃ n' : Nat, n = n' + 1 + 1 + 1 + 1 + 1 + 1 := ⟨n - 6, by omega⟩
  have stop : ∀ (b : Bool) (n : Nat) (g : Int32), (¬ g < 5 ∨ b = false) → l_X12_winsBy_k2_68 a (tk2 k) m (fun S26 x26_8 x26_9 => fb (bz x26_8) (fun b27 => some (b27, S26))) (n + 1) S (bI b) g = some (bI b, S) := fun b n g h => by
    rw [l_X12_winsBy_k2_68]
    rcases h with h | rfl
    · rw [if_neg h, bz_I, fb_s]
    · rw [if_pos (show bI false = 0 from rfl), bz_I, fb_s, ite_self]
  have st : ∀ (i n : Nat), i < 5 → l_X12_winsBy_k2_68 a (tk2 k) m (fun S26 x26_8 x26_9 => fb (bz x26_8) (fun b27 => some (b27, S26))) (n + 1) S (bI true) (nI i) = l_X12_winsBy_k2_68 a (tk2 k) m (fun S26 x26_8 x26_9 => fb (bz x26_8) (fun b27 => some (b27, S26))) n S (bI ((if 0 < i then mE (mN a 1 k m) (S.2 66) k i (i - 1) else true) && (if i < 4 then mE (mN a 1 k m) (S.2 66) k i (i + 1) else true))) (nI (i + 1)) := fun i n hi => by
    rw [l_X12_winsBy_k2_68, if_pos (ltc_5 hi), if_neg bI_ne, nI_1]
    refine (gt_2 (kk := fun S25 x25_8 => l_X12_winsBy_k2_68 a (tk2 k) m (fun S26 x26_8 x26_9 => fb (bz x26_8) (fun b27 => some (b27, S26))) n S25 x25_8 (nI (i + 1))) S hi hk ha true FU (FU_le (by decide))).trans ?_
    rw [Bool.true_and]
  rw [← mE_L (show k ≤ 3 by omega)]
  cases b with
  | false => rw [stop false _ _ (Or.inr rfl), Bool.false_and]
  | true =>
    rw [Bool.true_and]
    have e0 := st 0 (n + 1 + 1 + 1 + 1 + 1) (by decide)
    have e1 := st 1 (n + 1 + 1 + 1 + 1) (by decide)
    have e2 := st 2 (n + 1 + 1 + 1) (by decide)
    have e3 := st 3 (n + 1 + 1) (by decide)
    have e4 := st 4 (n + 1) (by decide)
    simp only [show (0 < 0) = False from eq_false (by decide), show (0 < 1) = True from eq_true (by decide), show (0 < 2) = True from eq_true (by decide), show (0 < 3) = True from eq_true (by decide), show (0 < 4) = True from eq_true (by decide), show (1 < 4) = True from eq_true (by decide), show (2 < 4) = True from eq_true (by decide), show (3 < 4) = True from eq_true (by decide), show (4 < 4) = False from eq_false (by decide), ↓reduceIte, Bool.true_and, Bool.and_true] at e0 e1 e2 e3 e4
    refine Eq.trans e0 ?_
    show l_X12_winsBy_k2_68 a (tk2 k) m _ (n + 1 + 1 + 1 + 1 + 1) S (bI (mE (mN a 1 k m) (S.2 66) k 0 1)) (nI 1) = _
    generalize mE (mN a 1 k m) (S.2 66) k 0 1 = b01
    cases b01 with
    | false => rw [stop false _ _ (Or.inr rfl), Bool.false_and]
    | true =>
      refine Eq.trans e1 ?_
      show l_X12_winsBy_k2_68 a (tk2 k) m _ (n + 1 + 1 + 1 + 1) S (bI (mE (mN a 1 k m) (S.2 66) k 1 0 && mE (mN a 1 k m) (S.2 66) k 1 2)) (nI 2) = _
      generalize mE (mN a 1 k m) (S.2 66) k 1 0 = b10
      generalize mE (mN a 1 k m) (S.2 66) k 1 2 = b12
      rw [Bool.true_and, ← Bool.and_assoc b10]
      cases (b10 && b12) with
      | false => rw [stop false _ _ (Or.inr rfl), Bool.false_and]
      | true =>
        refine Eq.trans e2 ?_
        show l_X12_winsBy_k2_68 a (tk2 k) m _ (n + 1 + 1 + 1) S (bI (mE (mN a 1 k m) (S.2 66) k 2 1 && mE (mN a 1 k m) (S.2 66) k 2 3)) (nI 3) = _
        generalize mE (mN a 1 k m) (S.2 66) k 2 1 = b21
        generalize mE (mN a 1 k m) (S.2 66) k 2 3 = b23
        rw [Bool.true_and, ← Bool.and_assoc b21]
        cases (b21 && b23) with
        | false => rw [stop false _ _ (Or.inr rfl), Bool.false_and]
        | true =>
          refine Eq.trans e3 ?_
          show l_X12_winsBy_k2_68 a (tk2 k) m _ (n + 1 + 1) S (bI (mE (mN a 1 k m) (S.2 66) k 3 2 && mE (mN a 1 k m) (S.2 66) k 3 4)) (nI 4) = _
          generalize mE (mN a 1 k m) (S.2 66) k 3 2 = b32
          generalize mE (mN a 1 k m) (S.2 66) k 3 4 = b34
          rw [Bool.true_and, ← Bool.and_assoc b32]
          cases (b32 && b34) with
          | false => rw [stop false _ _ (Or.inr rfl), Bool.false_and]
          | true =>
            refine Eq.trans e4 ?_
            show l_X12_winsBy_k2_68 a (tk2 k) m _ (n + 1) S (bI (mE (mN a 1 k m) (S.2 66) k 4 3)) (nI 5) = _
            rw [stop _ _ _ (Or.inl (by decide)), Bool.true_and]
theorem jw_2 {k : Nat} {m a : Int32} (S : FS) (hk : k + 1 ≤ 3) (ha : ¬ a < 0) : j_X12_winsBy_k2_50 a S (tk2 k) m = some (bI (mV (mN a 1) k m (S.2 66)), S) := by
  unfold j_X12_winsBy_k2_50 mV
  rw [wm_1 S hk ha, fb_s]
  exact al_2 S hk ha _ FU (FU_le (by decide))
theorem wbn_2 {k : Nat} {m a : Int32} (S : FS) (hk : k + 1 ≤ 3) (ha : ¬ a < 0) : f_X12_winsBy_k2 S (-1) (tk2 k) m a = some (bI (mV (mN a 1) k m (S.2 66)), S) := by
  unfold f_X12_winsBy_k2
  rw [if_neg (m1ne ha), if_pos (by decide)]; exact jw_2 S hk ha
theorem wbk_2 {k : Nat} {m a : Int32} (S : FS) (hk : k + 2 ≤ 3) (ha : ¬ a < 0) : f_X12_winsBy_k2 S (nI k) (tk2 k) m a = some (bI (mU (mN a 1) a k m (S.2 66)), S) := by
  unfold f_X12_winsBy_k2 mU
  by_cases c : nI k = a
  · rw [if_pos c, dt c, Bool.true_or]; rfl
  · rw [if_neg c, df c, Bool.false_or, if_neg (nI_pos (by omega)), fv_s, ix_nI (show k < 5 by omega) (by decide), fb_s, fv_s, show tk2 k ||| ((1 : Int32) <<< (nI k &&& 31)) = tk2 (k + 1) from tk_or ⟨k, by omega⟩]
    exact jw_2 S (by omega) ha
theorem wl_2 {k : Nat} {m a : Int32} (S : FS) (hk : k + 2 ≤ 3) (ha : ¬ a < 0) : ∀ (r g n : Nat), g + r = 5 → r < n → ∀ b : Bool, l_X12_wins_k2_15 (tk2 k) m a (fun S12 x12_5 x12_6 => fb (bz x12_5) (fun b13 => some (b13, S12))) n S (bI b) (nI g) = some (bI (b || (decide (g ≤ k) && (decide (S.2 66 k < m) && mU (mN a 1) a k m (S.2 66)))), S) := by
  intro r
  induction r with
  | zero =>
    intro g n hg hn b
    obtain ⟨n, rfl⟩ : ∃ n' : Nat, n = n' + 1 := ⟨n - 1, by omega⟩
    rw [l_X12_wins_k2_15, if_neg (nlc_5 (by omega) (by omega)), bz_I, fb_s, df (show ¬ g ≤ k by omega), Bool.false_and, Bool.or_false]
  | succ r ih =>
    intro g n hg hn b
    obtain ⟨n, rfl⟩ : ∃ n' : Nat, n = n' + 1 := ⟨n - 1, by omega⟩
    rw [l_X12_wins_k2_15, if_pos (ltc_5 (show g < 5 by omega))]
    cases b with
    | true => rw [if_neg bI_ne, bz_I, fb_s, Bool.true_or]
    | false =>
      rw [if_pos (show bI false = 0 from rfl), can_x S (by omega) (show g < 5 by omega), fb_s, nI_1, Bool.false_or]
      have r0 := ih (g + 1) n (by omega) (by omega)
      by_cases c : g = k
      · subst c
        rw [dt (show g = g from rfl), dt (show g ≤ g by omega), Bool.true_and, Bool.true_and]
        by_cases c2 : S.2 66 g < m
        · rw [dt c2, if_neg bI_ne, Bool.true_and, wbk_2 S hk ha, fb_s]
          cases mU (mN a 1) a g m (S.2 66) with
          | true =>
            rw [if_neg bI_ne]
            refine (r0 true).trans ?_
            rw [Bool.true_or]
          | false =>
            rw [if_pos (show bI false = 0 from rfl)]
            refine (r0 false).trans ?_
            rw [df (show ¬ g + 1 ≤ g by omega), Bool.false_and, Bool.false_or]
        · rw [df c2, if_pos (show bI false = 0 from rfl), Bool.false_and]
          refine (r0 false).trans ?_
          rw [df (show ¬ g + 1 ≤ g by omega), Bool.false_and, Bool.false_or]
      · rw [df c, Bool.false_and, if_pos (show bI false = 0 from rfl)]
        refine (r0 false).trans ?_
        rw [Bool.false_or]
        by_cases c2 : g ≤ k
        · rw [dt c2, dt (show g + 1 ≤ k by omega)]
        · rw [df c2, df (show ¬ g + 1 ≤ k by omega)]
theorem wm_2 {k : Nat} {m a : Int32} (S : FS) (hk : k + 2 ≤ 3) (ha : ¬ a < 0) : f_X12_wins_k2 S (tk2 k) m a = some (bI (mN a 2 k m (S.2 66)), S) := by
  unfold f_X12_wins_k2
  rw [wbn_2 S (by omega) ha, fb_s]
  refine (wl_2 S hk ha 5 0 FU (by decide) (FU_lt (by decide)) _).trans ?_
  rw [dt (Nat.zero_le k), Bool.true_and, mN]
theorem sd_3 {i j k : Nat} {m a s : Int32} {kk : FS → Int32 → Int32 → Option (Int32 × FS)} (S : FS) (hi : i < 5) (hj : j < 5) (hij : i ≠ j) (hk : k + 2 ≤ 3) (ha : ¬ a < 0) (hs : nI i + s = nI j) (hs1 : ¬ 1 < s) (hs2 : p_X12_isTaken S (tk2 k) (nI j) = (if j < k then 1 else 0)) (n : Nat) : l_X12_winsBy_k3_82 a (tk2 k) m (nI i) kk (n + 1) S 1 s = l_X12_winsBy_k3_82 a (tk2 k) m (nI i) kk n S (bI (mE (mN a 2 k m) (S.2 66) k i j)) (s + 2) := by
  have k3 : k ≤ 3 := by omega
  rw [l_X12_winsBy_k3_82, if_neg hs1, if_neg (by decide), fv_s, hs, show p_X12_in S (nI j) 0 4 = 1 from in4_t S hj, if_neg (by decide), (tk_g S k3 hi).1, hs2]
  unfold mE
  by_cases c1 : i < k
  · rw [if_pos c1, if_neg (by decide), if_pos (Or.inl c1)]; rfl
  · rw [if_neg c1, if_pos rfl]
    by_cases c2 : j < k
    · rw [if_pos c2, if_neg (by decide), if_pos (Or.inr c2)]; rfl
    · rw [if_neg c2, if_pos rfl, if_neg (fun z => z.elim c1 c2), ix_nI hi (by decide), fb_s]
      unfold mD
      by_cases c3 : S.2 66 i = 0
      · rw [if_pos c3, dt c3, Bool.true_or]; rfl
      · rw [if_neg c3, df c3, Bool.false_or, ix_nI hj (by decide), fb_s]
        by_cases c4 : S.2 66 j = 6
        · rw [if_pos c4, dt c4, Bool.true_or]; rfl
        · rw [if_neg c4, df c4, Bool.false_or, fl_s, fl_s]
          show fb (f_X12_wins_k2 (mS S 66 i j) (tk2 k) m a) _ = _
          rw [wm_2 (mS S 66 i j) hk ha]
          rw [fb_s]
          show fl (wA (mS S 66 i j) 66 i ((mS S 66 i j).2 66 i + 1)) _ = _
          rw [fl_s, fl_s, mS_back hij, mS_e]
theorem gt_3 {i k : Nat} {m a : Int32} {kk : FS → Int32 → Option (Int32 × FS)} (S : FS) (hi : i < 5) (hk : k + 2 ≤ 3) (ha : ¬ a < 0) (b : Bool) (n : Nat) (hn : 3 ≤ n) : l_X12_winsBy_k3_82 a (tk2 k) m (nI i) (fun S25 x25_8 x25_10 => kk S25 x25_8) n S (bI b) (-1) = kk S (bI (b && ((if 0 < i then mE (mN a 2 k m) (S.2 66) k i (i - 1) else true) && (if i < 4 then mE (mN a 2 k m) (S.2 66) k i (i + 1) else true)))) := by
  have k3 : k ≤ 3 := by omega
  obtain ⟨n, rfl⟩ : ∃ n' : Nat, n = n' + 1 + 1 + 1 := ⟨n - 3, by omega⟩
  have stop : ∀ (b : Bool) (n : Nat), l_X12_winsBy_k3_82 a (tk2 k) m (nI i) (fun S25 x25_8 x25_10 => kk S25 x25_8) (n + 1) S (bI b) 3 = kk S (bI b) := fun b n => by
    rw [l_X12_winsBy_k3_82, if_pos (by decide)]
  have nul : ∀ (s : Int32) (n : Nat), ¬ 1 < s → l_X12_winsBy_k3_82 a (tk2 k) m (nI i) (fun S25 x25_8 x25_10 => kk S25 x25_8) (n + 1) S (bI false) s = kk S (bI false) := fun s n hs => by
    rw [l_X12_winsBy_k3_82, if_neg hs, if_pos (show bI false = 0 from rfl)]
  cases b with
  | false => rw [nul _ _ (by decide), Bool.false_and]
  | true =>
    rw [Bool.true_and]
    -- the side before
    have s1 : l_X12_winsBy_k3_82 a (tk2 k) m (nI i) (fun S25 x25_8 x25_10 => kk S25 x25_8) (n + 1 + 1 + 1) S (bI true) (-1) = l_X12_winsBy_k3_82 a (tk2 k) m (nI i) (fun S25 x25_8 x25_10 => kk S25 x25_8) (n + 1 + 1) S (bI (if 0 < i then mE (mN a 2 k m) (S.2 66) k i (i - 1) else true)) 1 := by
      by_cases c : 0 < i
      · rw [if_pos c]
        have e : nI i + (-1) = nI (i - 1) := by
          obtain ⟨j, rfl⟩ : ∃ j : Nat, i = j + 1 := ⟨i - 1, by omega⟩
          rw [← Int32.sub_eq_add_neg, nI_pred]; rfl
        exact sd_3 S hi (show i - 1 < 5 by omega) (by omega) hk ha e (by decide) (tk_g S k3 (show i - 1 < 5 by omega)).1 (n + 1 + 1)
      · rw [if_neg c]
        obtain rfl : i = 0 := by omega
        rw [l_X12_winsBy_k3_82, if_neg (by decide), if_neg bI_ne, fv_s, show p_X12_in S (nI 0 + (-1)) 0 4 = 0 from rfl, if_pos rfl]; rfl
    rw [s1]
    generalize (if 0 < i then mE (mN a 2 k m) (S.2 66) k i (i - 1) else true) = b1
    cases b1 with
    | false => rw [nul _ _ (by decide), Bool.false_and]
    | true =>
      rw [Bool.true_and]
      have s2 : l_X12_winsBy_k3_82 a (tk2 k) m (nI i) (fun S25 x25_8 x25_10 => kk S25 x25_8) (n + 1 + 1) S (bI true) 1 = l_X12_winsBy_k3_82 a (tk2 k) m (nI i) (fun S25 x25_8 x25_10 => kk S25 x25_8) (n + 1) S (bI (if i < 4 then mE (mN a 2 k m) (S.2 66) k i (i + 1) else true)) 3 := by
        by_cases c : i < 4
        · rw [if_pos c]
          exact sd_3 S hi (show i + 1 < 5 by omega) (by omega) hk ha (nI_1 i) (by decide) (tk_g S k3 (show i + 1 < 5 by omega)).1 (n + 1)
        · rw [if_neg c]
          obtain rfl : i = 4 := by omega
          rw [l_X12_winsBy_k3_82, if_neg (by decide), if_neg bI_ne, fv_s, show p_X12_in S (nI 4 + 1) 0 4 = 0 from rfl, if_pos rfl]; rfl
      rw [s2, stop]
theorem al_3 {k : Nat} {m a : Int32} (S : FS) (hk : k + 2 ≤ 3) (ha : ¬ a < 0) (b : Bool) (n : Nat) (hn : 6 ≤ n) : l_X12_winsBy_k3_68 a (tk2 k) m (fun S26 x26_8 x26_9 => fb (bz x26_8) (fun b27 => some (b27, S26))) n S (bI b) 0 = some (bI (b && mL (mD (mN a 2 k m) (S.2 66)) (mvs k)), S) := by
  obtain ⟨n, rfl⟩ : ∃ n' : Nat, n = n' + 1 + 1 + 1 + 1 + 1 + 1 := ⟨n - 6, by omega⟩
  have stop : ∀ (b : Bool) (n : Nat) (g : Int32), (¬ g < 5 ∨ b = false) → l_X12_winsBy_k3_68 a (tk2 k) m (fun S26 x26_8 x26_9 => fb (bz x26_8) (fun b27 => some (b27, S26))) (n + 1) S (bI b) g = some (bI b, S) := fun b n g h => by
    rw [l_X12_winsBy_k3_68]
    rcases h with h | rfl
    · rw [if_neg h, bz_I, fb_s]
    · rw [if_pos (show bI false = 0 from rfl), bz_I, fb_s, ite_self]
  have st : ∀ (i n : Nat), i < 5 → l_X12_winsBy_k3_68 a (tk2 k) m (fun S26 x26_8 x26_9 => fb (bz x26_8) (fun b27 => some (b27, S26))) (n + 1) S (bI true) (nI i) = l_X12_winsBy_k3_68 a (tk2 k) m (fun S26 x26_8 x26_9 => fb (bz x26_8) (fun b27 => some (b27, S26))) n S (bI ((if 0 < i then mE (mN a 2 k m) (S.2 66) k i (i - 1) else true) && (if i < 4 then mE (mN a 2 k m) (S.2 66) k i (i + 1) else true))) (nI (i + 1)) := fun i n hi => by
    rw [l_X12_winsBy_k3_68, if_pos (ltc_5 hi), if_neg bI_ne, nI_1]
    refine (gt_3 (kk := fun S25 x25_8 => l_X12_winsBy_k3_68 a (tk2 k) m (fun S26 x26_8 x26_9 => fb (bz x26_8) (fun b27 => some (b27, S26))) n S25 x25_8 (nI (i + 1))) S hi hk ha true FU (FU_le (by decide))).trans ?_
    rw [Bool.true_and]
  rw [← mE_L (show k ≤ 3 by omega)]
  cases b with
  | false => rw [stop false _ _ (Or.inr rfl), Bool.false_and]
  | true =>
    rw [Bool.true_and]
    have e0 := st 0 (n + 1 + 1 + 1 + 1 + 1) (by decide)
    have e1 := st 1 (n + 1 + 1 + 1 + 1) (by decide)
    have e2 := st 2 (n + 1 + 1 + 1) (by decide)
    have e3 := st 3 (n + 1 + 1) (by decide)
    have e4 := st 4 (n + 1) (by decide)
    simp only [show (0 < 0) = False from eq_false (by decide), show (0 < 1) = True from eq_true (by decide), show (0 < 2) = True from eq_true (by decide), show (0 < 3) = True from eq_true (by decide), show (0 < 4) = True from eq_true (by decide), show (1 < 4) = True from eq_true (by decide), show (2 < 4) = True from eq_true (by decide), show (3 < 4) = True from eq_true (by decide), show (4 < 4) = False from eq_false (by decide), ↓reduceIte, Bool.true_and, Bool.and_true] at e0 e1 e2 e3 e4
    refine Eq.trans e0 ?_
    show l_X12_winsBy_k3_68 a (tk2 k) m _ (n + 1 + 1 + 1 + 1 + 1) S (bI (mE (mN a 2 k m) (S.2 66) k 0 1)) (nI 1) = _
    generalize mE (mN a 2 k m) (S.2 66) k 0 1 = b01
    cases b01 with
    | false => rw [stop false _ _ (Or.inr rfl), Bool.false_and]
    | true =>
      refine Eq.trans e1 ?_
      show l_X12_winsBy_k3_68 a (tk2 k) m _ (n + 1 + 1 + 1 + 1) S (bI (mE (mN a 2 k m) (S.2 66) k 1 0 && mE (mN a 2 k m) (S.2 66) k 1 2)) (nI 2) = _
      generalize mE (mN a 2 k m) (S.2 66) k 1 0 = b10
      generalize mE (mN a 2 k m) (S.2 66) k 1 2 = b12
      rw [Bool.true_and, ← Bool.and_assoc b10]
      cases (b10 && b12) with
      | false => rw [stop false _ _ (Or.inr rfl), Bool.false_and]
      | true =>
        refine Eq.trans e2 ?_
        show l_X12_winsBy_k3_68 a (tk2 k) m _ (n + 1 + 1 + 1) S (bI (mE (mN a 2 k m) (S.2 66) k 2 1 && mE (mN a 2 k m) (S.2 66) k 2 3)) (nI 3) = _
        generalize mE (mN a 2 k m) (S.2 66) k 2 1 = b21
        generalize mE (mN a 2 k m) (S.2 66) k 2 3 = b23
        rw [Bool.true_and, ← Bool.and_assoc b21]
        cases (b21 && b23) with
        | false => rw [stop false _ _ (Or.inr rfl), Bool.false_and]
        | true =>
          refine Eq.trans e3 ?_
          show l_X12_winsBy_k3_68 a (tk2 k) m _ (n + 1 + 1) S (bI (mE (mN a 2 k m) (S.2 66) k 3 2 && mE (mN a 2 k m) (S.2 66) k 3 4)) (nI 4) = _
          generalize mE (mN a 2 k m) (S.2 66) k 3 2 = b32
          generalize mE (mN a 2 k m) (S.2 66) k 3 4 = b34
          rw [Bool.true_and, ← Bool.and_assoc b32]
          cases (b32 && b34) with
          | false => rw [stop false _ _ (Or.inr rfl), Bool.false_and]
          | true =>
            refine Eq.trans e4 ?_
            show l_X12_winsBy_k3_68 a (tk2 k) m _ (n + 1) S (bI (mE (mN a 2 k m) (S.2 66) k 4 3)) (nI 5) = _
            rw [stop _ _ _ (Or.inl (by decide)), Bool.true_and]
theorem jw_3 {k : Nat} {m a : Int32} (S : FS) (hk : k + 2 ≤ 3) (ha : ¬ a < 0) : j_X12_winsBy_k3_50 a S (tk2 k) m = some (bI (mV (mN a 2) k m (S.2 66)), S) := by
  unfold j_X12_winsBy_k3_50 mV
  rw [wm_2 S hk ha, fb_s]
  exact al_3 S hk ha _ FU (FU_le (by decide))
theorem wbn_3 {k : Nat} {m a : Int32} (S : FS) (hk : k + 2 ≤ 3) (ha : ¬ a < 0) : f_X12_winsBy_k3 S (-1) (tk2 k) m a = some (bI (mV (mN a 2) k m (S.2 66)), S) := by
  unfold f_X12_winsBy_k3
  rw [if_neg (m1ne ha), if_pos (by decide)]; exact jw_3 S hk ha
theorem wbk_3 {k : Nat} {m a : Int32} (S : FS) (hk : k + 3 ≤ 3) (ha : ¬ a < 0) : f_X12_winsBy_k3 S (nI k) (tk2 k) m a = some (bI (mU (mN a 2) a k m (S.2 66)), S) := by
  unfold f_X12_winsBy_k3 mU
  by_cases c : nI k = a
  · rw [if_pos c, dt c, Bool.true_or]; rfl
  · rw [if_neg c, df c, Bool.false_or, if_neg (nI_pos (by omega)), fv_s, ix_nI (show k < 5 by omega) (by decide), fb_s, fv_s, show tk2 k ||| ((1 : Int32) <<< (nI k &&& 31)) = tk2 (k + 1) from tk_or ⟨k, by omega⟩]
    exact jw_3 S (by omega) ha
/-! the call -/
theorem preC : ∀ (m i : Nat) (S : FS), i ≤ 5 → 5 - i < m → ∃ S' : FS, EA 41 S S' ∧ (∀ j : Nat, (j < i → S'.2 41 j = S.2 41 j) ∧ (i ≤ j → j < 5 → S'.2 41 j = S.2 21 j)) ∧ ∀ k, l_X1_prepare_7 k m S (nI i) = k S' (nI 5) := by
  intro m
  induction m with
  | zero => intro i S _ hm; exact absurd hm (Nat.not_lt_zero _)
  | succ m ih =>
    intro i S hi hm
    by_cases c : i < 5
    · obtain ⟨S', r1, r2, r3⟩ := ih (i + 1) (wA S 41 i (S.2 21 i)) (by omega) (by omega)
      refine ⟨S', EA.tr (EA.w) r1, fun j => ⟨fun q => ?_, fun q q2 => ?_⟩, fun k => ?_⟩
      · rw [(r2 j).1 (by omega), wA_e, pk_un (by omega)]
      · by_cases z : j = i
        · subst z; rw [(r2 j).1 (by omega), wA_e, pk_us]
        · rw [(r2 j).2 (by omega) q2, wA_n (by decide)]
      · rw [l_X1_prepare_7, if_pos (ltc_5 c), ix_nI c (by decide), fb_s, fl_s, g20_0 c, nI_1]; exact r3 k
    · obtain rfl : i = 5 := by omega
      refine ⟨S, EA.rf, fun j => ⟨fun _ => rfl, fun q q2 => absurd q (by omega)⟩, fun k => ?_⟩
      rw [l_X1_prepare_7, if_neg (by decide)]
theorem preM : ∀ (m i : Nat) (T : FS), i ≤ 5 → 5 - i < m → ∃ T' : FS, EA 66 T T' ∧ (∀ j : Nat, (j < i → T'.2 66 j = T.2 66 j) ∧ (i ≤ j → j < 5 → T'.2 66 j = T.2 55 (j + 1986))) ∧ ∀ k, l_X12_night_47 k m T (nI i) = k T' (nI 5) := by
  intro m
  induction m with
  | zero => intro i T _ hm; exact absurd hm (Nat.not_lt_zero _)
  | succ m ih =>
    intro i T hi hm
    by_cases c : i < 5
    · have e : ix 2071 (1986 + nI i) = some (i + 1986) := by
        rw [show (1986 : Int32) = nI 1986 from rfl, nI_add, Nat.add_comm]; exact ix_nI (by omega) (by decide)
      obtain ⟨T', r1, r2, r3⟩ := ih (i + 1) (wA T 66 i (T.2 55 (i + 1986))) (by omega) (by omega)
      refine ⟨T', EA.tr (EA.w) r1, fun j => ⟨fun q => ?_, fun q q2 => ?_⟩, fun k => ?_⟩
      · rw [(r2 j).1 (by omega), wA_e, pk_un (by omega)]
      · by_cases z : j = i
        · subst z; rw [(r2 j).1 (by omega), wA_e, pk_us]
        · rw [(r2 j).2 (by omega) q2, wA_n (by decide)]
      · rw [l_X12_night_47, if_pos (ltc_5 c), e, fb_s, ix_nI c (by decide), fb_s, fl_s, nI_1]; exact r3 k
    · obtain rfl : i = 5 := by omega
      refine ⟨T, EA.rf, fun j => ⟨fun _ => rfl, fun q q2 => absurd q (by omega)⟩, fun k => ?_⟩
      rw [l_X12_night_47, if_neg (by decide)]
/-- gates from above: only gate 0 can be taken -/
theorem nigl {q : Nat} {za zb zc : Int32} (T : FS) (hq : q ≤ 2) (ez : zb = nI (q + 1)) (ha : ¬ zc < 0) : ∀ (i m : Nat), i ≤ 5 → i < m → ∀ k, l_X12_night_84 za zb zc k m T (-2) (nI i - 1) = k T (if 0 < i ∧ tM zc q za (T.2 66) = true then 0 else -2) (-1) := by
  intro i
  induction i with
  | zero =>
    intro m _ hm k
    obtain ⟨m, rfl⟩ : ∃ n' : Nat, m = n' + 1 := ⟨m - 1, by omega⟩
    rw [l_X12_night_84, if_pos (by decide), if_neg (by omega)]; rfl
  | succ j ih =>
    intro m hi hm k
    obtain ⟨m, rfl⟩ : ∃ n' : Nat, m = n' + 1 := ⟨m - 1, by omega⟩
    have cn : q_X12_canTake T 0 za (nI j) = some (bI (decide (j = 0) && decide (T.2 66 0 < za))) := can_x (k := 0) T (by decide) (show j < 5 by omega)
    rw [l_X12_night_84, nI_pred, if_neg (nI_pos (show j < 2 ^ 31 by omega)), cn, fb_s, ← Int32.sub_eq_add_neg]
    by_cases c : j = 0
    · subst c
      have r := ih m (by omega) (by omega) k
      rw [if_neg (show ¬ (0 < 0 ∧ _) by omega)] at r
      have last : l_X12_night_84 za zb zc k m T 0 (nI 0 - 1) = k T 0 (-1) := by
        obtain ⟨m, rfl⟩ : ∃ n' : Nat, m = n' + 1 := ⟨m - 1, by omega⟩
        rw [l_X12_night_84, if_pos (by decide)]; rfl
      rw [dt rfl, Bool.true_and]
      unfold tM
      by_cases c2 : T.2 66 0 < za
      · rw [dt c2, if_neg bI_ne, Bool.true_and]
        rcases (show q = 0 ∨ q = 1 ∨ q = 2 by omega) with rfl | rfl | rfl
        · subst ez
          rw [if_pos (show nI (0 + 1) = 1 from rfl)]
          have e : p_X12_winsBy_k1 T (nI 0) 0 za zc = bI (mU (mN zc 0) zc 0 za (T.2 66)) := by
            unfold p_X12_winsBy_k1 mU
            rw [show mV (mN zc 0) (0 + 1) (za - T.2 66 0) (T.2 66) = false from rfl, Bool.or_false]
            by_cases c3 : nI 0 = zc
            · rw [if_pos c3, dt c3]; rfl
            · rw [if_neg c3, df c3]; rfl
          rw [e]
          cases mU (mN zc 0) zc 0 za (T.2 66) with
          | true => rw [if_neg bI_ne, if_pos ⟨by omega, rfl⟩]; exact last
          | false => rw [if_pos (show bI false = 0 from rfl), if_neg (fun z => by cases z.2)]; exact r
        · subst ez
          rw [if_neg (show ¬ nI (1 + 1) = 1 by decide), if_pos (show nI (1 + 1) = 2 from rfl), show f_X12_winsBy_k2 T (nI 0) 0 za zc = some (bI (mU (mN zc 1) zc 0 za (T.2 66)), T) from wbk_2 (k := 0) T (by decide) ha, fb_s]
          cases mU (mN zc 1) zc 0 za (T.2 66) with
          | true => rw [if_neg bI_ne, if_pos ⟨by omega, rfl⟩]; exact last
          | false => rw [if_pos (show bI false = 0 from rfl), if_neg (fun z => by cases z.2)]; exact r
        · subst ez
          rw [if_neg (show ¬ nI (2 + 1) = 1 by decide), if_neg (show ¬ nI (2 + 1) = 2 by decide), if_pos (show nI (2 + 1) = 3 from rfl), show f_X12_winsBy_k3 T (nI 0) 0 za zc = some (bI (mU (mN zc 2) zc 0 za (T.2 66)), T) from wbk_3 (k := 0) T (by decide) ha, fb_s]
          cases mU (mN zc 2) zc 0 za (T.2 66) with
          | true => rw [if_neg bI_ne, if_pos ⟨by omega, rfl⟩]; exact last
          | false => rw [if_pos (show bI false = 0 from rfl), if_neg (fun z => by cases z.2)]; exact r
      · rw [df c2, if_pos (show bI false = 0 from rfl), Bool.false_and, if_neg (fun z => by cases z.2)]; exact r
    · have r := ih m (by omega) (by omega) k
      rw [df c, Bool.false_and, if_pos (show bI false = 0 from rfl)]
      have e : (if 0 < j + 1 ∧ tM zc q za (T.2 66) = true then (0 : Int32) else -2) = (if 0 < j ∧ tM zc q za (T.2 66) = true then 0 else -2) := by
        by_cases z : tM zc q za (T.2 66) = true
        · rw [if_pos ⟨by omega, z⟩, if_pos ⟨by omega, z⟩]
        · rw [if_neg (fun y => z y.2), if_neg (fun y => z y.2)]
      rw [e]; exact r
theorem op_nightE (h : RelR K S (T.2 55)) : OK2 S T (f_X11_night S za zb zc zd) (f_X12_night T za zb zc zd) := by
  unfold f_X11_night f_X12_night
  simp only [fb_id]
  rcases out_c za 1 20 with ⟨a1, a2⟩ | ⟨a1, a2⟩
  · rcases out_c zb 1 3 with ⟨c1, c2⟩ | ⟨c1, c2⟩
    · rcases out_c zc 0 4 with ⟨d1, d2⟩ | ⟨d1, d2⟩
      · rcases out_c zd 0 1 with ⟨e1, e2⟩ | ⟨e1, e2⟩
        · simp only [a1, a2, c1, c2, d1, d2, e1, e2, i10, ↓reduceIte]
          obtain ⟨q, hq, ez⟩ : ∃ q : Nat, q ≤ 2 ∧ zb = nI (q + 1) := by
            obtain ⟨k, hk, rfl⟩ := out_n 1 3 rfl rfl (by decide) (by decide) c1
            exact ⟨k - 1, by omega, by rw [show k - 1 + 1 = k by omega]⟩
          have ha : ¬ zc < 0 := by
            obtain ⟨k, hk, rfl⟩ := out_n 0 4 rfl rfl (by decide) (by decide) d1
            exact nI_pos (by omega)
          obtain ⟨S1, p1, p2, p3⟩ := preC FU 0 (wI S 111 zc) (by omega) (FU_lt (by omega))
          have pr : f_X1_prepare S zc = some (0, S1) := by
            unfold f_X1_prepare; rw [fl_s]; exact p3 _
          have s111 : S1.1 111 = zc := by rw [p1.1]; exact wI_e
          have cS : CE S S1 := CE.tr (CE.wI (k := 111) (v := zc) (by decide)) p1.ce
          obtain ⟨T1, t1, t2, t3⟩ := preM FU 0 T (by omega) (FU_lt (by omega))
          have hA : A5 (T1.2 66) (S1.2 41) := fun j hj => by
            rw [(t2 j).2 (Nat.zero_le _) hj, (p2 j).2 (Nat.zero_le _) hj]
            exact ((h.gu j hj).1).symm
          have hR : R5 (T1.2 66) := fun j hj => by
            rw [(t2 j).2 (Nat.zero_le _) hj]
            obtain ⟨v, hv, ev⟩ := (h.gu j hj).2
            rw [ev]
            exact ⟨nI_pos (by omega), nI_nlt (a := 6) (by omega) (by decide)⟩
          obtain ⟨m1, m2⟩ := mU_w zc q za (T1.2 66) (S1.2 41) hq hA hR
          have h1 : RelR K S1 (T1.2 55) := by rw [t1.me.2]; exact h.ce cS
          rw [pr, fb_s, show ∀ k, l_X12_night_47 k FU T 0 = k T1 (nI 5) from t3, show ∀ k, l_X12_night_84 za zb zc k FU T1 (-2) 4 = k T1 (if 0 < 5 ∧ tM zc q za (T1.2 66) = true then 0 else -2) (-1) from nigl T1 hq ez ha 5 FU (by decide) (FU_lt (by decide)), m1]
          have fin : ∀ v : Int32, OK2 S T (some (v, S1)) (some (v, T1)) := fun v => ok0 h1 cS.1 t1.me.1
          have tld : ∀ v : Int32, OK2 S T (f_X11_told S1 v) (some (v, T1)) := fun v => okt h1 cS.1 t1.me.1
          have non : OK2 S T (f_X11_told S1 (-1000002)) (f_X12_finds T1 2) := okf h1 cS.1 t1.me.1 (finds_2 T1)
          rcases (show q = 0 ∨ q = 1 ∨ q = 2 by omega) with rfl | rfl | rfl
          · subst ez
            have w0 : wN zc 1 0 za (S1.2 41) = (wT (wN zc 0) zc 0 za (S1.2 41) || wV (wN zc 0) 0 za (S1.2 41)) := rfl
            have bn : (bI true = 0) = False := eq_false bI_ne
            have bzz : (bI false = 0) = True := eq_true rfl
            have n02 : ((0 : Int32) = -2) = False := eq_false (by decide)
            have l20 : ((-2 : Int32) < 0) = True := eq_true (by decide)
            have l22 : ((-2 : Int32) < -2) = False := eq_false (by decide)
            simp only [show (nI (0 + 1) = 2) = False from eq_false (by decide), show (nI (0 + 1) = 3) = False from eq_false (by decide), show (nI (0 + 1) = 1) = True from eq_true rfl, ↓reduceIte]
            rw [show f_X1_winsWithin_k1 S1 0 za = _ from wj_1 (k := 0) S1 (by decide), show f_X1_winsByTaking_k1 S1 0 za = _ from ta_1 (k := 0) S1 (by decide)]
            simp only [fb_s, s111, w0]
            cases wT (wN zc 0) zc 0 za (S1.2 41) with
            | true =>
              rw [show (if 0 < 5 ∧ true = true then (0 : Int32) else -2) = 0 from rfl]
              by_cases z : zd = 0
              · simp only [z, Bool.true_or, bn, n02, l20, ↓reduceIte]; exact fin 1
              · simp only [z, bn, n02, l20, ↓reduceIte]; exact fin 0
            | false =>
              rw [show (if 0 < 5 ∧ false = true then (0 : Int32) else -2) = -2 from rfl, show f_X1_winsByWaiting_k1 S1 0 za = _ from wa_1 (k := 0) S1 (by decide), show p_X12_winsBy_k1 T1 (-1) 0 za zc = 0 from if_neg (m1ne ha)]
              simp only [fb_s, s111, m2, Bool.false_or, bzz, l22, ↓reduceIte]
              rw [show wV (wN zc 0) 0 za (S1.2 41) = false from rfl]
              by_cases z : zd = 0
              · simp only [z, bzz, ↓reduceIte]; exact fin 0
              · simp only [z, bzz, ↓reduceIte]; exact non
          · subst ez
            have w0 : wN zc 2 0 za (S1.2 41) = (wT (wN zc 1) zc 0 za (S1.2 41) || wV (wN zc 1) 0 za (S1.2 41)) := rfl
            have bn : (bI true = 0) = False := eq_false bI_ne
            have bzz : (bI false = 0) = True := eq_true rfl
            have n02 : ((0 : Int32) = -2) = False := eq_false (by decide)
            have l20 : ((-2 : Int32) < 0) = True := eq_true (by decide)
            have l22 : ((-2 : Int32) < -2) = False := eq_false (by decide)
            simp only [show (nI (1 + 1) = 1) = False from eq_false (by decide), show (nI (1 + 1) = 3) = False from eq_false (by decide), show (nI (1 + 1) = 2) = True from eq_true rfl, ↓reduceIte]
            rw [show f_X1_winsWithin_k2 S1 0 za = _ from wj_2 (k := 0) S1 (by decide), show f_X1_winsByTaking_k2 S1 0 za = _ from ta_2 (k := 0) S1 (by decide)]
            simp only [fb_s, s111, w0]
            cases wT (wN zc 1) zc 0 za (S1.2 41) with
            | true =>
              rw [show (if 0 < 5 ∧ true = true then (0 : Int32) else -2) = 0 from rfl]
              by_cases z : zd = 0
              · simp only [z, Bool.true_or, bn, n02, l20, ↓reduceIte]; exact fin 1
              · simp only [z, bn, n02, l20, ↓reduceIte]; exact fin 0
            | false =>
              rw [show (if 0 < 5 ∧ false = true then (0 : Int32) else -2) = -2 from rfl, show f_X1_winsByWaiting_k2 S1 0 za = _ from wa_2 (k := 0) S1 (by decide), show f_X12_winsBy_k2 T1 (-1) 0 za zc = some (bI (mV (mN zc 1) 0 za (T1.2 66)), T1) from wbn_2 (k := 0) T1 (by decide) ha]
              simp only [fb_s, s111, m2, Bool.false_or, bzz, l22, ↓reduceIte]
              cases wV (wN zc 1) 0 za (S1.2 41) with
              | true =>
                by_cases z : zd = 0
                · simp only [z, bn, ↓reduceIte]; exact fin 1
                · simp only [z, bn, ↓reduceIte]; exact tld (-1)
              | false =>
                by_cases z : zd = 0
                · simp only [z, bzz, ↓reduceIte]; exact fin 0
                · simp only [z, bzz, ↓reduceIte]; exact non
          · subst ez
            have w0 : wN zc 3 0 za (S1.2 41) = (wT (wN zc 2) zc 0 za (S1.2 41) || wV (wN zc 2) 0 za (S1.2 41)) := rfl
            have bn : (bI true = 0) = False := eq_false bI_ne
            have bzz : (bI false = 0) = True := eq_true rfl
            have n02 : ((0 : Int32) = -2) = False := eq_false (by decide)
            have l20 : ((-2 : Int32) < 0) = True := eq_true (by decide)
            have l22 : ((-2 : Int32) < -2) = False := eq_false (by decide)
            simp only [show (nI (2 + 1) = 1) = False from eq_false (by decide), show (nI (2 + 1) = 2) = False from eq_false (by decide), show (nI (2 + 1) = 3) = True from eq_true rfl, ↓reduceIte]
            rw [show f_X1_winsWithin_k3 S1 0 za = _ from wj_3 (k := 0) S1 (by decide), show f_X1_winsByTaking_k3 S1 0 za = _ from ta_3 (k := 0) S1 (by decide)]
            simp only [fb_s, s111, w0]
            cases wT (wN zc 2) zc 0 za (S1.2 41) with
            | true =>
              rw [show (if 0 < 5 ∧ true = true then (0 : Int32) else -2) = 0 from rfl]
              by_cases z : zd = 0
              · simp only [z, Bool.true_or, bn, n02, l20, ↓reduceIte]; exact fin 1
              · simp only [z, bn, n02, l20, ↓reduceIte]; exact fin 0
            | false =>
              rw [show (if 0 < 5 ∧ false = true then (0 : Int32) else -2) = -2 from rfl, show f_X1_winsByWaiting_k3 S1 0 za = _ from wa_3 (k := 0) S1 (by decide), show f_X12_winsBy_k3 T1 (-1) 0 za zc = some (bI (mV (mN zc 2) 0 za (T1.2 66)), T1) from wbn_3 (k := 0) T1 (by decide) ha]
              simp only [fb_s, s111, m2, Bool.false_or, bzz, l22, ↓reduceIte]
              cases wV (wN zc 2) 0 za (S1.2 41) with
              | true =>
                by_cases z : zd = 0
                · simp only [z, bn, ↓reduceIte]; exact fin 1
                · simp only [z, bn, ↓reduceIte]; exact tld (-1)
              | false =>
                by_cases z : zd = 0
                · simp only [z, bzz, ↓reduceIte]; exact fin 0
                · simp only [z, bzz, ↓reduceIte]; exact non
        · simp only [a1, a2, c1, c2, d1, d2, e1, e2, i10, ↓reduceIte]; exact ok_1 h
      · simp only [a1, a2, c1, c2, d1, d2, i10, ↓reduceIte]; exact ok_1 h
    · simp only [a1, a2, c1, c2, i10, ↓reduceIte]; exact ok_1 h
  · simp only [a1, a2, i10, ↓reduceIte]; exact ok_1 h
end NIX
