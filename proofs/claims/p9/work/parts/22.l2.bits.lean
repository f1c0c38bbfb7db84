/-! ===== pure: how many bits ===== -/
theorem nI_and (a b : Nat) : nI a &&& nI b = nI (a &&& b) :=
  Int32.toBitVec_inj.mp (BitVec.eq_of_toNat_eq (by
    show (BitVec.ofNat 32 a &&& BitVec.ofNat 32 b).toNat = (BitVec.ofNat 32 (a &&& b)).toNat
    rw [BitVec.toNat_and, BitVec.toNat_ofNat, BitVec.toNat_ofNat, BitVec.toNat_ofNat, Nat.and_mod_two_pow]))
theorem nI_tn (x : Int32) : nI x.toBitVec.toNat = x :=
  Int32.toBitVec_inj.mp (BitVec.eq_of_toNat_eq (by
    show (BitVec.ofNat 32 x.toBitVec.toNat).toNat = x.toBitVec.toNat
    rw [BitVec.toNat_ofNat, Nat.mod_eq_of_lt x.toBitVec.isLt]))
theorem and_sp {a b c d : Nat} (ha : a < 256) (hc : c < 256) : (a + 256 * b) &&& (c + 256 * d) = (a &&& c) + 256 * (b &&& d) := by
  have h1 : ((a + 256 * b) &&& (c + 256 * d)) % 2 ^ 8 = a &&& c := by
    rw [Nat.and_mod_two_pow, show (a + 256 * b) % 2 ^ 8 = a by omega, show (c + 256 * d) % 2 ^ 8 = c by omega]
  have h2 : ((a + 256 * b) &&& (c + 256 * d)) / 2 ^ 8 = b &&& d := by
    rw [Nat.and_div_two_pow, show (a + 256 * b) / 2 ^ 8 = b by omega, show (c + 256 * d) / 2 ^ 8 = d by omega]
  have h3 := Nat.mod_add_div ((a + 256 * b) &&& (c + 256 * d)) (2 ^ 8)
  rw [h1, h2] at h3
  omega
def by1 (a : Nat) : Nat := a - ((a / 2) &&& 85)
def by2 (a : Nat) : Nat := (by1 a &&& 51) + ((by1 a / 4) &&& 51)
def by3 (a : Nat) : Nat := (by2 a + by2 a / 16) &&& 15
theorem by_1 : ∀ (a : Fin 256) (r : Fin 2), ((a.val / 2 + 128 * r.val) &&& 85 = (a.val / 2) &&& 85) ∧ (a.val / 2) &&& 85 ≤ a.val := by decide +kernel
theorem by_2 : ∀ (a : Fin 256) (r : Fin 4), ((by1 a.val / 4 + 64 * r.val) &&& 51 = (by1 a.val / 4) &&& 51) ∧ by2 a.val ≤ 68 ∧ by2 a.val % 16 ≤ 4 ∧ by3 a.val ≤ 8 := by decide +kernel
theorem by_3 : ∀ (a : Fin 256) (r : Fin 5), (by2 a.val + by2 a.val / 16 + 16 * r.val) &&& 15 = by3 a.val := by decide +kernel
theorem by_4 : ∀ a : Fin 256, 0 < a.val → by3 (a.val &&& (a.val - 1)) + 1 = by3 a.val := by decide +kernel
theorem by1_lt {a : Nat} (h : a < 256) : by1 a < 256 := by unfold by1; omega
theorem by_f {a b c d : Nat} (ha : a ≤ 8) (hb : b ≤ 8) (hc : c ≤ 8) (hd : d ≤ 8) : (a + b + 256 * (b + c + 256 * (c + d + 256 * d)) + (a + b + 256 * (b + c + 256 * (c + d + 256 * d))) / 65536) % 2 ^ 6 = a + b + c + d := by
  have : (a + b + 256 * (b + c + 256 * (c + d + 256 * d))) / 65536 = c + d + 256 * d := by omega
  rw [this]; omega
theorem hd_e {S : FS} {a b c d : Nat} (ha : a < 256) (hb : b < 256) (hc : c < 256) (hd : d < 256) : p_J6_bitCount_0f7a4 S (nI (a + 256 * (b + 256 * (c + 256 * d)))) = nI (by3 a + by3 b + by3 c + by3 d) := by
  unfold p_J6_bitCount_0f7a4
  simp only [fv_s]
  have s1 : (a + 256 * (b + 256 * (c + 256 * d))) / 2 = (a / 2 + 128 * (b % 2)) + 256 * ((b / 2 + 128 * (c % 2)) + 256 * ((c / 2 + 128 * (d % 2)) + 256 * (d / 2))) := by omega
  have f1 : ∀ x r : Nat, x < 256 → r < 2 → (x / 2 + 128 * r) &&& 85 = (x / 2) &&& 85 := fun x r hx hr => (by_1 ⟨x, hx⟩ ⟨r, hr⟩).1
  have f2 : ∀ x : Nat, x < 256 → (x / 2) &&& 85 ≤ x := fun x hx => (by_1 ⟨x, hx⟩ 0).2
  have e1 : (a + 256 * (b + 256 * (c + 256 * d))) / 2 &&& 1431655765 = ((a / 2) &&& 85) + 256 * (((b / 2) &&& 85) + 256 * (((c / 2) &&& 85) + 256 * ((d / 2) &&& 85))) := by
    rw [s1, show (1431655765 : Nat) = 85 + 256 * (85 + 256 * (85 + 256 * 85)) from rfl, and_sp (by omega) (by decide), and_sp (by omega) (by decide), and_sp (by omega) (by decide), f1 a _ ha (by omega), f1 b _ hb (by omega), f1 c _ hc (by omega)]
  rw [pk_ushrN (show a + 256 * (b + 256 * (c + 256 * d)) < 2 ^ 32 by omega) 1 1 (by decide), show (2 : Nat) ^ 1 = 2 from rfl]
  rw [show (1431655765 : Int32) = nI 1431655765 from rfl, nI_and, e1]
  have := f2 a ha
  have := f2 b hb
  have := f2 c hc
  have := f2 d hd
  have x1 : a + 256 * (b + 256 * (c + 256 * d)) - (((a / 2) &&& 85) + 256 * (((b / 2) &&& 85) + 256 * (((c / 2) &&& 85) + 256 * ((d / 2) &&& 85)))) = by1 a + 256 * (by1 b + 256 * (by1 c + 256 * by1 d)) := by unfold by1; omega
  rw [pk_sub (by omega), x1]
  have a1 := by1_lt ha
  have b1 := by1_lt hb
  have c1 := by1_lt hc
  have d1 := by1_lt hd
  have g1 : ∀ x r : Nat, x < 256 → r < 4 → (by1 x / 4 + 64 * r) &&& 51 = (by1 x / 4) &&& 51 := fun x r hx hr => (by_2 ⟨x, hx⟩ ⟨r, hr⟩).1
  have g2 : ∀ x : Nat, x < 256 → by2 x ≤ 68 ∧ by2 x % 16 ≤ 4 ∧ by3 x ≤ 8 := fun x hx => (by_2 ⟨x, hx⟩ 0).2
  have s2 : (by1 a + 256 * (by1 b + 256 * (by1 c + 256 * by1 d))) / 4 = (by1 a / 4 + 64 * (by1 b % 4)) + 256 * ((by1 b / 4 + 64 * (by1 c % 4)) + 256 * ((by1 c / 4 + 64 * (by1 d % 4)) + 256 * (by1 d / 4))) := by omega
  have e2 : (by1 a + 256 * (by1 b + 256 * (by1 c + 256 * by1 d))) / 4 &&& 858993459 = ((by1 a / 4) &&& 51) + 256 * (((by1 b / 4) &&& 51) + 256 * (((by1 c / 4) &&& 51) + 256 * ((by1 d / 4) &&& 51))) := by
    rw [s2, show (858993459 : Nat) = 51 + 256 * (51 + 256 * (51 + 256 * 51)) from rfl, and_sp (by omega) (by decide), and_sp (by omega) (by decide), and_sp (by omega) (by decide), g1 a _ ha (by omega), g1 b _ hb (by omega), g1 c _ hc (by omega)]
  have e3 : (by1 a + 256 * (by1 b + 256 * (by1 c + 256 * by1 d))) &&& 858993459 = (by1 a &&& 51) + 256 * ((by1 b &&& 51) + 256 * ((by1 c &&& 51) + 256 * (by1 d &&& 51))) := by
    rw [show (858993459 : Nat) = 51 + 256 * (51 + 256 * (51 + 256 * 51)) from rfl, and_sp (by omega) (by decide), and_sp (by omega) (by decide), and_sp (by omega) (by decide)]
  rw [pk_ushrN (show by1 a + 256 * (by1 b + 256 * (by1 c + 256 * by1 d)) < 2 ^ 32 by omega) 2 2 (by decide), show (2 : Nat) ^ 2 = 4 from rfl]
  rw [show (858993459 : Int32) = nI 858993459 from rfl, nI_and, nI_and, e2, e3, nI_add]
  have x2 : (by1 a &&& 51) + 256 * ((by1 b &&& 51) + 256 * ((by1 c &&& 51) + 256 * (by1 d &&& 51))) + (((by1 a / 4) &&& 51) + 256 * (((by1 b / 4) &&& 51) + 256 * (((by1 c / 4) &&& 51) + 256 * ((by1 d / 4) &&& 51)))) = by2 a + 256 * (by2 b + 256 * (by2 c + 256 * by2 d)) := by unfold by2; omega
  rw [x2]
  obtain ⟨a2, a3, a4⟩ := g2 a ha
  obtain ⟨b2, b3, b4⟩ := g2 b hb
  obtain ⟨c2, c3, c4⟩ := g2 c hc
  obtain ⟨d2, d3, d4⟩ := g2 d hd
  rw [pk_ushrN (show by2 a + 256 * (by2 b + 256 * (by2 c + 256 * by2 d)) < 2 ^ 32 by omega) 4 4 (by decide), show (2 : Nat) ^ 4 = 16 from rfl, nI_add]
  have s3 : by2 a + 256 * (by2 b + 256 * (by2 c + 256 * by2 d)) + (by2 a + 256 * (by2 b + 256 * (by2 c + 256 * by2 d))) / 16 = (by2 a + by2 a / 16 + 16 * (by2 b % 16)) + 256 * ((by2 b + by2 b / 16 + 16 * (by2 c % 16)) + 256 * ((by2 c + by2 c / 16 + 16 * (by2 d % 16)) + 256 * (by2 d + by2 d / 16 + 16 * 0))) := by omega
  have k1 : ∀ x r : Nat, x < 256 → r < 5 → (by2 x + by2 x / 16 + 16 * r) &&& 15 = by3 x := fun x r hx hr => by_3 ⟨x, hx⟩ ⟨r, hr⟩
  have e4 : (by2 a + 256 * (by2 b + 256 * (by2 c + 256 * by2 d)) + (by2 a + 256 * (by2 b + 256 * (by2 c + 256 * by2 d))) / 16) &&& 252645135 = by3 a + 256 * (by3 b + 256 * (by3 c + 256 * by3 d)) := by
    rw [s3, show (252645135 : Nat) = 15 + 256 * (15 + 256 * (15 + 256 * 15)) from rfl, and_sp (by omega) (by decide), and_sp (by omega) (by decide), and_sp (by omega) (by decide), k1 a _ ha (by omega), k1 b _ hb (by omega), k1 c _ hc (by omega), k1 d _ hd (by omega)]
  rw [show (252645135 : Int32) = nI 252645135 from rfl, nI_and, e4]
  rw [pk_ushrN (show by3 a + 256 * (by3 b + 256 * (by3 c + 256 * by3 d)) < 2 ^ 32 by omega) 8 8 (by decide), show (2 : Nat) ^ 8 = 256 from rfl, nI_add]
  have s4 : by3 a + 256 * (by3 b + 256 * (by3 c + 256 * by3 d)) + (by3 a + 256 * (by3 b + 256 * (by3 c + 256 * by3 d))) / 256 = (by3 a + by3 b) + 256 * ((by3 b + by3 c) + 256 * ((by3 c + by3 d) + 256 * by3 d)) := by omega
  rw [s4, pk_ushrN (show (by3 a + by3 b) + 256 * ((by3 b + by3 c) + 256 * ((by3 c + by3 d) + 256 * by3 d)) < 2 ^ 32 by omega) 16 16 (by decide), show (2 : Nat) ^ 16 = 65536 from rfl, nI_add]
  rw [pk_andN (by omega) 6 (by decide)]
  exact congrArg nI (by_f a4 b4 c4 d4)
def pcL : Nat → Nat → Nat
  | 0, _ => 0
  | l + 1, n => by3 (n % 256) + pcL l (n / 256)
theorem pcL_s : ∀ (l n : Nat), 0 < n → n < 256 ^ l → pcL l (n &&& (n - 1)) + 1 = pcL l n
  | 0, n, h0, h => absurd h (by omega)
  | l + 1, n, h0, h => by
    obtain ⟨a, m, ha, rfl⟩ : ∃ a m : Nat, a < 256 ∧ n = a + 256 * m := ⟨n % 256, n / 256, by omega, by omega⟩
    have e1 : ∀ a m : Nat, a < 256 → pcL (l + 1) (a + 256 * m) = by3 a + pcL l m := fun a m ha => by
      show by3 ((a + 256 * m) % 256) + pcL l ((a + 256 * m) / 256) = _
      rw [show (a + 256 * m) % 256 = a by omega, show (a + 256 * m) / 256 = m by omega]
    by_cases c : 0 < a
    · have b := by_4 ⟨a, ha⟩ c
      have lt : a &&& (a - 1) < 256 := by
        have := Nat.and_le_left (n := a) (m := a - 1); omega
      rw [show a + 256 * m - 1 = (a - 1) + 256 * m by omega, and_sp ha (by omega), Nat.and_self, e1 _ _ lt, e1 _ _ ha]
      simp only at b; omega
    · have a0 : a = 0 := by omega
      subst a0
      have m0 : 0 < m := by omega
      have ih := pcL_s l m m0 (by rw [Nat.pow_succ] at h; omega)
      rw [show 0 + 256 * m - 1 = 255 + 256 * (m - 1) by omega, and_sp (by decide) (by decide), e1 _ _ (by decide), e1 _ _ (by decide)]
      rw [show (0 : Nat) &&& 255 = 0 from rfl]; omega
theorem pcL_le : ∀ (l n : Nat), pcL l n ≤ 8 * l
  | 0, n => Nat.le_refl _
  | l + 1, n => by
    have := pcL_le l (n / 256)
    have h2 : by3 (n % 256) ≤ 8 := (by_2 ⟨n % 256, by omega⟩ 0).2.2.2
    unfold pcL; omega
theorem pcL_0 : ∀ l : Nat, pcL l 0 = 0
  | 0 => rfl
  | l + 1 => by unfold pcL; rw [show (0 : Nat) % 256 = 0 from rfl, show (0 : Nat) / 256 = 0 from rfl, pcL_0 l]; rfl
theorem kg_l {k : Int32 → Int32 → Option Int32} : ∀ (m n c : Nat), n < 2 ^ 32 → pcL 4 n < m → l_X12_bits_4 k m (nI c) (nI n) = k (nI (c + pcL 4 n)) (nI 0)
  | 0, n, c, _, h => absurd h (Nat.not_lt_zero _)
  | m + 1, n, c, hn, h => by
    rw [l_X12_bits_4]
    by_cases z : n = 0
    · subst z
      rw [if_pos (show nI 0 = 0 from rfl), pcL_0]; rfl
    · have z2 : ¬ nI n = 0 := fun q => z (by rw [← pk_tn hn, q]; rfl)
      have p := pcL_s 4 n (by omega) (by omega)
      have lt : n &&& (n - 1) < 2 ^ 32 := by
        have := Nat.and_le_left (n := n) (m := n - 1); omega
      rw [if_neg z2, fv_s, show (1 : Int32) = nI 1 from rfl, pk_sub (show 1 ≤ n by omega), nI_and, nI_add, kg_l m (n &&& (n - 1)) (c + 1) lt (by omega)]
      rw [show c + 1 + pcL 4 (n &&& (n - 1)) = c + pcL 4 n by omega]
theorem bits_e {S T : FS} (x : Int32) : q_X12_bits T x = some (p_J6_bitCount_0f7a4 S x) := by
  have hx : x.toBitVec.toNat < 2 ^ 32 := x.toBitVec.isLt
  rw [← nI_tn x]
  generalize x.toBitVec.toNat = n at hx
  obtain ⟨a, b, c, d, ha, hb, hc, hd, rfl⟩ : ∃ a b c d : Nat, a < 256 ∧ b < 256 ∧ c < 256 ∧ d < 256 ∧ n = a + 256 * (b + 256 * (c + 256 * d)) := ⟨n % 256, n / 256 % 256, n / 65536 % 256, n / 16777216, by omega, by omega, by omega, by omega, by omega⟩
  rw [hd_e ha hb hc hd]
  unfold q_X12_bits
  have := pcL_le 4 (a + 256 * (b + 256 * (c + 256 * d)))
  rw [show (0 : Int32) = nI 0 from rfl, kg_l FU _ 0 hx (FU_lt (by omega))]
  refine congrArg some (congrArg nI ?_)
  simp only [pcL]
  rw [show (a + 256 * (b + 256 * (c + 256 * d))) % 256 = a by omega, show (a + 256 * (b + 256 * (c + 256 * d))) / 256 = b + 256 * (c + 256 * d) by omega, show (b + 256 * (c + 256 * d)) % 256 = b by omega, show (b + 256 * (c + 256 * d)) / 256 = c + 256 * d by omega, show (c + 256 * d) % 256 = c by omega, show (c + 256 * d) / 256 = d by omega, show d % 256 = d by omega]
  omega
