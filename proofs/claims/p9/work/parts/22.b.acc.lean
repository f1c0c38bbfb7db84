/-! ===== pure: the model's accessors ===== -/
theorem ix_lin {N b s p c e : Nat} (he : s * p + (b + c) = e) (h : e < N) (hN : N ≤ 2 ^ 31) : ix N ((nI b + nI s * nI p) + nI c) = some e := by
  rw [pk_mul, nI_add, nI_add, ← he]
  rw [show b + s * p + c = s * p + (b + c) by omega]
  exact ix_nI (by omega) hN
theorem ix_lin0 {N b s p e : Nat} (he : s * p + b = e) (h : e < N) (hN : N ≤ 2 ^ 31) : ix N (nI b + nI s * nI p) = some e := by
  rw [pk_mul, nI_add, ← he, show b + s * p = s * p + b by omega]
  exact ix_nI (by omega) hN
theorem man_0 {T : FS} {p : Nat} (h : p < 20) : q_X12_man T (nI p) 0 = some (T.2 55 (14 * p + 110)) := by
  unfold q_X12_man
  rw [show ix 2071 (((110 : Int32) + (14 : Int32) * nI p) + (0 : Int32)) = some (14 * p + 110) from ix_lin (b := 110) (s := 14) (c := 0) (by omega) (by omega) (by decide)]; rfl
theorem sets_0 {T : FS} {p : Nat} {x : Int32} (h : p < 20) : f_X12_sets T (nI p) 0 x = some (0, wA T 55 (14 * p + 110) x) := by
  unfold f_X12_sets
  rw [show ix 2071 (((110 : Int32) + (14 : Int32) * nI p) + (0 : Int32)) = some (14 * p + 110) from ix_lin (b := 110) (s := 14) (c := 0) (by omega) (by omega) (by decide)]; rfl
theorem man_1 {T : FS} {p : Nat} (h : p < 20) : q_X12_man T (nI p) 1 = some (T.2 55 (14 * p + 111)) := by
  unfold q_X12_man
  rw [show ix 2071 (((110 : Int32) + (14 : Int32) * nI p) + (1 : Int32)) = some (14 * p + 111) from ix_lin (b := 110) (s := 14) (c := 1) (by omega) (by omega) (by decide)]; rfl
theorem sets_1 {T : FS} {p : Nat} {x : Int32} (h : p < 20) : f_X12_sets T (nI p) 1 x = some (0, wA T 55 (14 * p + 111) x) := by
  unfold f_X12_sets
  rw [show ix 2071 (((110 : Int32) + (14 : Int32) * nI p) + (1 : Int32)) = some (14 * p + 111) from ix_lin (b := 110) (s := 14) (c := 1) (by omega) (by omega) (by decide)]; rfl
theorem man_2 {T : FS} {p : Nat} (h : p < 20) : q_X12_man T (nI p) 2 = some (T.2 55 (14 * p + 112)) := by
  unfold q_X12_man
  rw [show ix 2071 (((110 : Int32) + (14 : Int32) * nI p) + (2 : Int32)) = some (14 * p + 112) from ix_lin (b := 110) (s := 14) (c := 2) (by omega) (by omega) (by decide)]; rfl
theorem sets_2 {T : FS} {p : Nat} {x : Int32} (h : p < 20) : f_X12_sets T (nI p) 2 x = some (0, wA T 55 (14 * p + 112) x) := by
  unfold f_X12_sets
  rw [show ix 2071 (((110 : Int32) + (14 : Int32) * nI p) + (2 : Int32)) = some (14 * p + 112) from ix_lin (b := 110) (s := 14) (c := 2) (by omega) (by omega) (by decide)]; rfl
theorem man_3 {T : FS} {p : Nat} (h : p < 20) : q_X12_man T (nI p) 3 = some (T.2 55 (14 * p + 113)) := by
  unfold q_X12_man
  rw [show ix 2071 (((110 : Int32) + (14 : Int32) * nI p) + (3 : Int32)) = some (14 * p + 113) from ix_lin (b := 110) (s := 14) (c := 3) (by omega) (by omega) (by decide)]; rfl
theorem sets_3 {T : FS} {p : Nat} {x : Int32} (h : p < 20) : f_X12_sets T (nI p) 3 x = some (0, wA T 55 (14 * p + 113) x) := by
  unfold f_X12_sets
  rw [show ix 2071 (((110 : Int32) + (14 : Int32) * nI p) + (3 : Int32)) = some (14 * p + 113) from ix_lin (b := 110) (s := 14) (c := 3) (by omega) (by omega) (by decide)]; rfl
theorem man_4 {T : FS} {p : Nat} (h : p < 20) : q_X12_man T (nI p) 4 = some (T.2 55 (14 * p + 114)) := by
  unfold q_X12_man
  rw [show ix 2071 (((110 : Int32) + (14 : Int32) * nI p) + (4 : Int32)) = some (14 * p + 114) from ix_lin (b := 110) (s := 14) (c := 4) (by omega) (by omega) (by decide)]; rfl
theorem sets_4 {T : FS} {p : Nat} {x : Int32} (h : p < 20) : f_X12_sets T (nI p) 4 x = some (0, wA T 55 (14 * p + 114) x) := by
  unfold f_X12_sets
  rw [show ix 2071 (((110 : Int32) + (14 : Int32) * nI p) + (4 : Int32)) = some (14 * p + 114) from ix_lin (b := 110) (s := 14) (c := 4) (by omega) (by omega) (by decide)]; rfl
theorem man_5 {T : FS} {p : Nat} (h : p < 20) : q_X12_man T (nI p) 5 = some (T.2 55 (14 * p + 115)) := by
  unfold q_X12_man
  rw [show ix 2071 (((110 : Int32) + (14 : Int32) * nI p) + (5 : Int32)) = some (14 * p + 115) from ix_lin (b := 110) (s := 14) (c := 5) (by omega) (by omega) (by decide)]; rfl
theorem sets_5 {T : FS} {p : Nat} {x : Int32} (h : p < 20) : f_X12_sets T (nI p) 5 x = some (0, wA T 55 (14 * p + 115) x) := by
  unfold f_X12_sets
  rw [show ix 2071 (((110 : Int32) + (14 : Int32) * nI p) + (5 : Int32)) = some (14 * p + 115) from ix_lin (b := 110) (s := 14) (c := 5) (by omega) (by omega) (by decide)]; rfl
theorem man_6 {T : FS} {p : Nat} (h : p < 20) : q_X12_man T (nI p) 6 = some (T.2 55 (14 * p + 116)) := by
  unfold q_X12_man
  rw [show ix 2071 (((110 : Int32) + (14 : Int32) * nI p) + (6 : Int32)) = some (14 * p + 116) from ix_lin (b := 110) (s := 14) (c := 6) (by omega) (by omega) (by decide)]; rfl
theorem sets_6 {T : FS} {p : Nat} {x : Int32} (h : p < 20) : f_X12_sets T (nI p) 6 x = some (0, wA T 55 (14 * p + 116) x) := by
  unfold f_X12_sets
  rw [show ix 2071 (((110 : Int32) + (14 : Int32) * nI p) + (6 : Int32)) = some (14 * p + 116) from ix_lin (b := 110) (s := 14) (c := 6) (by omega) (by omega) (by decide)]; rfl
theorem man_7 {T : FS} {p : Nat} (h : p < 20) : q_X12_man T (nI p) 7 = some (T.2 55 (14 * p + 117)) := by
  unfold q_X12_man
  rw [show ix 2071 (((110 : Int32) + (14 : Int32) * nI p) + (7 : Int32)) = some (14 * p + 117) from ix_lin (b := 110) (s := 14) (c := 7) (by omega) (by omega) (by decide)]; rfl
theorem sets_7 {T : FS} {p : Nat} {x : Int32} (h : p < 20) : f_X12_sets T (nI p) 7 x = some (0, wA T 55 (14 * p + 117) x) := by
  unfold f_X12_sets
  rw [show ix 2071 (((110 : Int32) + (14 : Int32) * nI p) + (7 : Int32)) = some (14 * p + 117) from ix_lin (b := 110) (s := 14) (c := 7) (by omega) (by omega) (by decide)]; rfl
theorem man_8 {T : FS} {p : Nat} (h : p < 20) : q_X12_man T (nI p) 8 = some (T.2 55 (14 * p + 118)) := by
  unfold q_X12_man
  rw [show ix 2071 (((110 : Int32) + (14 : Int32) * nI p) + (8 : Int32)) = some (14 * p + 118) from ix_lin (b := 110) (s := 14) (c := 8) (by omega) (by omega) (by decide)]; rfl
theorem sets_8 {T : FS} {p : Nat} {x : Int32} (h : p < 20) : f_X12_sets T (nI p) 8 x = some (0, wA T 55 (14 * p + 118) x) := by
  unfold f_X12_sets
  rw [show ix 2071 (((110 : Int32) + (14 : Int32) * nI p) + (8 : Int32)) = some (14 * p + 118) from ix_lin (b := 110) (s := 14) (c := 8) (by omega) (by omega) (by decide)]; rfl
theorem man_9 {T : FS} {p : Nat} (h : p < 20) : q_X12_man T (nI p) 9 = some (T.2 55 (14 * p + 119)) := by
  unfold q_X12_man
  rw [show ix 2071 (((110 : Int32) + (14 : Int32) * nI p) + (9 : Int32)) = some (14 * p + 119) from ix_lin (b := 110) (s := 14) (c := 9) (by omega) (by omega) (by decide)]; rfl
theorem sets_9 {T : FS} {p : Nat} {x : Int32} (h : p < 20) : f_X12_sets T (nI p) 9 x = some (0, wA T 55 (14 * p + 119) x) := by
  unfold f_X12_sets
  rw [show ix 2071 (((110 : Int32) + (14 : Int32) * nI p) + (9 : Int32)) = some (14 * p + 119) from ix_lin (b := 110) (s := 14) (c := 9) (by omega) (by omega) (by decide)]; rfl
theorem man_10 {T : FS} {p : Nat} (h : p < 20) : q_X12_man T (nI p) 10 = some (T.2 55 (14 * p + 120)) := by
  unfold q_X12_man
  rw [show ix 2071 (((110 : Int32) + (14 : Int32) * nI p) + (10 : Int32)) = some (14 * p + 120) from ix_lin (b := 110) (s := 14) (c := 10) (by omega) (by omega) (by decide)]; rfl
theorem sets_10 {T : FS} {p : Nat} {x : Int32} (h : p < 20) : f_X12_sets T (nI p) 10 x = some (0, wA T 55 (14 * p + 120) x) := by
  unfold f_X12_sets
  rw [show ix 2071 (((110 : Int32) + (14 : Int32) * nI p) + (10 : Int32)) = some (14 * p + 120) from ix_lin (b := 110) (s := 14) (c := 10) (by omega) (by omega) (by decide)]; rfl
theorem man_11 {T : FS} {p : Nat} (h : p < 20) : q_X12_man T (nI p) 11 = some (T.2 55 (14 * p + 121)) := by
  unfold q_X12_man
  rw [show ix 2071 (((110 : Int32) + (14 : Int32) * nI p) + (11 : Int32)) = some (14 * p + 121) from ix_lin (b := 110) (s := 14) (c := 11) (by omega) (by omega) (by decide)]; rfl
theorem sets_11 {T : FS} {p : Nat} {x : Int32} (h : p < 20) : f_X12_sets T (nI p) 11 x = some (0, wA T 55 (14 * p + 121) x) := by
  unfold f_X12_sets
  rw [show ix 2071 (((110 : Int32) + (14 : Int32) * nI p) + (11 : Int32)) = some (14 * p + 121) from ix_lin (b := 110) (s := 14) (c := 11) (by omega) (by omega) (by decide)]; rfl
theorem man_12 {T : FS} {p : Nat} (h : p < 20) : q_X12_man T (nI p) 12 = some (T.2 55 (14 * p + 122)) := by
  unfold q_X12_man
  rw [show ix 2071 (((110 : Int32) + (14 : Int32) * nI p) + (12 : Int32)) = some (14 * p + 122) from ix_lin (b := 110) (s := 14) (c := 12) (by omega) (by omega) (by decide)]; rfl
theorem sets_12 {T : FS} {p : Nat} {x : Int32} (h : p < 20) : f_X12_sets T (nI p) 12 x = some (0, wA T 55 (14 * p + 122) x) := by
  unfold f_X12_sets
  rw [show ix 2071 (((110 : Int32) + (14 : Int32) * nI p) + (12 : Int32)) = some (14 * p + 122) from ix_lin (b := 110) (s := 14) (c := 12) (by omega) (by omega) (by decide)]; rfl
theorem man_13 {T : FS} {p : Nat} (h : p < 20) : q_X12_man T (nI p) 13 = some (T.2 55 (14 * p + 123)) := by
  unfold q_X12_man
  rw [show ix 2071 (((110 : Int32) + (14 : Int32) * nI p) + (13 : Int32)) = some (14 * p + 123) from ix_lin (b := 110) (s := 14) (c := 13) (by omega) (by omega) (by decide)]; rfl
theorem sets_13 {T : FS} {p : Nat} {x : Int32} (h : p < 20) : f_X12_sets T (nI p) 13 x = some (0, wA T 55 (14 * p + 123) x) := by
  unfold f_X12_sets
  rw [show ix 2071 (((110 : Int32) + (14 : Int32) * nI p) + (13 : Int32)) = some (14 * p + 123) from ix_lin (b := 110) (s := 14) (c := 13) (by omega) (by omega) (by decide)]; rfl
theorem its_0 {T : FS} {p : Nat} (h : p < 20) : q_X12_its T (nI p) 0 = some (T.2 55 (6 * p + 390)) := by
  unfold q_X12_its
  rw [show ix 2071 (((390 : Int32) + (6 : Int32) * nI p) + (0 : Int32)) = some (6 * p + 390) from ix_lin (b := 390) (s := 6) (c := 0) (by omega) (by omega) (by decide)]; rfl
theorem makes_0 {T : FS} {p : Nat} {x : Int32} (h : p < 20) : f_X12_makes T (nI p) 0 x = some (0, wA T 55 (6 * p + 390) x) := by
  unfold f_X12_makes
  rw [show ix 2071 (((390 : Int32) + (6 : Int32) * nI p) + (0 : Int32)) = some (6 * p + 390) from ix_lin (b := 390) (s := 6) (c := 0) (by omega) (by omega) (by decide)]; rfl
theorem its_1 {T : FS} {p : Nat} (h : p < 20) : q_X12_its T (nI p) 1 = some (T.2 55 (6 * p + 391)) := by
  unfold q_X12_its
  rw [show ix 2071 (((390 : Int32) + (6 : Int32) * nI p) + (1 : Int32)) = some (6 * p + 391) from ix_lin (b := 390) (s := 6) (c := 1) (by omega) (by omega) (by decide)]; rfl
theorem makes_1 {T : FS} {p : Nat} {x : Int32} (h : p < 20) : f_X12_makes T (nI p) 1 x = some (0, wA T 55 (6 * p + 391) x) := by
  unfold f_X12_makes
  rw [show ix 2071 (((390 : Int32) + (6 : Int32) * nI p) + (1 : Int32)) = some (6 * p + 391) from ix_lin (b := 390) (s := 6) (c := 1) (by omega) (by omega) (by decide)]; rfl
theorem its_2 {T : FS} {p : Nat} (h : p < 20) : q_X12_its T (nI p) 2 = some (T.2 55 (6 * p + 392)) := by
  unfold q_X12_its
  rw [show ix 2071 (((390 : Int32) + (6 : Int32) * nI p) + (2 : Int32)) = some (6 * p + 392) from ix_lin (b := 390) (s := 6) (c := 2) (by omega) (by omega) (by decide)]; rfl
theorem makes_2 {T : FS} {p : Nat} {x : Int32} (h : p < 20) : f_X12_makes T (nI p) 2 x = some (0, wA T 55 (6 * p + 392) x) := by
  unfold f_X12_makes
  rw [show ix 2071 (((390 : Int32) + (6 : Int32) * nI p) + (2 : Int32)) = some (6 * p + 392) from ix_lin (b := 390) (s := 6) (c := 2) (by omega) (by omega) (by decide)]; rfl
theorem its_3 {T : FS} {p : Nat} (h : p < 20) : q_X12_its T (nI p) 3 = some (T.2 55 (6 * p + 393)) := by
  unfold q_X12_its
  rw [show ix 2071 (((390 : Int32) + (6 : Int32) * nI p) + (3 : Int32)) = some (6 * p + 393) from ix_lin (b := 390) (s := 6) (c := 3) (by omega) (by omega) (by decide)]; rfl
theorem makes_3 {T : FS} {p : Nat} {x : Int32} (h : p < 20) : f_X12_makes T (nI p) 3 x = some (0, wA T 55 (6 * p + 393) x) := by
  unfold f_X12_makes
  rw [show ix 2071 (((390 : Int32) + (6 : Int32) * nI p) + (3 : Int32)) = some (6 * p + 393) from ix_lin (b := 390) (s := 6) (c := 3) (by omega) (by omega) (by decide)]; rfl
theorem its_4 {T : FS} {p : Nat} (h : p < 20) : q_X12_its T (nI p) 4 = some (T.2 55 (6 * p + 394)) := by
  unfold q_X12_its
  rw [show ix 2071 (((390 : Int32) + (6 : Int32) * nI p) + (4 : Int32)) = some (6 * p + 394) from ix_lin (b := 390) (s := 6) (c := 4) (by omega) (by omega) (by decide)]; rfl
theorem makes_4 {T : FS} {p : Nat} {x : Int32} (h : p < 20) : f_X12_makes T (nI p) 4 x = some (0, wA T 55 (6 * p + 394) x) := by
  unfold f_X12_makes
  rw [show ix 2071 (((390 : Int32) + (6 : Int32) * nI p) + (4 : Int32)) = some (6 * p + 394) from ix_lin (b := 390) (s := 6) (c := 4) (by omega) (by omega) (by decide)]; rfl
theorem its_5 {T : FS} {p : Nat} (h : p < 20) : q_X12_its T (nI p) 5 = some (T.2 55 (6 * p + 395)) := by
  unfold q_X12_its
  rw [show ix 2071 (((390 : Int32) + (6 : Int32) * nI p) + (5 : Int32)) = some (6 * p + 395) from ix_lin (b := 390) (s := 6) (c := 5) (by omega) (by omega) (by decide)]; rfl
theorem makes_5 {T : FS} {p : Nat} {x : Int32} (h : p < 20) : f_X12_makes T (nI p) 5 x = some (0, wA T 55 (6 * p + 395) x) := by
  unfold f_X12_makes
  rw [show ix 2071 (((390 : Int32) + (6 : Int32) * nI p) + (5 : Int32)) = some (6 * p + 395) from ix_lin (b := 390) (s := 6) (c := 5) (by omega) (by omega) (by decide)]; rfl
theorem of_0 {T : FS} {p : Nat} (h : p < 40) : q_X12_of T (nI p) 0 = some (T.2 55 (12 * p + 1290)) := by
  unfold q_X12_of
  rw [show ix 2071 (((1290 : Int32) + (12 : Int32) * nI p) + (0 : Int32)) = some (12 * p + 1290) from ix_lin (b := 1290) (s := 12) (c := 0) (by omega) (by omega) (by decide)]; rfl
theorem writes_0 {T : FS} {p : Nat} {x : Int32} (h : p < 40) : f_X12_writes T (nI p) 0 x = some (0, wA T 55 (12 * p + 1290) x) := by
  unfold f_X12_writes
  rw [show ix 2071 (((1290 : Int32) + (12 : Int32) * nI p) + (0 : Int32)) = some (12 * p + 1290) from ix_lin (b := 1290) (s := 12) (c := 0) (by omega) (by omega) (by decide)]; rfl
theorem of_1 {T : FS} {p : Nat} (h : p < 40) : q_X12_of T (nI p) 1 = some (T.2 55 (12 * p + 1291)) := by
  unfold q_X12_of
  rw [show ix 2071 (((1290 : Int32) + (12 : Int32) * nI p) + (1 : Int32)) = some (12 * p + 1291) from ix_lin (b := 1290) (s := 12) (c := 1) (by omega) (by omega) (by decide)]; rfl
theorem writes_1 {T : FS} {p : Nat} {x : Int32} (h : p < 40) : f_X12_writes T (nI p) 1 x = some (0, wA T 55 (12 * p + 1291) x) := by
  unfold f_X12_writes
  rw [show ix 2071 (((1290 : Int32) + (12 : Int32) * nI p) + (1 : Int32)) = some (12 * p + 1291) from ix_lin (b := 1290) (s := 12) (c := 1) (by omega) (by omega) (by decide)]; rfl
theorem of_2 {T : FS} {p : Nat} (h : p < 40) : q_X12_of T (nI p) 2 = some (T.2 55 (12 * p + 1292)) := by
  unfold q_X12_of
  rw [show ix 2071 (((1290 : Int32) + (12 : Int32) * nI p) + (2 : Int32)) = some (12 * p + 1292) from ix_lin (b := 1290) (s := 12) (c := 2) (by omega) (by omega) (by decide)]; rfl
theorem writes_2 {T : FS} {p : Nat} {x : Int32} (h : p < 40) : f_X12_writes T (nI p) 2 x = some (0, wA T 55 (12 * p + 1292) x) := by
  unfold f_X12_writes
  rw [show ix 2071 (((1290 : Int32) + (12 : Int32) * nI p) + (2 : Int32)) = some (12 * p + 1292) from ix_lin (b := 1290) (s := 12) (c := 2) (by omega) (by omega) (by decide)]; rfl
theorem of_3 {T : FS} {p : Nat} (h : p < 40) : q_X12_of T (nI p) 3 = some (T.2 55 (12 * p + 1293)) := by
  unfold q_X12_of
  rw [show ix 2071 (((1290 : Int32) + (12 : Int32) * nI p) + (3 : Int32)) = some (12 * p + 1293) from ix_lin (b := 1290) (s := 12) (c := 3) (by omega) (by omega) (by decide)]; rfl
theorem writes_3 {T : FS} {p : Nat} {x : Int32} (h : p < 40) : f_X12_writes T (nI p) 3 x = some (0, wA T 55 (12 * p + 1293) x) := by
  unfold f_X12_writes
  rw [show ix 2071 (((1290 : Int32) + (12 : Int32) * nI p) + (3 : Int32)) = some (12 * p + 1293) from ix_lin (b := 1290) (s := 12) (c := 3) (by omega) (by omega) (by decide)]; rfl
theorem of_4 {T : FS} {p : Nat} (h : p < 40) : q_X12_of T (nI p) 4 = some (T.2 55 (12 * p + 1294)) := by
  unfold q_X12_of
  rw [show ix 2071 (((1290 : Int32) + (12 : Int32) * nI p) + (4 : Int32)) = some (12 * p + 1294) from ix_lin (b := 1290) (s := 12) (c := 4) (by omega) (by omega) (by decide)]; rfl
theorem writes_4 {T : FS} {p : Nat} {x : Int32} (h : p < 40) : f_X12_writes T (nI p) 4 x = some (0, wA T 55 (12 * p + 1294) x) := by
  unfold f_X12_writes
  rw [show ix 2071 (((1290 : Int32) + (12 : Int32) * nI p) + (4 : Int32)) = some (12 * p + 1294) from ix_lin (b := 1290) (s := 12) (c := 4) (by omega) (by omega) (by decide)]; rfl
theorem of_5 {T : FS} {p : Nat} (h : p < 40) : q_X12_of T (nI p) 5 = some (T.2 55 (12 * p + 1295)) := by
  unfold q_X12_of
  rw [show ix 2071 (((1290 : Int32) + (12 : Int32) * nI p) + (5 : Int32)) = some (12 * p + 1295) from ix_lin (b := 1290) (s := 12) (c := 5) (by omega) (by omega) (by decide)]; rfl
theorem writes_5 {T : FS} {p : Nat} {x : Int32} (h : p < 40) : f_X12_writes T (nI p) 5 x = some (0, wA T 55 (12 * p + 1295) x) := by
  unfold f_X12_writes
  rw [show ix 2071 (((1290 : Int32) + (12 : Int32) * nI p) + (5 : Int32)) = some (12 * p + 1295) from ix_lin (b := 1290) (s := 12) (c := 5) (by omega) (by omega) (by decide)]; rfl
theorem of_6 {T : FS} {p : Nat} (h : p < 40) : q_X12_of T (nI p) 6 = some (T.2 55 (12 * p + 1296)) := by
  unfold q_X12_of
  rw [show ix 2071 (((1290 : Int32) + (12 : Int32) * nI p) + (6 : Int32)) = some (12 * p + 1296) from ix_lin (b := 1290) (s := 12) (c := 6) (by omega) (by omega) (by decide)]; rfl
theorem writes_6 {T : FS} {p : Nat} {x : Int32} (h : p < 40) : f_X12_writes T (nI p) 6 x = some (0, wA T 55 (12 * p + 1296) x) := by
  unfold f_X12_writes
  rw [show ix 2071 (((1290 : Int32) + (12 : Int32) * nI p) + (6 : Int32)) = some (12 * p + 1296) from ix_lin (b := 1290) (s := 12) (c := 6) (by omega) (by omega) (by decide)]; rfl
theorem of_7 {T : FS} {p : Nat} (h : p < 40) : q_X12_of T (nI p) 7 = some (T.2 55 (12 * p + 1297)) := by
  unfold q_X12_of
  rw [show ix 2071 (((1290 : Int32) + (12 : Int32) * nI p) + (7 : Int32)) = some (12 * p + 1297) from ix_lin (b := 1290) (s := 12) (c := 7) (by omega) (by omega) (by decide)]; rfl
theorem writes_7 {T : FS} {p : Nat} {x : Int32} (h : p < 40) : f_X12_writes T (nI p) 7 x = some (0, wA T 55 (12 * p + 1297) x) := by
  unfold f_X12_writes
  rw [show ix 2071 (((1290 : Int32) + (12 : Int32) * nI p) + (7 : Int32)) = some (12 * p + 1297) from ix_lin (b := 1290) (s := 12) (c := 7) (by omega) (by omega) (by decide)]; rfl
theorem of_8 {T : FS} {p : Nat} (h : p < 40) : q_X12_of T (nI p) 8 = some (T.2 55 (12 * p + 1298)) := by
  unfold q_X12_of
  rw [show ix 2071 (((1290 : Int32) + (12 : Int32) * nI p) + (8 : Int32)) = some (12 * p + 1298) from ix_lin (b := 1290) (s := 12) (c := 8) (by omega) (by omega) (by decide)]; rfl
theorem writes_8 {T : FS} {p : Nat} {x : Int32} (h : p < 40) : f_X12_writes T (nI p) 8 x = some (0, wA T 55 (12 * p + 1298) x) := by
  unfold f_X12_writes
  rw [show ix 2071 (((1290 : Int32) + (12 : Int32) * nI p) + (8 : Int32)) = some (12 * p + 1298) from ix_lin (b := 1290) (s := 12) (c := 8) (by omega) (by omega) (by decide)]; rfl
theorem of_9 {T : FS} {p : Nat} (h : p < 40) : q_X12_of T (nI p) 9 = some (T.2 55 (12 * p + 1299)) := by
  unfold q_X12_of
  rw [show ix 2071 (((1290 : Int32) + (12 : Int32) * nI p) + (9 : Int32)) = some (12 * p + 1299) from ix_lin (b := 1290) (s := 12) (c := 9) (by omega) (by omega) (by decide)]; rfl
theorem writes_9 {T : FS} {p : Nat} {x : Int32} (h : p < 40) : f_X12_writes T (nI p) 9 x = some (0, wA T 55 (12 * p + 1299) x) := by
  unfold f_X12_writes
  rw [show ix 2071 (((1290 : Int32) + (12 : Int32) * nI p) + (9 : Int32)) = some (12 * p + 1299) from ix_lin (b := 1290) (s := 12) (c := 9) (by omega) (by omega) (by decide)]; rfl
theorem of_10 {T : FS} {p : Nat} (h : p < 40) : q_X12_of T (nI p) 10 = some (T.2 55 (12 * p + 1300)) := by
  unfold q_X12_of
  rw [show ix 2071 (((1290 : Int32) + (12 : Int32) * nI p) + (10 : Int32)) = some (12 * p + 1300) from ix_lin (b := 1290) (s := 12) (c := 10) (by omega) (by omega) (by decide)]; rfl
theorem writes_10 {T : FS} {p : Nat} {x : Int32} (h : p < 40) : f_X12_writes T (nI p) 10 x = some (0, wA T 55 (12 * p + 1300) x) := by
  unfold f_X12_writes
  rw [show ix 2071 (((1290 : Int32) + (12 : Int32) * nI p) + (10 : Int32)) = some (12 * p + 1300) from ix_lin (b := 1290) (s := 12) (c := 10) (by omega) (by omega) (by decide)]; rfl
theorem of_11 {T : FS} {p : Nat} (h : p < 40) : q_X12_of T (nI p) 11 = some (T.2 55 (12 * p + 1301)) := by
  unfold q_X12_of
  rw [show ix 2071 (((1290 : Int32) + (12 : Int32) * nI p) + (11 : Int32)) = some (12 * p + 1301) from ix_lin (b := 1290) (s := 12) (c := 11) (by omega) (by omega) (by decide)]; rfl
theorem writes_11 {T : FS} {p : Nat} {x : Int32} (h : p < 40) : f_X12_writes T (nI p) 11 x = some (0, wA T 55 (12 * p + 1301) x) := by
  unfold f_X12_writes
  rw [show ix 2071 (((1290 : Int32) + (12 : Int32) * nI p) + (11 : Int32)) = some (12 * p + 1301) from ix_lin (b := 1290) (s := 12) (c := 11) (by omega) (by omega) (by decide)]; rfl
theorem promised_0 {T : FS} {p : Nat} (h : p < 30) : q_X12_promised T (nI p) 0 = some (T.2 55 (6 * p + 1806)) := by
  unfold q_X12_promised
  rw [show ix 2071 (((1806 : Int32) + (6 : Int32) * nI p) + (0 : Int32)) = some (6 * p + 1806) from ix_lin (b := 1806) (s := 6) (c := 0) (by omega) (by omega) (by decide)]; rfl
theorem promised_1 {T : FS} {p : Nat} (h : p < 30) : q_X12_promised T (nI p) 1 = some (T.2 55 (6 * p + 1807)) := by
  unfold q_X12_promised
  rw [show ix 2071 (((1806 : Int32) + (6 : Int32) * nI p) + (1 : Int32)) = some (6 * p + 1807) from ix_lin (b := 1806) (s := 6) (c := 1) (by omega) (by omega) (by decide)]; rfl
theorem promised_2 {T : FS} {p : Nat} (h : p < 30) : q_X12_promised T (nI p) 2 = some (T.2 55 (6 * p + 1808)) := by
  unfold q_X12_promised
  rw [show ix 2071 (((1806 : Int32) + (6 : Int32) * nI p) + (2 : Int32)) = some (6 * p + 1808) from ix_lin (b := 1806) (s := 6) (c := 2) (by omega) (by omega) (by decide)]; rfl
theorem promised_3 {T : FS} {p : Nat} (h : p < 30) : q_X12_promised T (nI p) 3 = some (T.2 55 (6 * p + 1809)) := by
  unfold q_X12_promised
  rw [show ix 2071 (((1806 : Int32) + (6 : Int32) * nI p) + (3 : Int32)) = some (6 * p + 1809) from ix_lin (b := 1806) (s := 6) (c := 3) (by omega) (by omega) (by decide)]; rfl
theorem promised_4 {T : FS} {p : Nat} (h : p < 30) : q_X12_promised T (nI p) 4 = some (T.2 55 (6 * p + 1810)) := by
  unfold q_X12_promised
  rw [show ix 2071 (((1806 : Int32) + (6 : Int32) * nI p) + (4 : Int32)) = some (6 * p + 1810) from ix_lin (b := 1806) (s := 6) (c := 4) (by omega) (by omega) (by decide)]; rfl
theorem promised_5 {T : FS} {p : Nat} (h : p < 30) : q_X12_promised T (nI p) 5 = some (T.2 55 (6 * p + 1811)) := by
  unfold q_X12_promised
  rw [show ix 2071 (((1806 : Int32) + (6 : Int32) * nI p) + (5 : Int32)) = some (6 * p + 1811) from ix_lin (b := 1806) (s := 6) (c := 5) (by omega) (by omega) (by decide)]; rfl
theorem ixT_0 {p : Nat} (h : p < 10) : ix 2071 ((20 : Int32) + (3 : Int32) * nI p) = some (3 * p + 20) := ix_lin0 (b := 20) (s := 3) (by omega) (by omega) (by decide)
theorem ixT_1 {p : Nat} (h : p < 10) : ix 2071 (((20 : Int32) + (3 : Int32) * nI p) + (1 : Int32)) = some (3 * p + 21) := ix_lin (b := 20) (s := 3) (c := 1) (by omega) (by omega) (by decide)
theorem ixT_2 {p : Nat} (h : p < 10) : ix 2071 (((20 : Int32) + (3 : Int32) * nI p) + (2 : Int32)) = some (3 * p + 22) := ix_lin (b := 20) (s := 3) (c := 2) (by omega) (by omega) (by decide)
theorem ixL_0 {p : Nat} (h : p < 12) : ix 2071 ((510 : Int32) + (65 : Int32) * nI p) = some (65 * p + 510) := ix_lin0 (b := 510) (s := 65) (by omega) (by omega) (by decide)
theorem ixL_1 {p : Nat} (h : p < 12) : ix 2071 (((510 : Int32) + (65 : Int32) * nI p) + (1 : Int32)) = some (65 * p + 511) := ix_lin (b := 510) (s := 65) (c := 1) (by omega) (by omega) (by decide)
theorem ixL_2 {p : Nat} (h : p < 12) : ix 2071 (((510 : Int32) + (65 : Int32) * nI p) + (2 : Int32)) = some (65 * p + 512) := ix_lin (b := 510) (s := 65) (c := 2) (by omega) (by omega) (by decide)
theorem ixL_3 {p : Nat} (h : p < 12) : ix 2071 (((510 : Int32) + (65 : Int32) * nI p) + (3 : Int32)) = some (65 * p + 513) := ix_lin (b := 510) (s := 65) (c := 3) (by omega) (by omega) (by decide)
theorem ixL_4 {p : Nat} (h : p < 12) : ix 2071 (((510 : Int32) + (65 : Int32) * nI p) + (4 : Int32)) = some (65 * p + 514) := ix_lin (b := 510) (s := 65) (c := 4) (by omega) (by omega) (by decide)
theorem ixD_0 {p : Nat} (h : p < 6) : ix 2071 ((1770 : Int32) + (6 : Int32) * nI p) = some (6 * p + 1770) := ix_lin0 (b := 1770) (s := 6) (by omega) (by omega) (by decide)
theorem ixD_1 {p : Nat} (h : p < 6) : ix 2071 (((1770 : Int32) + (6 : Int32) * nI p) + (1 : Int32)) = some (6 * p + 1771) := ix_lin (b := 1770) (s := 6) (c := 1) (by omega) (by omega) (by decide)
theorem ixD_2 {p : Nat} (h : p < 6) : ix 2071 (((1770 : Int32) + (6 : Int32) * nI p) + (2 : Int32)) = some (6 * p + 1772) := ix_lin (b := 1770) (s := 6) (c := 2) (by omega) (by omega) (by decide)
theorem ixD_3 {p : Nat} (h : p < 6) : ix 2071 (((1770 : Int32) + (6 : Int32) * nI p) + (3 : Int32)) = some (6 * p + 1773) := ix_lin (b := 1770) (s := 6) (c := 3) (by omega) (by omega) (by decide)
theorem ixD_4 {p : Nat} (h : p < 6) : ix 2071 (((1770 : Int32) + (6 : Int32) * nI p) + (4 : Int32)) = some (6 * p + 1774) := ix_lin (b := 1770) (s := 6) (c := 4) (by omega) (by omega) (by decide)
theorem ixQ_0 {p : Nat} (h : p < 30) : ix 2071 ((1806 : Int32) + (6 : Int32) * nI p) = some (6 * p + 1806) := ix_lin0 (b := 1806) (s := 6) (by omega) (by omega) (by decide)
theorem ixQ_1 {p : Nat} (h : p < 30) : ix 2071 (((1806 : Int32) + (6 : Int32) * nI p) + (1 : Int32)) = some (6 * p + 1807) := ix_lin (b := 1806) (s := 6) (c := 1) (by omega) (by omega) (by decide)
theorem ixQ_2 {p : Nat} (h : p < 30) : ix 2071 (((1806 : Int32) + (6 : Int32) * nI p) + (2 : Int32)) = some (6 * p + 1808) := ix_lin (b := 1806) (s := 6) (c := 2) (by omega) (by omega) (by decide)
theorem ixQ_3 {p : Nat} (h : p < 30) : ix 2071 (((1806 : Int32) + (6 : Int32) * nI p) + (3 : Int32)) = some (6 * p + 1809) := ix_lin (b := 1806) (s := 6) (c := 3) (by omega) (by omega) (by decide)
theorem ixQ_4 {p : Nat} (h : p < 30) : ix 2071 (((1806 : Int32) + (6 : Int32) * nI p) + (4 : Int32)) = some (6 * p + 1810) := ix_lin (b := 1806) (s := 6) (c := 4) (by omega) (by omega) (by decide)
theorem ixQ_5 {p : Nat} (h : p < 30) : ix 2071 (((1806 : Int32) + (6 : Int32) * nI p) + (5 : Int32)) = some (6 * p + 1811) := ix_lin (b := 1806) (s := 6) (c := 5) (by omega) (by omega) (by decide)
theorem ixR_0 {p : Nat} (h : p < 20) : ix 2071 ((50 : Int32) + (3 : Int32) * nI p) = some (3 * p + 50) := ix_lin0 (b := 50) (s := 3) (by omega) (by omega) (by decide)
theorem ixR_1 {p : Nat} (h : p < 20) : ix 2071 (((50 : Int32) + (3 : Int32) * nI p) + (1 : Int32)) = some (3 * p + 51) := ix_lin (b := 50) (s := 3) (c := 1) (by omega) (by omega) (by decide)
theorem ixR_2 {p : Nat} (h : p < 20) : ix 2071 (((50 : Int32) + (3 : Int32) * nI p) + (2 : Int32)) = some (3 * p + 52) := ix_lin (b := 50) (s := 3) (c := 2) (by omega) (by omega) (by decide)
