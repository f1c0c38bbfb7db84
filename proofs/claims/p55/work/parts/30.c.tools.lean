section PML2
variable {M : pm_M} {G : pm_G} {B pc pc' : Nat} {loc : List (Option Value)} {st : List Value} {cs zs cnt : Nat} {σ : pm_S}
theorem pm_iaddN {a b c : Nat} (hG : pm_ok M G B) (hd : pm_dec M pc (.iadd, 1) pc') (h : a + b = c) (k : pm_wp M G B pc' loc (.int (nI c) :: st) cs zs cnt σ) : pm_wp M G B pc loc (.int (nI b) :: .int (nI a) :: st) cs zs cnt σ :=
  pm_iadd hG hd (by rw [nI_add, h]; exact k)
theorem pm_icmpN_gt {a b : Nat} {off : Int} {tgt : Nat} (hG : pm_ok M G B) (hd : pm_dec M pc (.if_icmp .gt off, 3) pc') (ht : pm_br pc off tgt) (ha : a < 2 ^ 31) (hb : b < 2 ^ 31) (kt : b < a → pm_wp M G B tgt loc st cs zs cnt σ) (kf : a ≤ b → pm_wp M G B pc' loc st cs zs cnt σ) : pm_wp M G B pc loc (.int (nI b) :: .int (nI a) :: st) cs zs cnt σ :=
  pm_icmp_gt hG hd ht (fun q => kt ((nI_ltI hb ha).mp q)) (fun q => kf (Nat.le_of_not_lt (fun e => q ((nI_ltI hb ha).mpr e))))
theorem pm_sldN {b L e : Nat} {xs : Nat → Int32} (hG : pm_ok M G B) (hs : pm_scr G B b L xs) (hd : pm_dec M pc (.iaload, 1) pc') (he : e < L) (hL : L ≤ 3072) (kk : pm_wp M G B pc' loc (.int (xs e) :: st) cs zs cnt σ) : pm_wp M G B pc loc (.int (nI e) :: .ref b :: st) cs zs cnt σ :=
  pm_sld hG hs hd (vp_in_nI he (by omega)) (by rw [nI_clamp (by omega)]; exact kk)
end PML2
