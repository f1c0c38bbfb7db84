section PML2
variable {M : pm_M} {G : pm_G} {B pc pc' : Nat} {loc : List (Option Value)} {st : List Value} {cs zs cnt : Nat} {σ : pm_S}
theorem pm_sldN {b L e : Nat} {xs : Nat → Int32} (hG : pm_ok M G B) (hs : pm_scr G B b L xs) (hd : pm_dec M pc (.iaload, 1) pc') (he : e < L) (hL : L ≤ 3072) (kk : pm_wp M G B pc' loc (.int (xs e) :: st) cs zs cnt σ) : pm_wp M G B pc loc (.int (nI e) :: .ref b :: st) cs zs cnt σ :=
  pm_sld hG hs hd (vp_in_nI he (by omega)) (by rw [nI_clamp (by omega)]; exact kk)
end PML2
