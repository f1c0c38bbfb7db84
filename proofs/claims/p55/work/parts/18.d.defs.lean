def p_X0_stands (S : FS) (za : Int32) : Int32 :=
  if (fG 18 30 5 S za 4) = 0 then (if (fG 18 30 5 S za 2) < (S.1 102) then (0) else (1)) else (0)
theorem pb_X0_stands {S : FS} {za : Int32} : p_X0_stands S za = 0 ∨ p_X0_stands S za = 1 := by
  unfold p_X0_stands
  try simp only [fv]
  repeat' split
  all_goals first | exact Or.inl rfl | exact Or.inr rfl | decide

def l_X0_addPromise_12 (za : Int32) (zb : Int32) (x1 : Int32) (k12 : FS → Int32 → Option (Int32 × FS)) : Nat → FS → Int32 → Option (Int32 × FS)
  | 0, _, _ => none
  | m12 + 1, S2, x2_6 => if x2_6 < x1 then (if (p_X0_stands S2 x2_6) = 0 then (l_X0_addPromise_12 za zb x1 k12 m12 S2 (x2_6 + 1)) else (if (fG 18 30 5 S2 x2_6 0) = za then (if (fG 18 30 5 S2 x2_6 1) = zb then (fl (fP 18 30 5 S2 x2_6 4 1) (fun S7 =>
       l_X0_addPromise_12 za zb x1 k12 m12 S7 (x2_6 + 1))) else (l_X0_addPromise_12 za zb x1 k12 m12 S2 (x2_6 + 1))) else (l_X0_addPromise_12 za zb x1 k12 m12 S2 (x2_6 + 1)))) else (k12 S2 x2_6)
def f_X0_addPromise (S : FS) (za : Int32) (zb : Int32) (zc : Int32) (zd : Int32) : Option (Int32 × FS) :=
  fv (S.1 18) (fun x1 =>
 l_X0_addPromise_12 za zb x1 (fun S8 x8_6 =>
 fb (fApp 18 30 5 S8 za) (fun r10 =>
 fl (fP 18 30 5 r10.2 r10.1 1 zb) (fun S11 =>
 fl (fP 18 30 5 S11 r10.1 2 zc) (fun S12 =>
 if zd = 0 then (fl (fP 18 30 5 S12 r10.1 3 0) (fun S14 =>
  fl (fP 18 30 5 S14 r10.1 4 0) (fun S15 =>
  some (r10.1, S15)))) else (fl (fP 18 30 5 S12 r10.1 3 1) (fun S16 =>
  fl (fP 18 30 5 S16 r10.1 4 0) (fun S17 =>
  some (r10.1, S17)))))))) FU S 0)

def l_X0_endAllOf_14 (za : Int32) (zb : Int32) (x1 : Int32) (k14 : FS → Int32 → Int32 → Option (Int32 × FS)) : Nat → FS → Int32 → Int32 → Option (Int32 × FS)
  | 0, _, _, _ => none
  | m14 + 1, S2, x2_3, x2_5 => if x2_5 < x1 then (if (p_X0_stands S2 x2_5) = 0 then (l_X0_endAllOf_14 za zb x1 k14 m14 S2 x2_3 (x2_5 + 1)) else (if (fG 18 30 5 S2 x2_5 0) = za then (fl (fP 18 30 5 S2 x2_5 4 zb) (fun S6 =>
      l_X0_endAllOf_14 za zb x1 k14 m14 S6 (x2_3 + 1) (x2_5 + 1))) else (l_X0_endAllOf_14 za zb x1 k14 m14 S2 x2_3 (x2_5 + 1)))) else (k14 S2 x2_3 x2_5)
def f_X0_endAllOf (S : FS) (za : Int32) (zb : Int32) : Option (Int32 × FS) :=
  fv (S.1 18) (fun x1 =>
 l_X0_endAllOf_14 za zb x1 (fun S7 x7_3 x7_5 =>
 some (x7_3, S7)) FU S 0 0)

def f_X0_breakAllOf (S : FS) (za : Int32) : Option (Int32 × FS) :=
  fb (f_X0_endAllOf S za 2) (fun r2 =>
 some (r2.1, r2.2))

def p_X7_knownTo (S : FS) (za : Int32) : Int32 :=
  fv (fG 6 20 14 S za 10) (fun x1 =>
 fv (fG 6 20 14 S za 4) (fun x2 =>
 if x2 < 0 then (x1) else (if (fG 6 20 14 S za 9) = 0 then (fv (fG 4 10 10 S 0 x2) (fun x5 =>
   if x5 < 1000 then (imax x1 ((S.1 102) - x5)) else (x1))) else (x1))))

def l_X2_inForce_14 (za : Int32) (zb : Int32) (zc : Int32) (S : FS) (k14 : Int32 → Option Int32) : Nat → Int32 → Option Int32
  | 0, _ => none
  | m14 + 1, x2_4 => if x2_4 < 0 then (k14  x2_4) else (fv (fG 10 12 6 S x2_4 3) (fun x4 =>
    if (fG 10 12 6 S x2_4 0) = za then (if zc < (fG 10 12 6 S x2_4 2) then (l_X2_inForce_14 za zb zc S k14 m14  (x2_4 + (-1))) else (if x4 < 0 then (if zb < (fG 10 12 6 S x2_4 1) then (l_X2_inForce_14 za zb zc S k14 m14  (x2_4 + (-1))) else (some x2_4)) else (if zc < x4 then (if zb < (fG 10 12 6 S x2_4 1) then (l_X2_inForce_14 za zb zc S k14 m14  (x2_4 + (-1))) else (some x2_4)) else (l_X2_inForce_14 za zb zc S k14 m14  (x2_4 + (-1)))))) else (l_X2_inForce_14 za zb zc S k14 m14  (x2_4 + (-1)))))
def q_X2_inForce (S : FS) (za : Int32) (zb : Int32) (zc : Int32) : Option Int32 :=
  fv ((S.1 10) - 1) (fun x1 =>
 l_X2_inForce_14 za zb zc S (fun  x11_4 =>
 some (-1)) FU  x1)

def l_X0_ruleInForce_13 (S : FS) (x1 : Int32) (k13 : Int32 → Option Int32) : Nat → Int32 → Option Int32
  | 0, _ => none
  | m13 + 1, x2_2 => if x2_2 < x1 then (if (fG 6 20 14 S x2_2 13) = 0 then (l_X0_ruleInForce_13 S x1 k13 m13  (x2_2 + 1)) else (fb (q_X2_inForce S 0 (S.1 102) (p_X7_knownTo S x2_2)) (fun x6 =>
     some x6))) else (k13  x2_2)
def q_X0_ruleInForce (S : FS) : Option Int32 :=
  fv (S.1 6) (fun x1 =>
 l_X0_ruleInForce_13 S x1 (fun  x7_2 =>
 some (-1)) FU  0)

def l_X7_isOfKind_13 (zb : Int32) (k13 : Int32 → Int32 → Option Int32) : Nat → Int32 → Int32 → Option Int32
  | 0, _, _ => none
  | m13 + 1, x2_3, x2_4 => if x2_4 < 6 then (if x2_3 < 0 then (k13  x2_3 x2_4) else (if x2_3 < 6 then (if x2_3 = zb then (some 1) else (fb (ix 6 x2_3) (fun j10 =>
       fv (pm_ab.getD j10 0) (fun x11 =>
       l_X7_isOfKind_13 zb k13 m13  x11 (x2_4 + 1))))) else (k13  x2_3 x2_4))) else (k13  x2_3 x2_4)
def q_X7_isOfKind (S : FS) (za : Int32) (zb : Int32) : Option Int32 :=
  fv (fG 8 20 6 S za 0) (fun x1 =>
 l_X7_isOfKind_13 zb (fun  x12_3 x12_4 =>
 some 0) FU  x1 0)

def f_X2_pop (S : FS) : Option (Int32 × FS) :=
  if (S.1 104) < 1 then (some (0, S)) else (if 60 < (S.1 104) then (some (0, S)) else (fl (wI S 104 ((S.1 104) - 1)) (fun S3 =>
   fb (ix 60 (S3.1 104)) (fun j4 =>
   some (S3.2 30 j4, S3)))))

def p_X2_joined (S : FS) (za : Int32) (zb : Int32) (zc : Int32) : Int32 :=
  if za = (-7) then (zb + zc) else if za = (-6) then (if zc < zb then (1) else (0)) else if za = (-5) then (if zb = zc then (1) else (0)) else if za = (-4) then (if zb < zc then (1) else (0)) else if za = (-3) then (if zb = 0 then (0) else (if zc = 0 then (0) else (1))) else if za = (-2) then (if zb = 0 then (if zc = 0 then (0) else (1)) else (1)) else (zb - zc)

def f_X2_push (S : FS) (za : Int32) : Option (Int32 × FS) :=
  if (S.1 104) < 0 then (some (0, S)) else (if (S.1 104) < 60 then (fb (ix 60 (S.1 104)) (fun j3 =>
   fl (wA S 30 j3 za) (fun S4 =>
   fl (wI S4 104 ((S4.1 104) + 1)) (fun S5 =>
   some (0, S5))))) else (some (0, S)))

def p_X11_yearsBetween (S : FS) (za : Int32) (zb : Int32) : Int32 :=
  (zb - za) / 360

def p_X2_placeNamed (S : FS) (za : Int32) : Int32 :=
  if za < 0 then (10) else (za)

def p_J6_bitCount_0f7a4 (S : FS) (za : Int32) : Int32 :=
  fv (za - (((za.toUInt32 >>> ((1 : Int32).toUInt32 &&& Int32.toUInt32 31)).toInt32) &&& 1431655765)) (fun x1 =>
 fv ((x1 &&& 858993459) + (((x1.toUInt32 >>> ((2 : Int32).toUInt32 &&& Int32.toUInt32 31)).toInt32) &&& 858993459)) (fun x2 =>
 fv ((x2 + ((x2.toUInt32 >>> ((4 : Int32).toUInt32 &&& Int32.toUInt32 31)).toInt32)) &&& 252645135) (fun x3 =>
 fv (x3 + ((x3.toUInt32 >>> ((8 : Int32).toUInt32 &&& Int32.toUInt32 31)).toInt32)) (fun x4 =>
 fv (x4 + ((x4.toUInt32 >>> ((16 : Int32).toUInt32 &&& Int32.toUInt32 31)).toInt32)) (fun x5 =>
 x5 &&& 63)))))

def q_X2_named (S : FS) (za : Int32) (zb : Int32) (zc : Int32) (zd : Int32) : Option Int32 :=
  if 6 < za then (if 9 < za then (if za = 0 then (some (p_X11_yearsBetween S (fG 6 20 14 S zb 1) zd)) else if za = 1 then (some (fG 6 20 14 S zb 0)) else if za = 2 then (fb (qRows 8 20 6 S 2 zb) (fun x7 =>
    some x7)) else if za = 3 then (some (fG 6 20 14 S zb 7)) else if za = 4 then (some (fG 6 20 14 S zb 8)) else if za = 5 then (some (p_X2_placeNamed S (fG 6 20 14 S zb 4))) else if za = 6 then (some (fG 6 20 14 S zb 11)) else if za = 7 then (some (p_J6_bitCount_0f7a4 S (fG 14 40 12 S zc 4))) else if za = 8 then (some (fG 14 40 12 S zc 1)) else if za = 9 then (some (fG 14 40 12 S zc 2)) else (some zd)) else (if zc < 0 then (some 0) else (if za = 0 then (some (p_X11_yearsBetween S (fG 6 20 14 S zb 1) zd)) else if za = 1 then (some (fG 6 20 14 S zb 0)) else if za = 2 then (fb (qRows 8 20 6 S 2 zb) (fun x20 =>
     some x20)) else if za = 3 then (some (fG 6 20 14 S zb 7)) else if za = 4 then (some (fG 6 20 14 S zb 8)) else if za = 5 then (some (p_X2_placeNamed S (fG 6 20 14 S zb 4))) else if za = 6 then (some (fG 6 20 14 S zb 11)) else if za = 7 then (some (p_J6_bitCount_0f7a4 S (fG 14 40 12 S zc 4))) else if za = 8 then (some (fG 14 40 12 S zc 1)) else if za = 9 then (some (fG 14 40 12 S zc 2)) else (some zd)))) else (if zb < 0 then (some 0) else (if za = 0 then (some (p_X11_yearsBetween S (fG 6 20 14 S zb 1) zd)) else if za = 1 then (some (fG 6 20 14 S zb 0)) else if za = 2 then (fb (qRows 8 20 6 S 2 zb) (fun x33 =>
    some x33)) else if za = 3 then (some (fG 6 20 14 S zb 7)) else if za = 4 then (some (fG 6 20 14 S zb 8)) else if za = 5 then (some (p_X2_placeNamed S (fG 6 20 14 S zb 4))) else if za = 6 then (some (fG 6 20 14 S zb 11)) else if za = 7 then (some (p_J6_bitCount_0f7a4 S (fG 14 40 12 S zc 4))) else if za = 8 then (some (fG 14 40 12 S zc 1)) else if za = 9 then (some (fG 14 40 12 S zc 2)) else (some zd)))

def l_X2_comesTo_22 (za : Int32) (zb : Int32) (zc : Int32) (zd : Int32) (x1 : Int32) (k22 : FS → Int32 → Option (Int32 × FS)) : Nat → FS → Int32 → Option (Int32 × FS)
  | 0, _, _ => none
  | m22 + 1, S3, x3_6 => if x3_6 < x1 then (fv (fG 12 12 60 S3 za x3_6) (fun x5 =>
    if x5 < 0 then (if (-20) < x5 then (if x5 = (-1) then (fb (f_X2_pop S3) (fun r16 =>
       if r16.1 = 0 then (fb (f_X2_push r16.2 1) (fun r21 =>
        l_X2_comesTo_22 za zb zc zd x1 k22 m22 r21.2 (x3_6 + 1))) else (fb (f_X2_push r16.2 0) (fun r19 =>
        l_X2_comesTo_22 za zb zc zd x1 k22 m22 r19.2 (x3_6 + 1))))) else (fb (f_X2_pop S3) (fun r10 =>
       fb (f_X2_pop r10.2) (fun r12 =>
       fb (f_X2_push r12.2 (p_X2_joined r12.2 x5 r12.1 r10.1)) (fun r14 =>
       l_X2_comesTo_22 za zb zc zd x1 k22 m22 r14.2 (x3_6 + 1)))))) else (fb (q_X2_named S3 ((-20) - x5) zb zc zd) (fun x23 =>
      fb (f_X2_push S3 x23) (fun r25 =>
      l_X2_comesTo_22 za zb zc zd x1 k22 m22 r25.2 (x3_6 + 1))))) else (fb (f_X2_push S3 x5) (fun r27 =>
     l_X2_comesTo_22 za zb zc zd x1 k22 m22 r27.2 (x3_6 + 1))))) else (k22 S3 x3_6)
def f_X2_comesTo (S : FS) (za : Int32) (zb : Int32) (zc : Int32) (zd : Int32) : Option (Int32 × FS) :=
  fv (fG 10 12 6 S za 4) (fun x1 =>
 fl (wI S 104 0) (fun S2 =>
 l_X2_comesTo_22 za zb zc zd x1 (fun S28 x28_6 =>
 fb (f_X2_pop S28) (fun r30 =>
 some (r30.1, r30.2))) FU S2 0))

def l_X0_weightOf_43 (za : Int32) (x2 : Int32) (k43 : FS → Int32 → Int32 → Option (Int32 × FS)) : Nat → FS → Int32 → Int32 → Option (Int32 × FS)
  | 0, _, _, _ => none
  | m43 + 1, S3, x3_3, x3_5 => if x3_5 < x2 then (if (fG 8 20 6 S3 x3_5 2) = za then (fb (q_X7_isOfKind S3 x3_5 1) (fun x7 =>
       if x7 = 0 then (l_X0_weightOf_43 za x2 k43 m43 S3 x3_3 (x3_5 + 1)) else (l_X0_weightOf_43 za x2 k43 m43 S3 (x3_3 + 1) (x3_5 + 1)))) else (l_X0_weightOf_43 za x2 k43 m43 S3 x3_3 (x3_5 + 1))) else (k43 S3 x3_3 x3_5)
def j_X0_weightOf_26 (za : Int32) (S1 : FS) : Option (Int32 × FS) :=
  fv (S1.1 8) (fun x2 =>
   l_X0_weightOf_43 za x2 (fun S9 x9_3 x9_5 =>
   some (x9_3, S9)) FU S1 1 0)
def f_X0_weightOf (S : FS) (za : Int32) (zb : Int32) : Option (Int32 × FS) :=
  if zb < 0 then (j_X0_weightOf_26 za S) else (fb (f_X2_comesTo S zb za (-1) (S.1 102)) (fun r12 =>
  if r12.1 = 0 then (some (0, r12.2)) else (j_X0_weightOf_26 za r12.2)))

def l_X0_isPromisedFor_11 (za : Int32) (zb : Int32) (S : FS) (x1 : Int32) (k11 : Int32 → Option Int32) : Nat → Int32 → Option Int32
  | 0, _ => none
  | m11 + 1, x2_4 => if x2_4 < x1 then (if (fG 18 30 5 S x2_4 0) = za then (if (fG 18 30 5 S x2_4 1) = zb then (if (fG 18 30 5 S x2_4 3) = 1 then (if (p_X0_stands S x2_4) = 0 then (l_X0_isPromisedFor_11 za zb S x1 k11 m11  (x2_4 + 1)) else (some 1)) else (l_X0_isPromisedFor_11 za zb S x1 k11 m11  (x2_4 + 1))) else (l_X0_isPromisedFor_11 za zb S x1 k11 m11  (x2_4 + 1))) else (l_X0_isPromisedFor_11 za zb S x1 k11 m11  (x2_4 + 1))) else (k11  x2_4)
def q_X0_isPromisedFor (S : FS) (za : Int32) (zb : Int32) : Option Int32 :=
  fv (S.1 18) (fun x1 =>
 l_X0_isPromisedFor_11 za zb S x1 (fun  x8_4 =>
 some 0) FU  0)

def f_X0_weighOne (S : FS) (za : Int32) (zb : Int32) (zc : Int32) : Option (Int32 × FS) :=
  fl (fP 32 20 1 S za 0 zc) (fun S1 =>
 fl (wI S1 108 ((S1.1 108) + zc)) (fun S2 =>
 fb (q_X0_isPromisedFor S2 za zb) (fun x4 =>
 if x4 = 0 then (fb (fApp 34 9 1 S2 za) (fun r7 =>
  some (0, r7.2))) else (fl (wI S2 107 ((S2.1 107) + zc)) (fun S8 =>
  some (0, S8))))))

def l_X0_weigh_36 (za : Int32) (x5 : Int32) (x6 : Int32) (k36 : FS → Int32 → Option (Int32 × FS)) : Nat → FS → Int32 → Option (Int32 × FS)
  | 0, _, _ => none
  | m36 + 1, S7, x7_4 => if x7_4 < x6 then (if (fG 6 20 14 S7 x7_4 13) = 0 then (l_X0_weigh_36 za x5 x6 k36 m36 S7 (x7_4 + 1)) else (fb (f_X0_weightOf S7 x7_4 x5) (fun r11 =>
     fb (f_X0_weighOne r11.2 x7_4 za r11.1) (fun r13 =>
     l_X0_weigh_36 za x5 x6 k36 m36 r13.2 (x7_4 + 1))))) else (k36 S7 x7_4)
def f_X0_weigh (S : FS) (za : Int32) : Option (Int32 × FS) :=
  fl (wI S 107 0) (fun S1 =>
 fl (wI S1 108 0) (fun S2 =>
 fl (wI S2 34 0) (fun S3 =>
 fb (q_X0_ruleInForce S3) (fun x5 =>
 fv (S3.1 6) (fun x6 =>
 l_X0_weigh_36 za x5 x6 (fun S14 x14_4 =>
 some (0, S14)) FU S3 0)))))

def p_X0_isCarriedWith (S : FS) (za : Int32) : Int32 :=
  if (S.1 108) < (2 * ((S.1 107) + za)) then (1) else (0)
theorem pb_X0_isCarriedWith {S : FS} {za : Int32} : p_X0_isCarriedWith S za = 0 ∨ p_X0_isCarriedWith S za = 1 := by
  unfold p_X0_isCarriedWith
  try simp only [fv]
  repeat' split
  all_goals first | exact Or.inl rfl | exact Or.inr rfl | decide

def f_X0_keepIfBetter (S : FS) (za : Int32) (zb : Int32) : Option (Int32 × FS) :=
  fv ((p_J6_bitCount_0f7a4 S za) - (p_J6_bitCount_0f7a4 S (S.1 110))) (fun x1 =>
 if x1 < 0 then (if zb < (S.1 109) then (fl (wI S 109 zb) (fun S4 =>
   fl (wI S4 110 za) (fun S5 =>
   some (0, S5)))) else (if zb = (S.1 109) then (fl (wI S 109 zb) (fun S7 =>
    fl (wI S7 110 za) (fun S8 =>
    some (0, S8)))) else (some (0, S)))) else (if x1 = 0 then (if za < (S.1 110) then (if zb < (S.1 109) then (fl (wI S 109 zb) (fun S20 =>
     fl (wI S20 110 za) (fun S21 =>
     some (0, S21)))) else (if zb = (S.1 109) then (fl (wI S 109 zb) (fun S23 =>
      fl (wI S23 110 za) (fun S24 =>
      some (0, S24)))) else (some (0, S)))) else (if zb < (S.1 109) then (fl (wI S 109 zb) (fun S16 =>
     fl (wI S16 110 za) (fun S17 =>
     some (0, S17)))) else (if zb = (S.1 109) then (some (0, S)) else (some (0, S))))) else (if zb < (S.1 109) then (fl (wI S 109 zb) (fun S11 =>
    fl (wI S11 110 za) (fun S12 =>
    some (0, S12)))) else (if zb = (S.1 109) then (some (0, S)) else (some (0, S))))))

def f_X0_choose_k9 (S : FS) (zb : Int32) (zc : Int32) (zd : Int32) : Option (Int32 × FS) :=
  if (S.1 109) < zc then (some (0, S)) else (if (p_X0_isCarriedWith S zd) = 0 then (some (0, S)) else (fb (f_X0_keepIfBetter S zb zc) (fun r4 =>
   some (0, r4.2))))

def f_X0_choose_k8 (S : FS) (zb : Int32) (zc : Int32) (zd : Int32) : Option (Int32 × FS) :=
  if (S.1 109) < zc then (some (0, S)) else (if (p_X0_isCarriedWith S zd) = 0 then (if (fHas 34 S 8) = 0 then (some (0, S)) else (fv (fG 34 9 1 S 8 0) (fun x4 =>
    fb (f_X0_choose_k9 S zb zc zd) (fun r6 =>
    fb (f_X0_choose_k9 r6.2 (zb ||| ((1 : Int32) <<< (x4 &&& 31))) (zc + (fG 6 20 14 r6.2 x4 12)) (zd + (fG 32 20 1 r6.2 x4 0))) (fun r8 =>
    some (0, r8.2)))))) else (fb (f_X0_keepIfBetter S zb zc) (fun r10 =>
   if (fHas 34 r10.2 8) = 0 then (some (0, r10.2)) else (fv (fG 34 9 1 r10.2 8 0) (fun x12 =>
    fb (f_X0_choose_k9 r10.2 zb zc zd) (fun r14 =>
    fb (f_X0_choose_k9 r14.2 (zb ||| ((1 : Int32) <<< (x12 &&& 31))) (zc + (fG 6 20 14 r14.2 x12 12)) (zd + (fG 32 20 1 r14.2 x12 0))) (fun r16 =>
    some (0, r16.2))))))))

def f_X0_choose_k7 (S : FS) (zb : Int32) (zc : Int32) (zd : Int32) : Option (Int32 × FS) :=
  if (S.1 109) < zc then (some (0, S)) else (if (p_X0_isCarriedWith S zd) = 0 then (if (fHas 34 S 7) = 0 then (some (0, S)) else (fv (fG 34 9 1 S 7 0) (fun x4 =>
    fb (f_X0_choose_k8 S zb zc zd) (fun r6 =>
    fb (f_X0_choose_k8 r6.2 (zb ||| ((1 : Int32) <<< (x4 &&& 31))) (zc + (fG 6 20 14 r6.2 x4 12)) (zd + (fG 32 20 1 r6.2 x4 0))) (fun r8 =>
    some (0, r8.2)))))) else (fb (f_X0_keepIfBetter S zb zc) (fun r10 =>
   if (fHas 34 r10.2 7) = 0 then (some (0, r10.2)) else (fv (fG 34 9 1 r10.2 7 0) (fun x12 =>
    fb (f_X0_choose_k8 r10.2 zb zc zd) (fun r14 =>
    fb (f_X0_choose_k8 r14.2 (zb ||| ((1 : Int32) <<< (x12 &&& 31))) (zc + (fG 6 20 14 r14.2 x12 12)) (zd + (fG 32 20 1 r14.2 x12 0))) (fun r16 =>
    some (0, r16.2))))))))

def f_X0_choose_k6 (S : FS) (zb : Int32) (zc : Int32) (zd : Int32) : Option (Int32 × FS) :=
  if (S.1 109) < zc then (some (0, S)) else (if (p_X0_isCarriedWith S zd) = 0 then (if (fHas 34 S 6) = 0 then (some (0, S)) else (fv (fG 34 9 1 S 6 0) (fun x4 =>
    fb (f_X0_choose_k7 S zb zc zd) (fun r6 =>
    fb (f_X0_choose_k7 r6.2 (zb ||| ((1 : Int32) <<< (x4 &&& 31))) (zc + (fG 6 20 14 r6.2 x4 12)) (zd + (fG 32 20 1 r6.2 x4 0))) (fun r8 =>
    some (0, r8.2)))))) else (fb (f_X0_keepIfBetter S zb zc) (fun r10 =>
   if (fHas 34 r10.2 6) = 0 then (some (0, r10.2)) else (fv (fG 34 9 1 r10.2 6 0) (fun x12 =>
    fb (f_X0_choose_k7 r10.2 zb zc zd) (fun r14 =>
    fb (f_X0_choose_k7 r14.2 (zb ||| ((1 : Int32) <<< (x12 &&& 31))) (zc + (fG 6 20 14 r14.2 x12 12)) (zd + (fG 32 20 1 r14.2 x12 0))) (fun r16 =>
    some (0, r16.2))))))))

def f_X0_choose_k5 (S : FS) (zb : Int32) (zc : Int32) (zd : Int32) : Option (Int32 × FS) :=
  if (S.1 109) < zc then (some (0, S)) else (if (p_X0_isCarriedWith S zd) = 0 then (if (fHas 34 S 5) = 0 then (some (0, S)) else (fv (fG 34 9 1 S 5 0) (fun x4 =>
    fb (f_X0_choose_k6 S zb zc zd) (fun r6 =>
    fb (f_X0_choose_k6 r6.2 (zb ||| ((1 : Int32) <<< (x4 &&& 31))) (zc + (fG 6 20 14 r6.2 x4 12)) (zd + (fG 32 20 1 r6.2 x4 0))) (fun r8 =>
    some (0, r8.2)))))) else (fb (f_X0_keepIfBetter S zb zc) (fun r10 =>
   if (fHas 34 r10.2 5) = 0 then (some (0, r10.2)) else (fv (fG 34 9 1 r10.2 5 0) (fun x12 =>
    fb (f_X0_choose_k6 r10.2 zb zc zd) (fun r14 =>
    fb (f_X0_choose_k6 r14.2 (zb ||| ((1 : Int32) <<< (x12 &&& 31))) (zc + (fG 6 20 14 r14.2 x12 12)) (zd + (fG 32 20 1 r14.2 x12 0))) (fun r16 =>
    some (0, r16.2))))))))

def f_X0_choose_k4 (S : FS) (zb : Int32) (zc : Int32) (zd : Int32) : Option (Int32 × FS) :=
  if (S.1 109) < zc then (some (0, S)) else (if (p_X0_isCarriedWith S zd) = 0 then (if (fHas 34 S 4) = 0 then (some (0, S)) else (fv (fG 34 9 1 S 4 0) (fun x4 =>
    fb (f_X0_choose_k5 S zb zc zd) (fun r6 =>
    fb (f_X0_choose_k5 r6.2 (zb ||| ((1 : Int32) <<< (x4 &&& 31))) (zc + (fG 6 20 14 r6.2 x4 12)) (zd + (fG 32 20 1 r6.2 x4 0))) (fun r8 =>
    some (0, r8.2)))))) else (fb (f_X0_keepIfBetter S zb zc) (fun r10 =>
   if (fHas 34 r10.2 4) = 0 then (some (0, r10.2)) else (fv (fG 34 9 1 r10.2 4 0) (fun x12 =>
    fb (f_X0_choose_k5 r10.2 zb zc zd) (fun r14 =>
    fb (f_X0_choose_k5 r14.2 (zb ||| ((1 : Int32) <<< (x12 &&& 31))) (zc + (fG 6 20 14 r14.2 x12 12)) (zd + (fG 32 20 1 r14.2 x12 0))) (fun r16 =>
    some (0, r16.2))))))))

def f_X0_choose_k3 (S : FS) (zb : Int32) (zc : Int32) (zd : Int32) : Option (Int32 × FS) :=
  if (S.1 109) < zc then (some (0, S)) else (if (p_X0_isCarriedWith S zd) = 0 then (if (fHas 34 S 3) = 0 then (some (0, S)) else (fv (fG 34 9 1 S 3 0) (fun x4 =>
    fb (f_X0_choose_k4 S zb zc zd) (fun r6 =>
    fb (f_X0_choose_k4 r6.2 (zb ||| ((1 : Int32) <<< (x4 &&& 31))) (zc + (fG 6 20 14 r6.2 x4 12)) (zd + (fG 32 20 1 r6.2 x4 0))) (fun r8 =>
    some (0, r8.2)))))) else (fb (f_X0_keepIfBetter S zb zc) (fun r10 =>
   if (fHas 34 r10.2 3) = 0 then (some (0, r10.2)) else (fv (fG 34 9 1 r10.2 3 0) (fun x12 =>
    fb (f_X0_choose_k4 r10.2 zb zc zd) (fun r14 =>
    fb (f_X0_choose_k4 r14.2 (zb ||| ((1 : Int32) <<< (x12 &&& 31))) (zc + (fG 6 20 14 r14.2 x12 12)) (zd + (fG 32 20 1 r14.2 x12 0))) (fun r16 =>
    some (0, r16.2))))))))

def f_X0_choose_k2 (S : FS) (zb : Int32) (zc : Int32) (zd : Int32) : Option (Int32 × FS) :=
  if (S.1 109) < zc then (some (0, S)) else (if (p_X0_isCarriedWith S zd) = 0 then (if (fHas 34 S 2) = 0 then (some (0, S)) else (fv (fG 34 9 1 S 2 0) (fun x4 =>
    fb (f_X0_choose_k3 S zb zc zd) (fun r6 =>
    fb (f_X0_choose_k3 r6.2 (zb ||| ((1 : Int32) <<< (x4 &&& 31))) (zc + (fG 6 20 14 r6.2 x4 12)) (zd + (fG 32 20 1 r6.2 x4 0))) (fun r8 =>
    some (0, r8.2)))))) else (fb (f_X0_keepIfBetter S zb zc) (fun r10 =>
   if (fHas 34 r10.2 2) = 0 then (some (0, r10.2)) else (fv (fG 34 9 1 r10.2 2 0) (fun x12 =>
    fb (f_X0_choose_k3 r10.2 zb zc zd) (fun r14 =>
    fb (f_X0_choose_k3 r14.2 (zb ||| ((1 : Int32) <<< (x12 &&& 31))) (zc + (fG 6 20 14 r14.2 x12 12)) (zd + (fG 32 20 1 r14.2 x12 0))) (fun r16 =>
    some (0, r16.2))))))))

def f_X0_choose_k1 (S : FS) (zb : Int32) (zc : Int32) (zd : Int32) : Option (Int32 × FS) :=
  if (S.1 109) < zc then (some (0, S)) else (if (p_X0_isCarriedWith S zd) = 0 then (if (fHas 34 S 1) = 0 then (some (0, S)) else (fv (fG 34 9 1 S 1 0) (fun x4 =>
    fb (f_X0_choose_k2 S zb zc zd) (fun r6 =>
    fb (f_X0_choose_k2 r6.2 (zb ||| ((1 : Int32) <<< (x4 &&& 31))) (zc + (fG 6 20 14 r6.2 x4 12)) (zd + (fG 32 20 1 r6.2 x4 0))) (fun r8 =>
    some (0, r8.2)))))) else (fb (f_X0_keepIfBetter S zb zc) (fun r10 =>
   if (fHas 34 r10.2 1) = 0 then (some (0, r10.2)) else (fv (fG 34 9 1 r10.2 1 0) (fun x12 =>
    fb (f_X0_choose_k2 r10.2 zb zc zd) (fun r14 =>
    fb (f_X0_choose_k2 r14.2 (zb ||| ((1 : Int32) <<< (x12 &&& 31))) (zc + (fG 6 20 14 r14.2 x12 12)) (zd + (fG 32 20 1 r14.2 x12 0))) (fun r16 =>
    some (0, r16.2))))))))

def f_X0_choose_k0 (S : FS) (zb : Int32) (zc : Int32) (zd : Int32) : Option (Int32 × FS) :=
  if (S.1 109) < zc then (some (0, S)) else (if (p_X0_isCarriedWith S zd) = 0 then (if (fHas 34 S 0) = 0 then (some (0, S)) else (fv (fG 34 9 1 S 0 0) (fun x4 =>
    fb (f_X0_choose_k1 S zb zc zd) (fun r6 =>
    fb (f_X0_choose_k1 r6.2 (zb ||| ((1 : Int32) <<< (x4 &&& 31))) (zc + (fG 6 20 14 r6.2 x4 12)) (zd + (fG 32 20 1 r6.2 x4 0))) (fun r8 =>
    some (0, r8.2)))))) else (fb (f_X0_keepIfBetter S zb zc) (fun r10 =>
   if (fHas 34 r10.2 0) = 0 then (some (0, r10.2)) else (fv (fG 34 9 1 r10.2 0 0) (fun x12 =>
    fb (f_X0_choose_k1 r10.2 zb zc zd) (fun r14 =>
    fb (f_X0_choose_k1 r14.2 (zb ||| ((1 : Int32) <<< (x12 &&& 31))) (zc + (fG 6 20 14 r14.2 x12 12)) (zd + (fG 32 20 1 r14.2 x12 0))) (fun r16 =>
    some (0, r16.2))))))))

def f_X0_findCheapest (S : FS) (za : Int32) : Option (Int32 × FS) :=
  fb (f_X0_weigh S za) (fun r2 =>
 fl (wI r2.2 109 1000000) (fun S3 =>
 fl (wI S3 110 0) (fun S4 =>
 fb (f_X0_choose_k0 S4 0 0 0) (fun r6 =>
 if (r6.2.1 109) < 1000000 then (some (1, r6.2)) else (some (0, r6.2))))))

def l_X0_firstBroken_10 (za : Int32) (S : FS) (x1 : Int32) (k10 : Int32 → Option Int32) : Nat → Int32 → Option Int32
  | 0, _ => none
  | m10 + 1, x2_3 => if x2_3 < x1 then (if (fG 18 30 5 S x2_3 4) = 2 then (if (fG 18 30 5 S x2_3 1) = za then (if (fG 18 30 5 S x2_3 3) = 1 then (some x2_3) else (l_X0_firstBroken_10 za S x1 k10 m10  (x2_3 + 1))) else (l_X0_firstBroken_10 za S x1 k10 m10  (x2_3 + 1))) else (l_X0_firstBroken_10 za S x1 k10 m10  (x2_3 + 1))) else (k10  x2_3)
def q_X0_firstBroken (S : FS) (za : Int32) : Option Int32 :=
  fv (S.1 18) (fun x1 =>
 l_X0_firstBroken_10 za S x1 (fun  x7_3 =>
 some (-1)) FU  0)

def f_X0_unseat (S : FS) (za : Int32) : Option (Int32 × FS) :=
  fl (fP 6 20 14 S za 13 0) (fun S1 =>
 fb (f_X0_endAllOf S1 za 1) (fun r3 =>
 some (0, r3.2)))

def f_X10_note (S : FS) (za : Int32) : Option (Int32 × FS) :=
  if (S.1 115) < 0 then (some (0, S)) else (if (S.1 115) < 40 then (fb (ix 40 (S.1 115)) (fun j3 =>
   fl (wA S 47 j3 za) (fun S4 =>
   fl (wI S4 115 ((S4.1 115) + 1)) (fun S5 =>
   some (0, S5))))) else (some (0, S)))

def f_X10_actOf_k0 (S : FS) (zb : Int32) : Option (Int32 × FS) :=
  fb (f_X10_note S 10) (fun r2 =>
 some (zb + (r2.2.1 118), r2.2))

def f_X10_actOf_k3 (S : FS) (zb : Int32) : Option (Int32 × FS) :=
  fb (f_X10_note S 20) (fun r2 =>
 fb (f_X10_actOf_k0 r2.2 zb) (fun r4 =>
 some (r4.1 + (r4.2.1 117), r4.2)))

def f_X10_actOf (S : FS) (za : Int32) (zb : Int32) : Option (Int32 × FS) :=
  if za = 1 then (fb (f_X10_note S 20) (fun r3 =>
  fb (f_X10_actOf_k0 r3.2 zb) (fun r5 =>
  some (r5.1 + (r5.2.1 117), r5.2)))) else if za = 2 then (fb (f_X10_note S 10) (fun r8 =>
  some (zb + (r8.2.1 118), r8.2))) else if za = 3 then (fb (f_X10_note S 20) (fun r11 =>
  fb (f_X10_actOf_k0 r11.2 zb) (fun r13 =>
  some (r13.1 + (r13.2.1 117), r13.2)))) else if za = 4 then (fb (f_X10_note S 50) (fun r16 =>
  fb (f_X10_actOf_k3 r16.2 (zb - (r16.2.1 118))) (fun r18 =>
  some (r18.1, r18.2)))) else (fb (f_X10_note S 10) (fun r20 =>
 some (zb + (r20.2.1 118), r20.2)))

def f_X10_begin (S : FS) (za : Int32) (zb : Int32) (zc : Int32) : Option (Int32 × FS) :=
  fl (wI S 115 0) (fun S1 =>
 fl (wI S1 116 za) (fun S2 =>
 fl (wI S2 117 zb) (fun S3 =>
 fl (wI S3 118 zc) (fun S4 =>
 some (0, S4)))))

def f_X10_bindOf_k1 (S : FS) (zb : Int32) : Option (Int32 × FS) :=
  fb (f_X10_note S 11) (fun r2 =>
 fb (f_X10_actOf r2.2 (r2.2.1 116) zb) (fun r4 =>
 some (r4.1 * 2, r4.2)))

def f_X10_bindOf_k0 (S : FS) (zb : Int32) : Option (Int32 × FS) :=
  fb (f_X10_note S 11) (fun r2 =>
 fb (f_X10_actOf r2.2 (r2.2.1 116) zb) (fun r4 =>
 some (r4.1 * 2, r4.2)))

def f_X10_bindOf (S : FS) (za : Int32) (zb : Int32) : Option (Int32 × FS) :=
  if za = 3 then (fb (f_X10_note S 40) (fun r3 =>
  fb (f_X10_bindOf_k1 r3.2 zb) (fun r5 =>
  fb (f_X10_actOf r5.2 (r5.2.1 116) zb) (fun r7 =>
  some (r5.1 - r7.1, r7.2))))) else if za = 4 then (fb (f_X10_note S 40) (fun r10 =>
  fb (f_X10_bindOf_k1 r10.2 zb) (fun r12 =>
  fb (f_X10_actOf r12.2 (r12.2.1 116) zb) (fun r14 =>
  some (r12.1 - r14.1, r14.2))))) else if za = 5 then (fb (f_X10_note S 60) (fun r17 =>
  fb (f_X10_bindOf_k0 r17.2 zb) (fun r19 =>
  some (r19.1 + (r19.2.1 118), r19.2)))) else (fb (f_X10_note S 11) (fun r21 =>
 fb (f_X10_actOf r21.2 (r21.2.1 116) zb) (fun r23 =>
 some (r23.1 * 2, r23.2))))

def q_X10_bodyAt (S : FS) (za : Int32) : Option Int32 :=
  if za < 0 then (some 0) else (if za < (S.1 115) then (if za < 40 then (fb (ix 40 za) (fun j4 =>
    some (S.2 47 j4))) else (some 0)) else (some 0))

def f_X10_rankOf_k0 (S : FS) (zb : Int32) : Option (Int32 × FS) :=
  fb (f_X10_note S 12) (fun r2 =>
 some (zb - (r2.2.1 117), r2.2))

def f_X10_rankOf (S : FS) (za : Int32) (zb : Int32) : Option (Int32 × FS) :=
  if za = 2 then (fb (f_X10_note S 30) (fun r5 =>
  fb (f_X10_rankOf_k0 r5.2 zb) (fun r7 =>
  some (r7.1 * 3, r7.2)))) else (fb (f_X10_note S 12) (fun r3 =>
  some (zb - (r3.2.1 117), r3.2)))

def f_X10_tellOf_k0 (S : FS) (zb : Int32) : Option (Int32 × FS) :=
  fb (f_X10_note S 13) (fun r2 =>
 fb (f_X10_bindOf r2.2 (r2.2.1 116) zb) (fun r4 =>
 fb (f_X10_rankOf r4.2 (r4.2.1 116) zb) (fun r6 =>
 some (r4.1 ^^^ r6.1, r6.2))))

def f_X10_tellOf_k3 (S : FS) (zb : Int32) : Option (Int32 × FS) :=
  fb (f_X10_note S 21) (fun r2 =>
 fb (f_X10_tellOf_k0 r2.2 (zb + 1)) (fun r4 =>
 some (r4.1, r4.2)))

def f_X10_tellOf (S : FS) (za : Int32) (zb : Int32) : Option (Int32 × FS) :=
  if za = 1 then (fb (f_X10_note S 21) (fun r3 =>
  fb (f_X10_tellOf_k0 r3.2 (zb + 1)) (fun r5 =>
  some (r5.1, r5.2)))) else if za = 2 then (fb (f_X10_note S 13) (fun r8 =>
  fb (f_X10_bindOf r8.2 (r8.2.1 116) zb) (fun r10 =>
  fb (f_X10_rankOf r10.2 (r10.2.1 116) zb) (fun r12 =>
  some (r10.1 ^^^ r12.1, r12.2))))) else if za = 3 then (fb (f_X10_note S 21) (fun r15 =>
  fb (f_X10_tellOf_k0 r15.2 (zb + 1)) (fun r17 =>
  some (r17.1, r17.2)))) else if za = 4 then (fb (f_X10_note S 51) (fun r20 =>
  fb (f_X10_rankOf r20.2 (r20.2.1 116) zb) (fun r22 =>
  fb (f_X10_tellOf_k3 r22.2 zb) (fun r24 =>
  some (r22.1 - r24.1, r24.2))))) else (fb (f_X10_note S 13) (fun r26 =>
 fb (f_X10_bindOf r26.2 (r26.2.1 116) zb) (fun r28 =>
 fb (f_X10_rankOf r28.2 (r28.2.1 116) zb) (fun r30 =>
 some (r28.1 ^^^ r30.1, r30.2)))))

def f_X10_speak (S : FS) (za : Int32) (zb : Int32) : Option (Int32 × FS) :=
  if za = 0 then (fb (f_X10_actOf S (S.1 116) zb) (fun r3 =>
  some (r3.1, r3.2))) else if za = 1 then (fb (f_X10_bindOf S (S.1 116) zb) (fun r6 =>
  some (r6.1, r6.2))) else if za = 2 then (fb (f_X10_rankOf S (S.1 116) zb) (fun r9 =>
  some (r9.1, r9.2))) else (fb (f_X10_tellOf S (S.1 116) zb) (fun r11 =>
 some (r11.1, r11.2)))

def f_X11_told (S : FS) (za : Int32) : Option (Int32 × FS) :=
  if (lg_cmp ((-1000000) - za.toInt64) 1) < 0 then (some (za, S)) else (if 0 < (lg_cmp ((-1000000) - za.toInt64) 5) then (some (za, S)) else (if (lg_cmp ((-1000000) - za.toInt64) 6) < 0 then (fb (ix 6 (((-1000000) - za.toInt64).toInt32)) (fun j4 =>
    fl (wA S 53 j4 ((S.2 53 j4) + 1)) (fun S5 =>
    some (za, S5)))) else (some (za, S))))

def f_X11_about (S : FS) (za : Int32) (zb : Int32) : Option (Int32 × FS) :=
  if (fHas 6 S za) = 0 then (fb (f_X11_told S (-1000001)) (fun r17 =>
  some (r17.1, r17.2))) else (if zb = 0 then (some (fG 6 20 14 S za 4, S)) else if zb = 1 then (some (fG 6 20 14 S za 7, S)) else if zb = 2 then (some (fG 6 20 14 S za 8, S)) else if zb = 3 then (some (p_X11_yearsBetween S (fG 6 20 14 S za 1) (S.1 102), S)) else if zb = 4 then (some (p_X7_knownTo S za, S)) else if zb = 5 then (fb (qRows 8 20 6 S 2 za) (fun x9 =>
   some (x9, S))) else if zb = 6 then (some (fG 6 20 14 S za 9, S)) else if zb = 7 then (some (fG 6 20 14 S za 13, S)) else if zb = 8 then (some (fG 6 20 14 S za 11, S)) else if zb = 9 then (some (fG 6 20 14 S za 12, S)) else (fb (f_X11_told S (-1000001)) (fun r15 =>
  some (r15.1, r15.2))))

def p_X2_namesDay (S : FS) (za : Int32) : Int32 :=
  if (fG 10 12 6 S za 5) = 0 then (0) else (1)
theorem pb_X2_namesDay {S : FS} {za : Int32} : p_X2_namesDay S za = 0 ∨ p_X2_namesDay S za = 1 := by
  unfold p_X2_namesDay
  try simp only [fv]
  repeat' split
  all_goals first | exact Or.inl rfl | exact Or.inr rfl | decide

def l_X2_nextBeginning_19 (za : Int32) (zb : Int32) (S : FS) (x1 : Int32) (k19 : Int32 → Int32 → Option Int32) : Nat → Int32 → Int32 → Option Int32
  | 0, _, _ => none
  | m19 + 1, x2_3, x2_5 => if x2_5 < x1 then (fv (fG 10 12 6 S x2_5 1) (fun x4 =>
    if zb < x4 then (if (fG 10 12 6 S x2_5 0) = za then (fv (imin x2_3 x4) (fun x7 =>
      l_X2_nextBeginning_19 za zb S x1 k19 m19  x7 (x2_5 + 1))) else (l_X2_nextBeginning_19 za zb S x1 k19 m19  x2_3 (x2_5 + 1))) else (l_X2_nextBeginning_19 za zb S x1 k19 m19  x2_3 (x2_5 + 1)))) else (k19  x2_3 x2_5)
def q_X2_nextBeginning (S : FS) (za : Int32) (zb : Int32) : Option Int32 :=
  fv (S.1 10) (fun x1 =>
 l_X2_nextBeginning_19 za zb S x1 (fun  x8_3 x8_5 =>
 some x8_3) FU  2001 0)

def l_X4_dayOfAge_49 (x2 : Int32) (k49 : FS → Int32 → Int32 → Int32 → Option (Int32 × FS)) : Nat → FS → Int32 → Int32 → Int32 → Option (Int32 × FS)
  | 0, _, _, _, _ => none
  | m49 + 1, S5, x5_2, x5_3, x5_4 => if 2000 < x5_4 then (k49 S5 x5_2 x5_3 x5_4) else (if x5_4 = x5_3 then (fb (q_X2_inForce S5 3 x5_4 (S5.1 102)) (fun x19 =>
      fb (q_X2_nextBeginning S5 3 x5_4) (fun x21 =>
      if x19 < 0 then (some (x5_4, S5)) else (fb (f_X2_comesTo S5 x19 0 (-1) x5_4) (fun r24 =>
       if r24.1 = 0 then (l_X4_dayOfAge_49 x2 k49 m49 r24.2 x19 x21 (x5_4 + 1)) else (some (x5_4, r24.2))))))) else (if ((x5_4 - x2) - (x5_4 - x2) / 360 * 360) = 0 then (if x5_2 < 0 then (some (x5_4, S5)) else (fb (f_X2_comesTo S5 x5_2 0 (-1) x5_4) (fun r11 =>
        if r11.1 = 0 then (l_X4_dayOfAge_49 x2 k49 m49 r11.2 x5_2 x5_3 (x5_4 + 1)) else (some (x5_4, r11.2))))) else (if (p_X2_namesDay S5 x5_2) = 0 then (l_X4_dayOfAge_49 x2 k49 m49 S5 x5_2 x5_3 (x5_4 + 1)) else (if x5_2 < 0 then (some (x5_4, S5)) else (fb (f_X2_comesTo S5 x5_2 0 (-1) x5_4) (fun r16 =>
         if r16.1 = 0 then (l_X4_dayOfAge_49 x2 k49 m49 r16.2 x5_2 x5_3 (x5_4 + 1)) else (some (x5_4, r16.2))))))))
def f_X4_dayOfAge (S : FS) : Option (Int32 × FS) :=
  if (fHas 6 S 0) = 0 then (some ((-1000002), S)) else (fv (fG 6 20 14 S 0 1) (fun x2 =>
  fv (S.1 102) (fun x3 =>
  fv (S.1 102) (fun x4 =>
  l_X4_dayOfAge_49 x2 (fun S26 x26_2 x26_3 x26_4 =>
  some ((-1000002), S26)) FU S (-1) x3 x4))))

def f_X2_ruling (S : FS) (za : Int32) (zb : Int32) (zc : Int32) (zd : Int32) (ze : Int32) : Option (Int32 × FS) :=
  fb (q_X2_inForce S za zb zc) (fun x2 =>
 if x2 < 0 then (some (1, S)) else (fb (f_X2_comesTo S x2 zd ze zb) (fun r5 =>
  some (r5.1, r5.2))))

def f_X4_fateOf (S : FS) (za : Int32) : Option (Int32 × FS) :=
  fb (f_X4_dayOfAge S) (fun r2 =>
 if r2.1 < 0 then (some ((-1000002), r2.2)) else (fv (fG 8 20 6 r2.2 za 2) (fun x4 =>
  fb (f_X2_ruling r2.2 4 r2.1 (r2.2.1 102) x4 (-1)) (fun r6 =>
  if r6.1 = 0 then (some (r6.1, r6.2)) else (if r6.1 = 1 then (some (r6.1, r6.2)) else (some (2, r6.2)))))))

def f_X11_after (S : FS) (za : Int32) : Option (Int32 × FS) :=
  if (fHas 8 S za) = 0 then (fb (f_X11_told S (-1000001)) (fun r3 =>
  some (r3.1, r3.2))) else (fb (f_X4_fateOf S za) (fun r5 =>
  fb (f_X11_told r5.2 r5.1) (fun r7 =>
  some (r7.1, r7.2))))

def f_X11_age (S : FS) : Option (Int32 × FS) :=
  fb (f_X4_dayOfAge S) (fun r2 =>
 fb (f_X11_told r2.2 r2.1) (fun r4 =>
 some (r4.1, r4.2)))

def f_X11_as (S : FS) (za : Int32) (zb : Int32) : Option (Int32 × FS) :=
  if (fHas 8 S za) = 0 then (fb (f_X11_told S (-1000001)) (fun r3 =>
  some (r3.1, r3.2))) else (if (fOut zb 0 5) = 0 then (fb (q_X7_isOfKind S za zb) (fun x6 =>
   if x6 = 0 then (fb (f_X11_told S (-1000005)) (fun r9 =>
    some (r9.1, r9.2))) else (fb (f_X11_told S (fG 8 20 6 S za 1)) (fun r11 =>
    some (r11.1, r11.2))))) else (fb (f_X11_told S (-1000001)) (fun r13 =>
   some (r13.1, r13.2))))

def f_X11_breaks (S : FS) (za : Int32) : Option (Int32 × FS) :=
  if (fHas 18 S za) = 0 then (fb (f_X11_told S (-1000001)) (fun r7 =>
  some (r7.1, r7.2))) else (if (p_X0_stands S za) = 0 then (fb (f_X11_told S (-1000003)) (fun r5 =>
   some (r5.1, r5.2))) else (fl (fP 18 30 5 S za 4 2) (fun S3 =>
   some (1, S3))))

def f_X11_buying (S : FS) (za : Int32) (zb : Int32) : Option (Int32 × FS) :=
  if (fOut za 0 5) = 0 then (if (fOut zb 0 1) = 0 then (fb (f_X0_findCheapest S za) (fun r6 =>
   if r6.1 = 0 then (fb (f_X11_told r6.2 (-1000002)) (fun r10 =>
    some (r10.1, r10.2))) else (if zb = 0 then (some (r6.2.1 109, r6.2)) else (some (r6.2.1 110, r6.2))))) else (fb (f_X11_told S (-1000001)) (fun r12 =>
   some (r12.1, r12.2)))) else (fb (f_X11_told S (-1000001)) (fun r3 =>
  some (r3.1, r3.2)))

def f_X11_cause (S : FS) (za : Int32) (zb : Int32) : Option (Int32 × FS) :=
  if (fOut za 0 5) = 0 then (if (fOut zb 0 3) = 0 then (if zb = 3 then (fb (q_X0_firstBroken S za) (fun x12 =>
    some (x12, S))) else (fb (f_X0_weigh S za) (fun r7 =>
    if zb = 0 then (some (r7.2.1 107, r7.2)) else if zb = 1 then (some (r7.2.1 108, r7.2)) else (if (p_X0_isCarriedWith r7.2 0) = 0 then (some (0, r7.2)) else (some (1, r7.2)))))) else (fb (f_X11_told S (-1000001)) (fun r14 =>
   some (r14.1, r14.2)))) else (fb (f_X11_told S (-1000001)) (fun r3 =>
  some (r3.1, r3.2)))

def p_X7_isCoinOf (S : FS) (za : Int32) (zb : Int32) : Int32 :=
  if (fHas 6 S za) = 0 then (if za = (S.1 6) then (if (S.1 103) = zb then (1) else (0)) else (0)) else (if (fG 6 20 14 S za 7) = zb then (1) else (0))
theorem pb_X7_isCoinOf {S : FS} {za : Int32} {zb : Int32} : p_X7_isCoinOf S za zb = 0 ∨ p_X7_isCoinOf S za zb = 1 := by
  unfold p_X7_isCoinOf
  try simp only [fv]
  repeat' split
  all_goals first | exact Or.inl rfl | exact Or.inr rfl | decide

def l_X11_check_15 (x1 : Int32) (k15 : FS → Int32 → Int32 → Option (Int32 × FS)) : Nat → FS → Int32 → Int32 → Option (Int32 × FS)
  | 0, _, _, _ => none
  | m15 + 1, S2, x2_2, x2_3 => if x2_3 < x1 then (if x2_2 = 0 then (if (p_X7_isCoinOf S2 x2_3 (fG 22 20 1 S2 x2_3 0)) = 0 then (fv (x2_3 + 1) (fun x6 =>
      l_X11_check_15 x1 k15 m15 S2 x6 (x2_3 + 1))) else (l_X11_check_15 x1 k15 m15 S2 x2_2 (x2_3 + 1))) else (k15 S2 x2_2 x2_3)) else (k15 S2 x2_2 x2_3)
def f_X11_check (S : FS) : Option (Int32 × FS) :=
  fv (S.1 22) (fun x1 =>
 l_X11_check_15 x1 (fun S7 x7_2 x7_3 =>
 fl (wI S7 22 0) (fun S8 =>
 some (x7_2, S8))) FU S 0 0)

def p_X7_isLent (S : FS) (za : Int32) : Int32 :=
  if (fG 8 20 6 S za 3) = (-1) then (0) else (1)
theorem pb_X7_isLent {S : FS} {za : Int32} : p_X7_isLent S za = 0 ∨ p_X7_isLent S za = 1 := by
  unfold p_X7_isLent
  try simp only [fv]
  repeat' split
  all_goals first | exact Or.inl rfl | exact Or.inr rfl | decide

def p_X7_whoHas (S : FS) (za : Int32) : Int32 :=
  if (p_X7_isLent S za) = 0 then (fG 8 20 6 S za 2) else (fG 8 20 6 S za 3)

def f_X7_setLent (S : FS) (za : Int32) (zb : Int32) (zc : Int32) : Option (Int32 × FS) :=
  fl (fP 8 20 6 S za 3 zb) (fun S1 =>
 fl (fP 8 20 6 S1 za 4 zc) (fun S2 =>
 some (0, S2)))

def f_X7_addPower (S : FS) (za : Int32) (zb : Int32) (zc : Int32) : Option (Int32 × FS) :=
  fb (fApp 8 20 6 S za) (fun r2 =>
 fl (fP 8 20 6 r2.2 r2.1 1 zc) (fun S3 =>
 fl (fP 8 20 6 S3 r2.1 2 zb) (fun S4 =>
 if za = 2 then (fl (fP 8 20 6 S4 r2.1 5 r2.1) (fun S9 =>
  fb (f_X7_setLent S9 r2.1 (-1) (-1)) (fun r11 =>
  some (r2.1, r11.2)))) else (fl (fP 8 20 6 S4 r2.1 5 (-1)) (fun S6 =>
  fb (f_X7_setLent S6 r2.1 (-1) (-1)) (fun r8 =>
  some (r2.1, r8.2)))))))

def f_X7_addCopy (S : FS) (za : Int32) : Option (Int32 × FS) :=
  fb (f_X7_addPower S 2 (p_X7_whoHas S za) 0) (fun r2 =>
 fl (fP 8 20 6 r2.2 r2.1 5 (fG 8 20 6 r2.2 za 5)) (fun S3 =>
 some (r2.1, S3)))

def f_X11_copy (S : FS) (za : Int32) : Option (Int32 × FS) :=
  if (fHas 8 S za) = 0 then (fb (f_X11_told S (-1000001)) (fun r18 =>
  some (r18.1, r18.2))) else (fb (q_X7_isOfKind S za 2) (fun x3 =>
  if x3 = 0 then (fb (f_X11_told S (-1000005)) (fun r16 =>
   some (r16.1, r16.2))) else (if (p_X7_whoHas S za) = (-1) then (fb (f_X11_told S (-1000003)) (fun r14 =>
    some (r14.1, r14.2))) else (if (fFull 8 20 S) = 0 then (fb (f_X7_addCopy S za) (fun r8 =>
     fb (f_X11_told r8.2 r8.1) (fun r10 =>
     some (r10.1, r10.2)))) else (fb (f_X11_told S (-1000004)) (fun r12 =>
     some (r12.1, r12.2)))))))

def p_X3_isSent (S : FS) (za : Int32) : Int32 :=
  if (fG 14 40 12 S za 6) = (-1) then (0) else (1)
theorem pb_X3_isSent {S : FS} {za : Int32} : p_X3_isSent S za = 0 ∨ p_X3_isSent S za = 1 := by
  unfold p_X3_isSent
  try simp only [fv]
  repeat' split
  all_goals first | exact Or.inl rfl | exact Or.inr rfl | decide

def l_X3_onTheirWay_12 (S : FS) (x1 : Int32) (k12 : Int32 → Int32 → Option Int32) : Nat → Int32 → Int32 → Option Int32
  | 0, _, _ => none
  | m12 + 1, x2_1, x2_3 => if x2_3 < x1 then (if (p_X3_isSent S x2_3) = 0 then (l_X3_onTheirWay_12 S x1 k12 m12  x2_1 (x2_3 + 1)) else (if (S.1 102) < (fG 14 40 12 S x2_3 8) then (l_X3_onTheirWay_12 S x1 k12 m12  (x2_1 + 1) (x2_3 + 1)) else (l_X3_onTheirWay_12 S x1 k12 m12  x2_1 (x2_3 + 1)))) else (k12  x2_1 x2_3)
def q_X3_onTheirWay (S : FS) : Option Int32 :=
  fv (S.1 14) (fun x1 =>
 l_X3_onTheirWay_12 S x1 (fun  x6_1 x6_3 =>
 some x6_1) FU  0 0)

def f_X11_count (S : FS) (za : Int32) : Option (Int32 × FS) :=
  if za = 0 then (some (S.1 2, S)) else if za = 1 then (some (S.1 101, S)) else if za = 2 then (some (S.1 6, S)) else if za = 3 then (some (S.1 8, S)) else if za = 4 then (some (S.1 10, S)) else if za = 5 then (some (S.1 14, S)) else if za = 6 then (some (S.1 16, S)) else if za = 7 then (some (S.1 18, S)) else if za = 8 then (some (S.1 102, S)) else if za = 9 then (some (S.1 103, S)) else if za = 10 then (some (S.1 24, S)) else if za = 11 then (fb (qRows 6 20 14 S 13 1) (fun x14 =>
  some (x14, S))) else if za = 12 then (some (S.1 115, S)) else if za = 13 then (some (S.1 22, S)) else if za = 14 then (fb (qSum 6 20 14 S 7) (fun x19 =>
  some (x19, S))) else if za = 15 then (fb (q_X3_onTheirWay S) (fun x22 =>
  some (x22, S))) else (fb (f_X11_told S (-1000001)) (fun r24 =>
 some (r24.1, r24.2)))

def l_X7_bringTravellers_10 (x1 : Int32) (k10 : FS → Int32 → Option (Int32 × FS)) : Nat → FS → Int32 → Option (Int32 × FS)
  | 0, _, _ => none
  | m10 + 1, S2, x2_2 => if x2_2 < x1 then (if (fG 6 20 14 S2 x2_2 4) < 0 then (if (S2.1 102) < (fG 6 20 14 S2 x2_2 6) then (l_X7_bringTravellers_10 x1 k10 m10 S2 (x2_2 + 1)) else (fl (fP 6 20 14 S2 x2_2 4 (fG 6 20 14 S2 x2_2 5)) (fun S6 =>
      l_X7_bringTravellers_10 x1 k10 m10 S6 (x2_2 + 1)))) else (l_X7_bringTravellers_10 x1 k10 m10 S2 (x2_2 + 1))) else (k10 S2 x2_2)
def f_X7_bringTravellers (S : FS) : Option (Int32 × FS) :=
  fv (S.1 6) (fun x1 =>
 l_X7_bringTravellers_10 x1 (fun S7 x7_2 =>
 some (0, S7)) FU S 0)

def l_X7_takeBackLent_10 (x1 : Int32) (k10 : FS → Int32 → Option (Int32 × FS)) : Nat → FS → Int32 → Option (Int32 × FS)
  | 0, _, _ => none
  | m10 + 1, S2, x2_2 => if x2_2 < x1 then (if (p_X7_isLent S2 x2_2) = 0 then (l_X7_takeBackLent_10 x1 k10 m10 S2 (x2_2 + 1)) else (if (fG 8 20 6 S2 x2_2 4) < (S2.1 102) then (fb (f_X7_setLent S2 x2_2 (-1) (-1)) (fun r7 =>
      l_X7_takeBackLent_10 x1 k10 m10 r7.2 (x2_2 + 1))) else (l_X7_takeBackLent_10 x1 k10 m10 S2 (x2_2 + 1)))) else (k10 S2 x2_2)
def f_X7_takeBackLent (S : FS) : Option (Int32 × FS) :=
  fv (S.1 8) (fun x1 =>
 l_X7_takeBackLent_10 x1 (fun S8 x8_2 =>
 some (0, S8)) FU S 0)

def p_X7_isLiving (S : FS) (za : Int32) : Int32 :=
  if (fHas 6 S za) = 0 then (0) else (if (fG 6 20 14 S za 9) = 0 then (1) else (0))
theorem pb_X7_isLiving {S : FS} {za : Int32} : p_X7_isLiving S za = 0 ∨ p_X7_isLiving S za = 1 := by
  unfold p_X7_isLiving
  try simp only [fv]
  repeat' split
  all_goals first | exact Or.inl rfl | exact Or.inr rfl | decide

def l_X7_collectRents_10 (x1 : Int32) (k10 : FS → Int32 → Option (Int32 × FS)) : Nat → FS → Int32 → Option (Int32 × FS)
  | 0, _, _ => none
  | m10 + 1, S2, x2_2 => if x2_2 < x1 then (fv (fG 2 10 3 S2 x2_2 0) (fun x4 =>
    fv (fG 2 10 3 S2 x2_2 1) (fun x5 =>
    if (fG 2 10 3 S2 x2_2 2) = 0 then (if (p_X7_isLiving S2 x5) = 0 then (fl (wI S2 103 ((S2.1 103) + x4)) (fun S8 =>
      l_X7_collectRents_10 x1 k10 m10 S8 (x2_2 + 1))) else (fl (fP 6 20 14 S2 x5 7 (fG 6 20 14 S2 x5 7 + x4)) (fun S9 =>
      l_X7_collectRents_10 x1 k10 m10 S9 (x2_2 + 1)))) else (l_X7_collectRents_10 x1 k10 m10 S2 (x2_2 + 1))))) else (k10 S2 x2_2)
def f_X7_collectRents (S : FS) : Option (Int32 × FS) :=
  fv (S.1 2) (fun x1 =>
 l_X7_collectRents_10 x1 (fun S10 x10_2 =>
 some (0, S10)) FU S 0)

def l_X7_payMen_10 (x1 : Int32) (k10 : FS → Int32 → Option (Int32 × FS)) : Nat → FS → Int32 → Option (Int32 × FS)
  | 0, _, _ => none
  | m10 + 1, S2, x2_2 => if x2_2 < x1 then (fv (imin (fG 6 20 14 S2 x2_2 8) (fG 6 20 14 S2 x2_2 7)) (fun x4 =>
    fl (fP 6 20 14 S2 x2_2 7 (fG 6 20 14 S2 x2_2 7 + (-x4))) (fun S5 =>
    fl (fP 6 20 14 S5 x2_2 8 x4) (fun S6 =>
    l_X7_payMen_10 x1 k10 m10 S6 (x2_2 + 1))))) else (k10 S2 x2_2)
def f_X7_payMen (S : FS) : Option (Int32 × FS) :=
  fv (S.1 6) (fun x1 =>
 l_X7_payMen_10 x1 (fun S7 x7_2 =>
 some (0, S7)) FU S 0)

def f_X7_missOnce (S : FS) (za : Int32) : Option (Int32 × FS) :=
  fl (fP 16 6 5 S za 4 (fG 16 6 5 S za 4 + 1)) (fun S1 =>
 if (fG 16 6 5 S1 za 4) < 2 then (some (0, S1)) else (fl (fP 2 10 3 S1 (fG 16 6 5 S1 za 3) 2 1) (fun S3 =>
  some (0, S3))))

def l_X7_serveDebts_10 (x1 : Int32) (k10 : FS → Int32 → Option (Int32 × FS)) : Nat → FS → Int32 → Option (Int32 × FS)
  | 0, _, _ => none
  | m10 + 1, S2, x2_2 => if x2_2 < x1 then (fv (fG 16 6 5 S2 x2_2 0) (fun x4 =>
    fv (imin 999999 (x4 + ((x4 * (fG 16 6 5 S2 x2_2 1)) / 100))) (fun x5 =>
    fv (imin x5 (fG 16 6 5 S2 x2_2 2)) (fun x6 =>
    if (S2.1 103) < x6 then (fl (fP 16 6 5 S2 x2_2 0 x5) (fun S8 =>
     fb (f_X7_missOnce S8 x2_2) (fun r10 =>
     l_X7_serveDebts_10 x1 k10 m10 r10.2 (x2_2 + 1)))) else (fl (wI S2 103 ((S2.1 103) - x6)) (fun S11 =>
     fl (fP 16 6 5 S11 x2_2 0 (x5 - x6)) (fun S12 =>
     l_X7_serveDebts_10 x1 k10 m10 S12 (x2_2 + 1)))))))) else (k10 S2 x2_2)
def f_X7_serveDebts (S : FS) : Option (Int32 × FS) :=
  fv (S.1 16) (fun x1 =>
 l_X7_serveDebts_10 x1 (fun S13 x13_2 =>
 some (0, S13)) FU S 0)

def f_X7_endDay (S : FS) : Option (Int32 × FS) :=
  fl (wI S 102 ((S.1 102) + 1)) (fun S1 =>
 fb (f_X7_bringTravellers S1) (fun r3 =>
 fb (f_X7_takeBackLent r3.2) (fun r5 =>
 if ((r5.2.1 102) - (r5.2.1 102) / 90 * 90) = 0 then (fb (f_X7_collectRents r5.2) (fun r8 =>
  fb (f_X7_payMen r8.2) (fun r10 =>
  fb (f_X7_serveDebts r10.2) (fun r12 =>
  some (0, r12.2))))) else (some (0, r5.2)))))

def l_X11_days_35 (za : Int32) (k35 : FS → Int32 → Option (Int32 × FS)) : Nat → FS → Int32 → Option (Int32 × FS)
  | 0, _, _ => none
  | m35 + 1, S5, x5_2 => if x5_2 < za then (fb (f_X7_endDay S5) (fun r8 =>
      l_X11_days_35 za k35 m35 r8.2 (x5_2 + 1))) else (k35 S5 x5_2)
def f_X11_days (S : FS) (za : Int32) : Option (Int32 × FS) :=
  if (fOut za 1 400) = 0 then (if 2000 < ((S.1 102) + za) then (fb (f_X11_told S (-1000001)) (fun r11 =>
   some (r11.1, r11.2))) else (l_X11_days_35 za (fun S9 x9_2 =>
   some (S9.1 102, S9)) FU S 0)) else (fb (f_X11_told S (-1000001)) (fun r3 =>
  some (r3.1, r3.2)))

def f_X7_addDebt (S : FS) (za : Int32) (zb : Int32) (zc : Int32) (zd : Int32) : Option (Int32 × FS) :=
  fb (fApp 16 6 5 S za) (fun r2 =>
 fl (fP 16 6 5 r2.2 r2.1 1 zb) (fun S3 =>
 fl (fP 16 6 5 S3 r2.1 2 zc) (fun S4 =>
 fl (fP 16 6 5 S4 r2.1 3 zd) (fun S5 =>
 fl (wI S5 103 ((S5.1 103) + za)) (fun S6 =>
 some (r2.1, S6))))))

def f_X11_debt (S : FS) (za : Int32) (zb : Int32) (zc : Int32) : Option (Int32 × FS) :=
  fv (zb / 10000) (fun x1 =>
 fv (zb - zb / 10000 * 10000) (fun x2 =>
 if (fOut za 0 99999) = 0 then (if (fOut x1 0 99) = 0 then (if x2 < 1 then (fb (f_X11_told S (-1000001)) (fun r11 =>
    some (r11.1, r11.2))) else (if (fHas 2 S zc) = 0 then (fb (f_X11_told S (-1000001)) (fun r21 =>
     some (r21.1, r21.2))) else (if (fFull 16 6 S) = 0 then (fb (f_X7_addDebt S za x1 x2 zc) (fun r15 =>
      fb (f_X11_told r15.2 r15.1) (fun r17 =>
      some (r17.1, r17.2)))) else (fb (f_X11_told S (-1000004)) (fun r19 =>
      some (r19.1, r19.2)))))) else (fb (f_X11_told S (-1000001)) (fun r8 =>
   some (r8.1, r8.2)))) else (fb (f_X11_told S (-1000001)) (fun r5 =>
  some (r5.1, r5.2)))))

def f_X7_handOver (S : FS) (za : Int32) (zb : Int32) : Option (Int32 × FS) :=
  fb (f_X7_setLent S za (-1) (-1)) (fun r2 =>
 fl (fP 8 20 6 r2.2 za 2 zb) (fun S3 =>
 some (fG 8 20 6 r2.2 za 2, S3)))

def l_X7_bury_70 (za : Int32) (x7 : Int32) (k70 : FS → Int32 → Option (Int32 × FS)) : Nat → FS → Int32 → Option (Int32 × FS)
  | 0, _, _ => none
  | m70 + 1, S8, x8_4 => if x8_4 < x7 then (if (fG 8 20 6 S8 x8_4 2) = za then (fb (f_X7_handOver S8 x8_4 (-1)) (fun r15 =>
     l_X7_bury_70 za x7 k70 m70 r15.2 (x8_4 + 1))) else (if (fG 8 20 6 S8 x8_4 3) = za then (fb (f_X7_setLent S8 x8_4 (-1) (-1)) (fun r13 =>
      l_X7_bury_70 za x7 k70 m70 r13.2 (x8_4 + 1))) else (l_X7_bury_70 za x7 k70 m70 S8 (x8_4 + 1)))) else (k70 S8 x8_4)
def f_X7_bury (S : FS) (za : Int32) : Option (Int32 × FS) :=
  fl (fP 6 20 14 S za 7 0) (fun S1 =>
 fv (fG 6 20 14 S za 7) (fun x2 =>
 fl (wI S1 103 ((S1.1 103) + x2)) (fun S3 =>
 fl (fP 6 20 14 S3 za 8 0) (fun S4 =>
 fl (fP 6 20 14 S4 za 10 (p_X7_knownTo S4 za)) (fun S5 =>
 fl (fP 6 20 14 S5 za 9 1) (fun S6 =>
 fv (S6.1 8) (fun x7 =>
 l_X7_bury_70 za x7 (fun S16 x16_4 =>
 some (x2, S16)) FU S6 0)))))))

def f_X11_die (S : FS) (za : Int32) : Option (Int32 × FS) :=
  if (fHas 6 S za) = 0 then (fb (f_X11_told S (-1000001)) (fun r12 =>
  some (r12.1, r12.2))) else (if (p_X7_isLiving S za) = 0 then (fb (f_X11_told S (-1000003)) (fun r10 =>
   some (r10.1, r10.2))) else (fb (f_X0_unseat S za) (fun r4 =>
   fb (f_X7_bury r4.2 za) (fun r6 =>
   fb (f_X11_told r6.2 r6.1) (fun r8 =>
   some (r8.1, r8.2))))))

def p_X7_isInTown (S : FS) (za : Int32) : Int32 :=
  if (p_X7_isLiving S za) = 0 then (0) else (if (fG 6 20 14 S za 4) < 0 then (0) else (1))
theorem pb_X7_isInTown {S : FS} {za : Int32} : p_X7_isInTown S za = 0 ∨ p_X7_isInTown S za = 1 := by
  unfold p_X7_isInTown
  try simp only [fv]
  repeat' split
  all_goals first | exact Or.inl rfl | exact Or.inr rfl | decide | exact pb_X7_isLiving

def l_X7_livingIn_13 (za : Int32) (S : FS) (x1 : Int32) (k13 : Int32 → Int32 → Option Int32) : Nat → Int32 → Int32 → Option Int32
  | 0, _, _ => none
  | m13 + 1, x2_2, x2_4 => if x2_4 < x1 then (if (p_X7_isLiving S x2_4) = 0 then (l_X7_livingIn_13 za S x1 k13 m13  x2_2 (x2_4 + 1)) else (if (fG 6 20 14 S x2_4 4) = za then (fv (x2_2 ||| ((1 : Int32) <<< (x2_4 &&& 31))) (fun x6 =>
      l_X7_livingIn_13 za S x1 k13 m13  x6 (x2_4 + 1))) else (l_X7_livingIn_13 za S x1 k13 m13  x2_2 (x2_4 + 1)))) else (k13  x2_2 x2_4)
def q_X7_livingIn (S : FS) (za : Int32) : Option Int32 :=
  fv (S.1 6) (fun x1 =>
 l_X7_livingIn_13 za S x1 (fun  x7_2 x7_4 =>
 some x7_2) FU  0 0)

def f_X3_write (S : FS) (za : Int32) (zb : Int32) (zc : Int32) : Option (Int32 × FS) :=
  fv (fG 6 20 14 S za 4) (fun x1 =>
 fb (fApp 14 40 12 S za) (fun r3 =>
 fl (fP 14 40 12 r3.2 r3.1 1 zb) (fun S4 =>
 fl (fP 14 40 12 S4 r3.1 2 zc) (fun S5 =>
 fl (fP 14 40 12 S5 r3.1 3 x1) (fun S6 =>
 fb (q_X7_livingIn S6 x1) (fun x8 =>
 fl (fP 14 40 12 S6 r3.1 5 x8) (fun S9 =>
 fl (fP 14 40 12 S9 r3.1 6 (-1)) (fun S10 =>
 fl (fP 14 40 12 S10 r3.1 8 (-1)) (fun S11 =>
 fl (fP 14 40 12 S11 r3.1 9 (-1)) (fun S12 =>
 fl (fP 14 40 12 S12 r3.1 10 (-1)) (fun S13 =>
 some (r3.1, S13))))))))))))

def f_X11_draw (S : FS) (za : Int32) (zb : Int32) (zc : Int32) : Option (Int32 × FS) :=
  if (fHas 6 S za) = 0 then (fb (f_X11_told S (-1000001)) (fun r3 =>
  some (r3.1, r3.2))) else (if (fOut zb 0 4) = 0 then (if (fOut zc 0 999) = 0 then (if (p_X7_isInTown S za) = 0 then (fb (f_X11_told S (-1000003)) (fun r17 =>
     some (r17.1, r17.2))) else (if (fFull 14 40 S) = 0 then (fb (f_X3_write S za zb zc) (fun r11 =>
      fb (f_X11_told r11.2 r11.1) (fun r13 =>
      some (r13.1, r13.2)))) else (fb (f_X11_told S (-1000004)) (fun r15 =>
      some (r15.1, r15.2))))) else (fb (f_X11_told S (-1000001)) (fun r19 =>
    some (r19.1, r19.2)))) else (fb (f_X11_told S (-1000001)) (fun r6 =>
   some (r6.1, r6.2))))

def p_X7_wayBetween (S : FS) (za : Int32) (zb : Int32) : Int32 :=
  fv (fG 4 10 10 S za zb) (fun x1 =>
 if x1 < 1000 then (x1) else ((-1000002)))

def f_X11_far (S : FS) (za : Int32) (zb : Int32) : Option (Int32 × FS) :=
  if (fHas 2 S za) = 0 then (fb (f_X11_told S (-1000001)) (fun r3 =>
  some (r3.1, r3.2))) else (if (fHas 2 S zb) = 0 then (fb (f_X11_told S (-1000001)) (fun r8 =>
   some (r8.1, r8.2))) else (fb (f_X11_told S (p_X7_wayBetween S za zb)) (fun r6 =>
   some (r6.1, r6.2))))

def l_X11_feed_44 (za : Int64) (zb : Int32) (k44 : FS → Int32 → Option (Int32 × FS)) : Nat → FS → Int32 → Option (Int32 × FS)
  | 0, _, _ => none
  | m44 + 1, S3, x3_4 => if x3_4 < zb then (fb (fApp 24 60 1 S3 ((((za.toUInt64 >>> ((8 * x3_4 : Int32).toInt64.toUInt64 &&& Int64.toUInt64 63)).toInt64).toInt32) &&& 255)) (fun r6 =>
      l_X11_feed_44 za zb k44 m44 r6.2 (x3_4 + 1))) else (k44 S3 x3_4)
def f_X11_feed (S : FS) (za : Int64) (zb : Int32) : Option (Int32 × FS) :=
  if (fOut zb 1 8) = 0 then (if 60 < ((S.1 24) + zb) then (fb (f_X11_told S (-1000004)) (fun r9 =>
   some (r9.1, r9.2))) else (l_X11_feed_44 za zb (fun S7 x7_4 =>
   some (S7.1 24, S7)) FU S 0)) else (fb (f_X11_told S (-1000001)) (fun r11 =>
  some (r11.1, r11.2)))

def f_X11_force (S : FS) (za : Int32) (zb : Int32) (zc : Int32) : Option (Int32 × FS) :=
  if (fOut za 0 4) = 0 then (if (fOut zb 0 2000) = 0 then (if (fOut zc (-1) 2000) = 0 then (fb (q_X2_inForce S za zb zc) (fun x9 =>
    if x9 < 0 then (fb (f_X11_told S (-1000002)) (fun r14 =>
     some (r14.1, r14.2))) else (fb (f_X11_told S x9) (fun r12 =>
     some (r12.1, r12.2))))) else (fb (f_X11_told S (-1000001)) (fun r16 =>
    some (r16.1, r16.2)))) else (fb (f_X11_told S (-1000001)) (fun r6 =>
   some (r6.1, r6.2)))) else (fb (f_X11_told S (-1000001)) (fun r3 =>
  some (r3.1, r3.2)))

def f_X11_found (S : FS) (za : Int32) : Option (Int32 × FS) :=
  if za < 1 then (fb (f_X11_told S (-1000001)) (fun r3 =>
  some (r3.1, r3.2))) else (if 5 < za then (fb (f_X11_told S (-1000001)) (fun r6 =>
   some (r6.1, r6.2))) else (if za < 6 then (fb (ix 6 za) (fun j10 =>
    some (S.2 53 j10, S))) else (fb (f_X11_told S (-1000001)) (fun r9 =>
    some (r9.1, r9.2)))))

def p_X7_isLivingOrNobody (S : FS) (za : Int32) : Int32 :=
  if za = (-1) then (1) else (if (p_X7_isLiving S za) = 0 then (0) else (1))
theorem pb_X7_isLivingOrNobody {S : FS} {za : Int32} : p_X7_isLivingOrNobody S za = 0 ∨ p_X7_isLivingOrNobody S za = 1 := by
  unfold p_X7_isLivingOrNobody
  try simp only [fv]
  repeat' split
  all_goals first | exact Or.inl rfl | exact Or.inr rfl | decide | exact pb_X7_isLiving

def f_X11_give (S : FS) (za : Int32) (zb : Int32) : Option (Int32 × FS) :=
  if (fHas 8 S za) = 0 then (fb (f_X11_told S (-1000001)) (fun r3 =>
  some (r3.1, r3.2))) else (if (p_X7_isLivingOrNobody S zb) = 0 then (fb (f_X11_told S (-1000001)) (fun r13 =>
   some (r13.1, r13.2))) else (if (p_X7_isLent S za) = 0 then (fb (f_X7_handOver S za zb) (fun r7 =>
    fb (f_X11_told r7.2 r7.1) (fun r9 =>
    some (r9.1, r9.2)))) else (fb (f_X11_told S (-1000003)) (fun r11 =>
    some (r11.1, r11.2)))))

def f_X7_setOut (S : FS) (za : Int32) (zb : Int32) : Option (Int32 × FS) :=
  fv (p_X7_wayBetween S (fG 6 20 14 S za 4) zb) (fun x1 =>
 if x1 < 0 then (some ((-1000002), S)) else (if 0 < x1 then (fl (fP 6 20 14 S za 10 (p_X7_knownTo S za)) (fun S4 =>
   fl (fP 6 20 14 S4 za 4 (-1)) (fun S5 =>
   fl (fP 6 20 14 S5 za 5 zb) (fun S6 =>
   fl (fP 6 20 14 S6 za 6 ((S6.1 102) + x1)) (fun S7 =>
   some ((S7.1 102) + x1, S7)))))) else (some ((S.1 102) + x1, S))))

def f_X11_go (S : FS) (za : Int32) (zb : Int32) : Option (Int32 × FS) :=
  if (fHas 6 S za) = 0 then (fb (f_X11_told S (-1000001)) (fun r3 =>
  some (r3.1, r3.2))) else (if (fHas 2 S zb) = 0 then (fb (f_X11_told S (-1000001)) (fun r13 =>
   some (r13.1, r13.2))) else (if (p_X7_isInTown S za) = 0 then (fb (f_X11_told S (-1000003)) (fun r7 =>
    some (r7.1, r7.2))) else (fb (f_X7_setOut S za zb) (fun r9 =>
    fb (f_X11_told r9.2 r9.1) (fun r11 =>
    some (r11.1, r11.2))))))

def f_X11_guard (S : FS) (za : Int32) (zb : Int32) : Option (Int32 × FS) :=
  if (fOut za 0 4) = 0 then (if (fOut zb 0 6) = 0 then (fl (fP 20 5 1 S za 0 zb) (fun S5 =>
   some (fG 20 5 1 S za 0, S5))) else (fb (f_X11_told S (-1000001)) (fun r7 =>
   some (r7.1, r7.2)))) else (fb (f_X11_told S (-1000001)) (fun r3 =>
  some (r3.1, r3.2)))

def f_X4_isFollower (S : FS) (za : Int32) : Option (Int32 × FS) :=
  if (p_X7_isLiving S za) = 0 then (some (0, S)) else (if (fG 6 20 14 S za 11) = 99 then (some (0, S)) else (fb (f_X2_ruling S 2 (S.1 102) (S.1 102) za (-1)) (fun r4 =>
   if r4.1 = 0 then (some (0, r4.2)) else (some (1, r4.2)))))

def p_X4_isAhead (S : FS) (za : Int32) (zb : Int32) : Int32 :=
  fv ((fG 6 20 14 S za 11) - (fG 6 20 14 S zb 11)) (fun x1 =>
 fv ((fG 6 20 14 S za 1) - (fG 6 20 14 S zb 1)) (fun x2 =>
 if x1 < 0 then (1) else (if x1 = 0 then (if x2 < 0 then (1) else (0)) else (0))))
theorem pb_X4_isAhead {S : FS} {za : Int32} {zb : Int32} : p_X4_isAhead S za zb = 0 ∨ p_X4_isAhead S za zb = 1 := by
  unfold p_X4_isAhead
  try simp only [fv]
  repeat' split
  all_goals first | exact Or.inl rfl | exact Or.inr rfl | decide

def l_X4_enqueue_11 (za : Int32) (k11 : FS → Int32 → Option (Int32 × FS)) : Nat → FS → Int32 → Option (Int32 × FS)
  | 0, _, _ => none
  | m11 + 1, S3, x3_3 => if 0 < x3_3 then (if (p_X4_isAhead S3 za (fG 38 20 1 S3 (x3_3 - 1) 0)) = 0 then (k11 S3 x3_3) else (fl (fP 38 20 1 S3 x3_3 0 (fG 38 20 1 S3 (x3_3 - 1) 0)) (fun S6 =>
     fl (fP 38 20 1 S6 (x3_3 - 1) 0 za) (fun S7 =>
     l_X4_enqueue_11 za k11 m11 S7 (x3_3 + (-1)))))) else (k11 S3 x3_3)
def f_X4_enqueue (S : FS) (za : Int32) : Option (Int32 × FS) :=
  fb (fApp 38 20 1 S za) (fun r2 =>
 l_X4_enqueue_11 za (fun S8 x8_3 =>
 some (0, S8)) FU r2.2 r2.1)

def l_X4_follower_20 (x2 : Int32) (k20 : FS → Int32 → Option (Int32 × FS)) : Nat → FS → Int32 → Option (Int32 × FS)
  | 0, _, _ => none
  | m20 + 1, S3, x3_3 => if x3_3 < x2 then (if x3_3 = 0 then (l_X4_follower_20 x2 k20 m20 S3 (x3_3 + 1)) else (fb (f_X4_isFollower S3 x3_3) (fun r7 =>
     if r7.1 = 0 then (l_X4_follower_20 x2 k20 m20 r7.2 (x3_3 + 1)) else (fb (f_X4_enqueue r7.2 x3_3) (fun r10 =>
      l_X4_follower_20 x2 k20 m20 r10.2 (x3_3 + 1)))))) else (k20 S3 x3_3)
def f_X4_follower (S : FS) (za : Int32) : Option (Int32 × FS) :=
  fl (wI S 38 0) (fun S1 =>
 fv (S1.1 6) (fun x2 =>
 l_X4_follower_20 x2 (fun S11 x11_3 =>
 if (fHas 38 S11 za) = 0 then (some ((-1000002), S11)) else (some (fG 38 20 1 S11 za 0, S11))) FU S1 0))

def f_X11_heir (S : FS) (za : Int32) : Option (Int32 × FS) :=
  if za < 0 then (fb (f_X11_told S (-1000001)) (fun r7 =>
  some (r7.1, r7.2))) else (fb (f_X4_follower S za) (fun r3 =>
  fb (f_X11_told r3.2 r3.1) (fun r5 =>
  some (r5.1, r5.2))))

def f_X11_held (S : FS) (za : Int32) (zb : Int32) : Option (Int32 × FS) :=
  if (fHas 8 S za) = 0 then (fb (f_X11_told S (-1000001)) (fun r10 =>
  some (r10.1, r10.2))) else (if zb = 0 then (some (fG 8 20 6 S za 0, S)) else if zb = 1 then (some (fG 8 20 6 S za 2, S)) else if zb = 2 then (some (p_X7_whoHas S za, S)) else if zb = 3 then (some (fG 8 20 6 S za 5, S)) else if zb = 4 then (some (fG 8 20 6 S za 4, S)) else (fb (f_X11_told S (-1000001)) (fun r8 =>
  some (r8.1, r8.2))))

def p_X6_next (S : FS) : Int32 :=
  if (S.1 106) < 0 then (if (S.1 105) < (S.1 24) then (fG 24 60 1 S (S.1 105) 0) else ((-1))) else ((-1))

def p_X6_isDigit (S : FS) (za : Int32) : Int32 :=
  if za < 48 then (0) else (if 57 < za then (0) else (1))
theorem pb_X6_isDigit {S : FS} {za : Int32} : p_X6_isDigit S za = 0 ∨ p_X6_isDigit S za = 1 := by
  unfold p_X6_isDigit
  try simp only [fv]
  repeat' split
  all_goals first | exact Or.inl rfl | exact Or.inr rfl | decide

def f_X6_fail (S : FS) : Option (Int32 × FS) :=
  if (S.1 106) < 0 then (fl (wI S 106 (S.1 105)) (fun S2 =>
  some (0, S2))) else (some (0, S))

def l_X6_readNumber_4 (k4 : FS → Int32 → Int32 → Option (Int32 × FS)) : Nat → FS → Int32 → Int32 → Option (Int32 × FS)
  | 0, _, _, _ => none
  | m4 + 1, S1, x1_1, x1_2 => if x1_2 < 4 then (if (p_X6_isDigit S1 (p_X6_next S1)) = 0 then (k4 S1 x1_1 x1_2) else (fv (((x1_1 * 10) + (p_X6_next S1)) - 48) (fun x4 =>
     fl (wI S1 105 ((S1.1 105) + 1)) (fun S5 =>
     l_X6_readNumber_4 k4 m4 S5 x4 (x1_2 + 1))))) else (k4 S1 x1_1 x1_2)
def f_X6_readNumber (S : FS) : Option (Int32 × FS) :=
  l_X6_readNumber_4 (fun S6 x6_1 x6_2 =>
 fb (fApp 28 60 1 S6 x6_1) (fun r8 =>
 some (0, r8.2))) FU S 0 0

def f_X6_readPart_k5 (S : FS) : Option (Int32 × FS) :=
  fv (p_X6_next S) (fun x1 =>
 if x1 < 0 then (if (p_X6_isDigit S x1) = 0 then (if x1 = 33 then (if x1 = 40 then (fb (f_X6_fail S) (fun r35 =>
     some (0, r35.2))) else (fb (f_X6_fail S) (fun r33 =>
     some (0, r33.2)))) else (if x1 = 40 then (fb (f_X6_fail S) (fun r30 =>
     some (0, r30.2))) else (fb (f_X6_fail S) (fun r28 =>
     some (0, r28.2))))) else (fb (f_X6_readNumber S) (fun r37 =>
   some (0, r37.2)))) else (fb (fIdx ((x1.toUInt32 % 65536).toInt32)) (fun x5 =>
  if (p_X6_isDigit S x1) = 0 then (if x5 < 0 then (if x1 = 33 then (if x1 = 40 then (fb (f_X6_fail S) (fun r18 =>
      some (0, r18.2))) else (fb (f_X6_fail S) (fun r16 =>
      some (0, r16.2)))) else (if x1 = 40 then (fb (f_X6_fail S) (fun r13 =>
      some (0, r13.2))) else (fb (f_X6_fail S) (fun r11 =>
      some (0, r11.2))))) else (fl (wI S 105 ((S.1 105) + 1)) (fun S19 =>
    fb (fApp 28 60 1 S19 ((-20) - x5)) (fun r21 =>
    some (0, r21.2))))) else (fb (f_X6_readNumber S) (fun r23 =>
   some (0, r23.2))))))

def l_X6_readSum_k5_7 (k7 : FS → Int32 → Option (Int32 × FS)) : Nat → FS → Int32 → Option (Int32 × FS)
  | 0, _, _ => none
  | m7 + 1, S3, x3_2 => if x3_2 < 60 then (if (p_X6_next S3) = 43 then (fl (wI S3 105 ((S3.1 105) + 1)) (fun S6 =>
     fb (f_X6_readPart_k5 S6) (fun r8 =>
     fb (fApp 28 60 1 r8.2 (-7)) (fun r10 =>
     l_X6_readSum_k5_7 k7 m7 r10.2 (x3_2 + 1))))) else (if (p_X6_next S3) = 45 then (fl (wI S3 105 ((S3.1 105) + 1)) (fun S12 =>
      fb (f_X6_readPart_k5 S12) (fun r14 =>
      fb (fApp 28 60 1 r14.2 (-8)) (fun r16 =>
      l_X6_readSum_k5_7 k7 m7 r16.2 (x3_2 + 1))))) else (k7 S3 x3_2))) else (k7 S3 x3_2)
def f_X6_readSum_k5 (S : FS) : Option (Int32 × FS) :=
  fb (f_X6_readPart_k5 S) (fun r2 =>
 l_X6_readSum_k5_7 (fun S17 x17_2 =>
 some (0, S17)) FU r2.2 0)

def f_X6_readComparison_k5 (S : FS) : Option (Int32 × FS) :=
  fb (f_X6_readSum_k5 S) (fun r2 =>
 fv (p_X6_next r2.2) (fun x3 =>
 if x3 = 60 then (fl (wI r2.2 105 ((r2.2.1 105) + 1)) (fun S5 =>
  fb (f_X6_readSum_k5 S5) (fun r7 =>
  fb (fApp 28 60 1 r7.2 (-4)) (fun r9 =>
  some (0, r9.2))))) else (if x3 = 61 then (fl (wI r2.2 105 ((r2.2.1 105) + 1)) (fun S11 =>
   fb (f_X6_readSum_k5 S11) (fun r13 =>
   fb (fApp 28 60 1 r13.2 (-5)) (fun r15 =>
   some (0, r15.2))))) else (if x3 = 62 then (fl (wI r2.2 105 ((r2.2.1 105) + 1)) (fun S17 =>
    fb (f_X6_readSum_k5 S17) (fun r19 =>
    fb (fApp 28 60 1 r19.2 (-6)) (fun r21 =>
    some (0, r21.2))))) else (some (0, r2.2))))))

def l_X6_readConjunction_k5_7 (k7 : FS → Int32 → Option (Int32 × FS)) : Nat → FS → Int32 → Option (Int32 × FS)
  | 0, _, _ => none
  | m7 + 1, S3, x3_2 => if x3_2 < 60 then (if (p_X6_next S3) = 38 then (fl (wI S3 105 ((S3.1 105) + 1)) (fun S6 =>
     fb (f_X6_readComparison_k5 S6) (fun r8 =>
     fb (fApp 28 60 1 r8.2 (-3)) (fun r10 =>
     l_X6_readConjunction_k5_7 k7 m7 r10.2 (x3_2 + 1))))) else (k7 S3 x3_2)) else (k7 S3 x3_2)
def f_X6_readConjunction_k5 (S : FS) : Option (Int32 × FS) :=
  fb (f_X6_readComparison_k5 S) (fun r2 =>
 l_X6_readConjunction_k5_7 (fun S11 x11_2 =>
 some (0, S11)) FU r2.2 0)

def l_X6_readText_k5_7 (k7 : FS → Int32 → Option (Int32 × FS)) : Nat → FS → Int32 → Option (Int32 × FS)
  | 0, _, _ => none
  | m7 + 1, S3, x3_2 => if x3_2 < 60 then (if (p_X6_next S3) = 124 then (fl (wI S3 105 ((S3.1 105) + 1)) (fun S6 =>
     fb (f_X6_readConjunction_k5 S6) (fun r8 =>
     fb (fApp 28 60 1 r8.2 (-2)) (fun r10 =>
     l_X6_readText_k5_7 k7 m7 r10.2 (x3_2 + 1))))) else (k7 S3 x3_2)) else (k7 S3 x3_2)
def f_X6_readText_k5 (S : FS) : Option (Int32 × FS) :=
  fb (f_X6_readConjunction_k5 S) (fun r2 =>
 l_X6_readText_k5_7 (fun S11 x11_2 =>
 some (0, S11)) FU r2.2 0)

def f_X6_readClosing (S : FS) : Option (Int32 × FS) :=
  if (p_X6_next S) = 41 then (fl (wI S 105 ((S.1 105) + 1)) (fun S4 =>
  some (0, S4))) else (fb (f_X6_fail S) (fun r3 =>
  some (0, r3.2)))

def f_X6_readPart_k4 (S : FS) : Option (Int32 × FS) :=
  fv (p_X6_next S) (fun x1 =>
 if x1 < 0 then (if (p_X6_isDigit S x1) = 0 then (if x1 = 33 then (fl (wI S 105 ((S.1 105) + 1)) (fun S37 =>
    fb (f_X6_readPart_k5 S37) (fun r39 =>
    fb (fApp 28 60 1 r39.2 (-1)) (fun r41 =>
    some (0, r41.2))))) else (if x1 = 40 then (fl (wI S 105 ((S.1 105) + 1)) (fun S32 =>
     fb (f_X6_readText_k5 S32) (fun r34 =>
     fb (f_X6_readClosing r34.2) (fun r36 =>
     some (0, r36.2))))) else (fb (f_X6_fail S) (fun r31 =>
     some (0, r31.2))))) else (fb (f_X6_readNumber S) (fun r43 =>
   some (0, r43.2)))) else (fb (fIdx ((x1.toUInt32 % 65536).toInt32)) (fun x5 =>
  if (p_X6_isDigit S x1) = 0 then (if x5 < 0 then (if x1 = 33 then (fl (wI S 105 ((S.1 105) + 1)) (fun S17 =>
     fb (f_X6_readPart_k5 S17) (fun r19 =>
     fb (fApp 28 60 1 r19.2 (-1)) (fun r21 =>
     some (0, r21.2))))) else (if x1 = 40 then (fl (wI S 105 ((S.1 105) + 1)) (fun S12 =>
      fb (f_X6_readText_k5 S12) (fun r14 =>
      fb (f_X6_readClosing r14.2) (fun r16 =>
      some (0, r16.2))))) else (fb (f_X6_fail S) (fun r11 =>
      some (0, r11.2))))) else (fl (wI S 105 ((S.1 105) + 1)) (fun S22 =>
    fb (fApp 28 60 1 S22 ((-20) - x5)) (fun r24 =>
    some (0, r24.2))))) else (fb (f_X6_readNumber S) (fun r26 =>
   some (0, r26.2))))))

def l_X6_readSum_k4_7 (k7 : FS → Int32 → Option (Int32 × FS)) : Nat → FS → Int32 → Option (Int32 × FS)
  | 0, _, _ => none
  | m7 + 1, S3, x3_2 => if x3_2 < 60 then (if (p_X6_next S3) = 43 then (fl (wI S3 105 ((S3.1 105) + 1)) (fun S6 =>
     fb (f_X6_readPart_k4 S6) (fun r8 =>
     fb (fApp 28 60 1 r8.2 (-7)) (fun r10 =>
     l_X6_readSum_k4_7 k7 m7 r10.2 (x3_2 + 1))))) else (if (p_X6_next S3) = 45 then (fl (wI S3 105 ((S3.1 105) + 1)) (fun S12 =>
      fb (f_X6_readPart_k4 S12) (fun r14 =>
      fb (fApp 28 60 1 r14.2 (-8)) (fun r16 =>
      l_X6_readSum_k4_7 k7 m7 r16.2 (x3_2 + 1))))) else (k7 S3 x3_2))) else (k7 S3 x3_2)
def f_X6_readSum_k4 (S : FS) : Option (Int32 × FS) :=
  fb (f_X6_readPart_k4 S) (fun r2 =>
 l_X6_readSum_k4_7 (fun S17 x17_2 =>
 some (0, S17)) FU r2.2 0)

def f_X6_readComparison_k4 (S : FS) : Option (Int32 × FS) :=
  fb (f_X6_readSum_k4 S) (fun r2 =>
 fv (p_X6_next r2.2) (fun x3 =>
 if x3 = 60 then (fl (wI r2.2 105 ((r2.2.1 105) + 1)) (fun S5 =>
  fb (f_X6_readSum_k4 S5) (fun r7 =>
  fb (fApp 28 60 1 r7.2 (-4)) (fun r9 =>
  some (0, r9.2))))) else (if x3 = 61 then (fl (wI r2.2 105 ((r2.2.1 105) + 1)) (fun S11 =>
   fb (f_X6_readSum_k4 S11) (fun r13 =>
   fb (fApp 28 60 1 r13.2 (-5)) (fun r15 =>
   some (0, r15.2))))) else (if x3 = 62 then (fl (wI r2.2 105 ((r2.2.1 105) + 1)) (fun S17 =>
    fb (f_X6_readSum_k4 S17) (fun r19 =>
    fb (fApp 28 60 1 r19.2 (-6)) (fun r21 =>
    some (0, r21.2))))) else (some (0, r2.2))))))

def l_X6_readConjunction_k4_7 (k7 : FS → Int32 → Option (Int32 × FS)) : Nat → FS → Int32 → Option (Int32 × FS)
  | 0, _, _ => none
  | m7 + 1, S3, x3_2 => if x3_2 < 60 then (if (p_X6_next S3) = 38 then (fl (wI S3 105 ((S3.1 105) + 1)) (fun S6 =>
     fb (f_X6_readComparison_k4 S6) (fun r8 =>
     fb (fApp 28 60 1 r8.2 (-3)) (fun r10 =>
     l_X6_readConjunction_k4_7 k7 m7 r10.2 (x3_2 + 1))))) else (k7 S3 x3_2)) else (k7 S3 x3_2)
def f_X6_readConjunction_k4 (S : FS) : Option (Int32 × FS) :=
  fb (f_X6_readComparison_k4 S) (fun r2 =>
 l_X6_readConjunction_k4_7 (fun S11 x11_2 =>
 some (0, S11)) FU r2.2 0)

def l_X6_readText_k4_7 (k7 : FS → Int32 → Option (Int32 × FS)) : Nat → FS → Int32 → Option (Int32 × FS)
  | 0, _, _ => none
  | m7 + 1, S3, x3_2 => if x3_2 < 60 then (if (p_X6_next S3) = 124 then (fl (wI S3 105 ((S3.1 105) + 1)) (fun S6 =>
     fb (f_X6_readConjunction_k4 S6) (fun r8 =>
     fb (fApp 28 60 1 r8.2 (-2)) (fun r10 =>
     l_X6_readText_k4_7 k7 m7 r10.2 (x3_2 + 1))))) else (k7 S3 x3_2)) else (k7 S3 x3_2)
def f_X6_readText_k4 (S : FS) : Option (Int32 × FS) :=
  fb (f_X6_readConjunction_k4 S) (fun r2 =>
 l_X6_readText_k4_7 (fun S11 x11_2 =>
 some (0, S11)) FU r2.2 0)

def f_X6_readPart_k3 (S : FS) : Option (Int32 × FS) :=
  fv (p_X6_next S) (fun x1 =>
 if x1 < 0 then (if (p_X6_isDigit S x1) = 0 then (if x1 = 33 then (fl (wI S 105 ((S.1 105) + 1)) (fun S37 =>
    fb (f_X6_readPart_k4 S37) (fun r39 =>
    fb (fApp 28 60 1 r39.2 (-1)) (fun r41 =>
    some (0, r41.2))))) else (if x1 = 40 then (fl (wI S 105 ((S.1 105) + 1)) (fun S32 =>
     fb (f_X6_readText_k4 S32) (fun r34 =>
     fb (f_X6_readClosing r34.2) (fun r36 =>
     some (0, r36.2))))) else (fb (f_X6_fail S) (fun r31 =>
     some (0, r31.2))))) else (fb (f_X6_readNumber S) (fun r43 =>
   some (0, r43.2)))) else (fb (fIdx ((x1.toUInt32 % 65536).toInt32)) (fun x5 =>
  if (p_X6_isDigit S x1) = 0 then (if x5 < 0 then (if x1 = 33 then (fl (wI S 105 ((S.1 105) + 1)) (fun S17 =>
     fb (f_X6_readPart_k4 S17) (fun r19 =>
     fb (fApp 28 60 1 r19.2 (-1)) (fun r21 =>
     some (0, r21.2))))) else (if x1 = 40 then (fl (wI S 105 ((S.1 105) + 1)) (fun S12 =>
      fb (f_X6_readText_k4 S12) (fun r14 =>
      fb (f_X6_readClosing r14.2) (fun r16 =>
      some (0, r16.2))))) else (fb (f_X6_fail S) (fun r11 =>
      some (0, r11.2))))) else (fl (wI S 105 ((S.1 105) + 1)) (fun S22 =>
    fb (fApp 28 60 1 S22 ((-20) - x5)) (fun r24 =>
    some (0, r24.2))))) else (fb (f_X6_readNumber S) (fun r26 =>
   some (0, r26.2))))))

def l_X6_readSum_k3_7 (k7 : FS → Int32 → Option (Int32 × FS)) : Nat → FS → Int32 → Option (Int32 × FS)
  | 0, _, _ => none
  | m7 + 1, S3, x3_2 => if x3_2 < 60 then (if (p_X6_next S3) = 43 then (fl (wI S3 105 ((S3.1 105) + 1)) (fun S6 =>
     fb (f_X6_readPart_k3 S6) (fun r8 =>
     fb (fApp 28 60 1 r8.2 (-7)) (fun r10 =>
     l_X6_readSum_k3_7 k7 m7 r10.2 (x3_2 + 1))))) else (if (p_X6_next S3) = 45 then (fl (wI S3 105 ((S3.1 105) + 1)) (fun S12 =>
      fb (f_X6_readPart_k3 S12) (fun r14 =>
      fb (fApp 28 60 1 r14.2 (-8)) (fun r16 =>
      l_X6_readSum_k3_7 k7 m7 r16.2 (x3_2 + 1))))) else (k7 S3 x3_2))) else (k7 S3 x3_2)
def f_X6_readSum_k3 (S : FS) : Option (Int32 × FS) :=
  fb (f_X6_readPart_k3 S) (fun r2 =>
 l_X6_readSum_k3_7 (fun S17 x17_2 =>
 some (0, S17)) FU r2.2 0)

def f_X6_readComparison_k3 (S : FS) : Option (Int32 × FS) :=
  fb (f_X6_readSum_k3 S) (fun r2 =>
 fv (p_X6_next r2.2) (fun x3 =>
 if x3 = 60 then (fl (wI r2.2 105 ((r2.2.1 105) + 1)) (fun S5 =>
  fb (f_X6_readSum_k3 S5) (fun r7 =>
  fb (fApp 28 60 1 r7.2 (-4)) (fun r9 =>
  some (0, r9.2))))) else (if x3 = 61 then (fl (wI r2.2 105 ((r2.2.1 105) + 1)) (fun S11 =>
   fb (f_X6_readSum_k3 S11) (fun r13 =>
   fb (fApp 28 60 1 r13.2 (-5)) (fun r15 =>
   some (0, r15.2))))) else (if x3 = 62 then (fl (wI r2.2 105 ((r2.2.1 105) + 1)) (fun S17 =>
    fb (f_X6_readSum_k3 S17) (fun r19 =>
    fb (fApp 28 60 1 r19.2 (-6)) (fun r21 =>
    some (0, r21.2))))) else (some (0, r2.2))))))

def l_X6_readConjunction_k3_7 (k7 : FS → Int32 → Option (Int32 × FS)) : Nat → FS → Int32 → Option (Int32 × FS)
  | 0, _, _ => none
  | m7 + 1, S3, x3_2 => if x3_2 < 60 then (if (p_X6_next S3) = 38 then (fl (wI S3 105 ((S3.1 105) + 1)) (fun S6 =>
     fb (f_X6_readComparison_k3 S6) (fun r8 =>
     fb (fApp 28 60 1 r8.2 (-3)) (fun r10 =>
     l_X6_readConjunction_k3_7 k7 m7 r10.2 (x3_2 + 1))))) else (k7 S3 x3_2)) else (k7 S3 x3_2)
def f_X6_readConjunction_k3 (S : FS) : Option (Int32 × FS) :=
  fb (f_X6_readComparison_k3 S) (fun r2 =>
 l_X6_readConjunction_k3_7 (fun S11 x11_2 =>
 some (0, S11)) FU r2.2 0)

def l_X6_readText_k3_7 (k7 : FS → Int32 → Option (Int32 × FS)) : Nat → FS → Int32 → Option (Int32 × FS)
  | 0, _, _ => none
  | m7 + 1, S3, x3_2 => if x3_2 < 60 then (if (p_X6_next S3) = 124 then (fl (wI S3 105 ((S3.1 105) + 1)) (fun S6 =>
     fb (f_X6_readConjunction_k3 S6) (fun r8 =>
     fb (fApp 28 60 1 r8.2 (-2)) (fun r10 =>
     l_X6_readText_k3_7 k7 m7 r10.2 (x3_2 + 1))))) else (k7 S3 x3_2)) else (k7 S3 x3_2)
def f_X6_readText_k3 (S : FS) : Option (Int32 × FS) :=
  fb (f_X6_readConjunction_k3 S) (fun r2 =>
 l_X6_readText_k3_7 (fun S11 x11_2 =>
 some (0, S11)) FU r2.2 0)

def f_X6_readPart_k2 (S : FS) : Option (Int32 × FS) :=
  fv (p_X6_next S) (fun x1 =>
 if x1 < 0 then (if (p_X6_isDigit S x1) = 0 then (if x1 = 33 then (fl (wI S 105 ((S.1 105) + 1)) (fun S37 =>
    fb (f_X6_readPart_k3 S37) (fun r39 =>
    fb (fApp 28 60 1 r39.2 (-1)) (fun r41 =>
    some (0, r41.2))))) else (if x1 = 40 then (fl (wI S 105 ((S.1 105) + 1)) (fun S32 =>
     fb (f_X6_readText_k3 S32) (fun r34 =>
     fb (f_X6_readClosing r34.2) (fun r36 =>
     some (0, r36.2))))) else (fb (f_X6_fail S) (fun r31 =>
     some (0, r31.2))))) else (fb (f_X6_readNumber S) (fun r43 =>
   some (0, r43.2)))) else (fb (fIdx ((x1.toUInt32 % 65536).toInt32)) (fun x5 =>
  if (p_X6_isDigit S x1) = 0 then (if x5 < 0 then (if x1 = 33 then (fl (wI S 105 ((S.1 105) + 1)) (fun S17 =>
     fb (f_X6_readPart_k3 S17) (fun r19 =>
     fb (fApp 28 60 1 r19.2 (-1)) (fun r21 =>
     some (0, r21.2))))) else (if x1 = 40 then (fl (wI S 105 ((S.1 105) + 1)) (fun S12 =>
      fb (f_X6_readText_k3 S12) (fun r14 =>
      fb (f_X6_readClosing r14.2) (fun r16 =>
      some (0, r16.2))))) else (fb (f_X6_fail S) (fun r11 =>
      some (0, r11.2))))) else (fl (wI S 105 ((S.1 105) + 1)) (fun S22 =>
    fb (fApp 28 60 1 S22 ((-20) - x5)) (fun r24 =>
    some (0, r24.2))))) else (fb (f_X6_readNumber S) (fun r26 =>
   some (0, r26.2))))))

def l_X6_readSum_k2_7 (k7 : FS → Int32 → Option (Int32 × FS)) : Nat → FS → Int32 → Option (Int32 × FS)
  | 0, _, _ => none
  | m7 + 1, S3, x3_2 => if x3_2 < 60 then (if (p_X6_next S3) = 43 then (fl (wI S3 105 ((S3.1 105) + 1)) (fun S6 =>
     fb (f_X6_readPart_k2 S6) (fun r8 =>
     fb (fApp 28 60 1 r8.2 (-7)) (fun r10 =>
     l_X6_readSum_k2_7 k7 m7 r10.2 (x3_2 + 1))))) else (if (p_X6_next S3) = 45 then (fl (wI S3 105 ((S3.1 105) + 1)) (fun S12 =>
      fb (f_X6_readPart_k2 S12) (fun r14 =>
      fb (fApp 28 60 1 r14.2 (-8)) (fun r16 =>
      l_X6_readSum_k2_7 k7 m7 r16.2 (x3_2 + 1))))) else (k7 S3 x3_2))) else (k7 S3 x3_2)
def f_X6_readSum_k2 (S : FS) : Option (Int32 × FS) :=
  fb (f_X6_readPart_k2 S) (fun r2 =>
 l_X6_readSum_k2_7 (fun S17 x17_2 =>
 some (0, S17)) FU r2.2 0)

def f_X6_readComparison_k2 (S : FS) : Option (Int32 × FS) :=
  fb (f_X6_readSum_k2 S) (fun r2 =>
 fv (p_X6_next r2.2) (fun x3 =>
 if x3 = 60 then (fl (wI r2.2 105 ((r2.2.1 105) + 1)) (fun S5 =>
  fb (f_X6_readSum_k2 S5) (fun r7 =>
  fb (fApp 28 60 1 r7.2 (-4)) (fun r9 =>
  some (0, r9.2))))) else (if x3 = 61 then (fl (wI r2.2 105 ((r2.2.1 105) + 1)) (fun S11 =>
   fb (f_X6_readSum_k2 S11) (fun r13 =>
   fb (fApp 28 60 1 r13.2 (-5)) (fun r15 =>
   some (0, r15.2))))) else (if x3 = 62 then (fl (wI r2.2 105 ((r2.2.1 105) + 1)) (fun S17 =>
    fb (f_X6_readSum_k2 S17) (fun r19 =>
    fb (fApp 28 60 1 r19.2 (-6)) (fun r21 =>
    some (0, r21.2))))) else (some (0, r2.2))))))

def l_X6_readConjunction_k2_7 (k7 : FS → Int32 → Option (Int32 × FS)) : Nat → FS → Int32 → Option (Int32 × FS)
  | 0, _, _ => none
  | m7 + 1, S3, x3_2 => if x3_2 < 60 then (if (p_X6_next S3) = 38 then (fl (wI S3 105 ((S3.1 105) + 1)) (fun S6 =>
     fb (f_X6_readComparison_k2 S6) (fun r8 =>
     fb (fApp 28 60 1 r8.2 (-3)) (fun r10 =>
     l_X6_readConjunction_k2_7 k7 m7 r10.2 (x3_2 + 1))))) else (k7 S3 x3_2)) else (k7 S3 x3_2)
def f_X6_readConjunction_k2 (S : FS) : Option (Int32 × FS) :=
  fb (f_X6_readComparison_k2 S) (fun r2 =>
 l_X6_readConjunction_k2_7 (fun S11 x11_2 =>
 some (0, S11)) FU r2.2 0)

def l_X6_readText_k2_7 (k7 : FS → Int32 → Option (Int32 × FS)) : Nat → FS → Int32 → Option (Int32 × FS)
  | 0, _, _ => none
  | m7 + 1, S3, x3_2 => if x3_2 < 60 then (if (p_X6_next S3) = 124 then (fl (wI S3 105 ((S3.1 105) + 1)) (fun S6 =>
     fb (f_X6_readConjunction_k2 S6) (fun r8 =>
     fb (fApp 28 60 1 r8.2 (-2)) (fun r10 =>
     l_X6_readText_k2_7 k7 m7 r10.2 (x3_2 + 1))))) else (k7 S3 x3_2)) else (k7 S3 x3_2)
def f_X6_readText_k2 (S : FS) : Option (Int32 × FS) :=
  fb (f_X6_readConjunction_k2 S) (fun r2 =>
 l_X6_readText_k2_7 (fun S11 x11_2 =>
 some (0, S11)) FU r2.2 0)

def f_X6_readPart_k1 (S : FS) : Option (Int32 × FS) :=
  fv (p_X6_next S) (fun x1 =>
 if x1 < 0 then (if (p_X6_isDigit S x1) = 0 then (if x1 = 33 then (fl (wI S 105 ((S.1 105) + 1)) (fun S37 =>
    fb (f_X6_readPart_k2 S37) (fun r39 =>
    fb (fApp 28 60 1 r39.2 (-1)) (fun r41 =>
    some (0, r41.2))))) else (if x1 = 40 then (fl (wI S 105 ((S.1 105) + 1)) (fun S32 =>
     fb (f_X6_readText_k2 S32) (fun r34 =>
     fb (f_X6_readClosing r34.2) (fun r36 =>
     some (0, r36.2))))) else (fb (f_X6_fail S) (fun r31 =>
     some (0, r31.2))))) else (fb (f_X6_readNumber S) (fun r43 =>
   some (0, r43.2)))) else (fb (fIdx ((x1.toUInt32 % 65536).toInt32)) (fun x5 =>
  if (p_X6_isDigit S x1) = 0 then (if x5 < 0 then (if x1 = 33 then (fl (wI S 105 ((S.1 105) + 1)) (fun S17 =>
     fb (f_X6_readPart_k2 S17) (fun r19 =>
     fb (fApp 28 60 1 r19.2 (-1)) (fun r21 =>
     some (0, r21.2))))) else (if x1 = 40 then (fl (wI S 105 ((S.1 105) + 1)) (fun S12 =>
      fb (f_X6_readText_k2 S12) (fun r14 =>
      fb (f_X6_readClosing r14.2) (fun r16 =>
      some (0, r16.2))))) else (fb (f_X6_fail S) (fun r11 =>
      some (0, r11.2))))) else (fl (wI S 105 ((S.1 105) + 1)) (fun S22 =>
    fb (fApp 28 60 1 S22 ((-20) - x5)) (fun r24 =>
    some (0, r24.2))))) else (fb (f_X6_readNumber S) (fun r26 =>
   some (0, r26.2))))))

def l_X6_readSum_k1_7 (k7 : FS → Int32 → Option (Int32 × FS)) : Nat → FS → Int32 → Option (Int32 × FS)
  | 0, _, _ => none
  | m7 + 1, S3, x3_2 => if x3_2 < 60 then (if (p_X6_next S3) = 43 then (fl (wI S3 105 ((S3.1 105) + 1)) (fun S6 =>
     fb (f_X6_readPart_k1 S6) (fun r8 =>
     fb (fApp 28 60 1 r8.2 (-7)) (fun r10 =>
     l_X6_readSum_k1_7 k7 m7 r10.2 (x3_2 + 1))))) else (if (p_X6_next S3) = 45 then (fl (wI S3 105 ((S3.1 105) + 1)) (fun S12 =>
      fb (f_X6_readPart_k1 S12) (fun r14 =>
      fb (fApp 28 60 1 r14.2 (-8)) (fun r16 =>
      l_X6_readSum_k1_7 k7 m7 r16.2 (x3_2 + 1))))) else (k7 S3 x3_2))) else (k7 S3 x3_2)
def f_X6_readSum_k1 (S : FS) : Option (Int32 × FS) :=
  fb (f_X6_readPart_k1 S) (fun r2 =>
 l_X6_readSum_k1_7 (fun S17 x17_2 =>
 some (0, S17)) FU r2.2 0)

def f_X6_readComparison_k1 (S : FS) : Option (Int32 × FS) :=
  fb (f_X6_readSum_k1 S) (fun r2 =>
 fv (p_X6_next r2.2) (fun x3 =>
 if x3 = 60 then (fl (wI r2.2 105 ((r2.2.1 105) + 1)) (fun S5 =>
  fb (f_X6_readSum_k1 S5) (fun r7 =>
  fb (fApp 28 60 1 r7.2 (-4)) (fun r9 =>
  some (0, r9.2))))) else (if x3 = 61 then (fl (wI r2.2 105 ((r2.2.1 105) + 1)) (fun S11 =>
   fb (f_X6_readSum_k1 S11) (fun r13 =>
   fb (fApp 28 60 1 r13.2 (-5)) (fun r15 =>
   some (0, r15.2))))) else (if x3 = 62 then (fl (wI r2.2 105 ((r2.2.1 105) + 1)) (fun S17 =>
    fb (f_X6_readSum_k1 S17) (fun r19 =>
    fb (fApp 28 60 1 r19.2 (-6)) (fun r21 =>
    some (0, r21.2))))) else (some (0, r2.2))))))

def l_X6_readConjunction_k1_7 (k7 : FS → Int32 → Option (Int32 × FS)) : Nat → FS → Int32 → Option (Int32 × FS)
  | 0, _, _ => none
  | m7 + 1, S3, x3_2 => if x3_2 < 60 then (if (p_X6_next S3) = 38 then (fl (wI S3 105 ((S3.1 105) + 1)) (fun S6 =>
     fb (f_X6_readComparison_k1 S6) (fun r8 =>
     fb (fApp 28 60 1 r8.2 (-3)) (fun r10 =>
     l_X6_readConjunction_k1_7 k7 m7 r10.2 (x3_2 + 1))))) else (k7 S3 x3_2)) else (k7 S3 x3_2)
def f_X6_readConjunction_k1 (S : FS) : Option (Int32 × FS) :=
  fb (f_X6_readComparison_k1 S) (fun r2 =>
 l_X6_readConjunction_k1_7 (fun S11 x11_2 =>
 some (0, S11)) FU r2.2 0)

def l_X6_readText_k1_7 (k7 : FS → Int32 → Option (Int32 × FS)) : Nat → FS → Int32 → Option (Int32 × FS)
  | 0, _, _ => none
  | m7 + 1, S3, x3_2 => if x3_2 < 60 then (if (p_X6_next S3) = 124 then (fl (wI S3 105 ((S3.1 105) + 1)) (fun S6 =>
     fb (f_X6_readConjunction_k1 S6) (fun r8 =>
     fb (fApp 28 60 1 r8.2 (-2)) (fun r10 =>
     l_X6_readText_k1_7 k7 m7 r10.2 (x3_2 + 1))))) else (k7 S3 x3_2)) else (k7 S3 x3_2)
def f_X6_readText_k1 (S : FS) : Option (Int32 × FS) :=
  fb (f_X6_readConjunction_k1 S) (fun r2 =>
 l_X6_readText_k1_7 (fun S11 x11_2 =>
 some (0, S11)) FU r2.2 0)

def f_X6_readPart_k0 (S : FS) : Option (Int32 × FS) :=
  fv (p_X6_next S) (fun x1 =>
 if x1 < 0 then (if (p_X6_isDigit S x1) = 0 then (if x1 = 33 then (fl (wI S 105 ((S.1 105) + 1)) (fun S37 =>
    fb (f_X6_readPart_k1 S37) (fun r39 =>
    fb (fApp 28 60 1 r39.2 (-1)) (fun r41 =>
    some (0, r41.2))))) else (if x1 = 40 then (fl (wI S 105 ((S.1 105) + 1)) (fun S32 =>
     fb (f_X6_readText_k1 S32) (fun r34 =>
     fb (f_X6_readClosing r34.2) (fun r36 =>
     some (0, r36.2))))) else (fb (f_X6_fail S) (fun r31 =>
     some (0, r31.2))))) else (fb (f_X6_readNumber S) (fun r43 =>
   some (0, r43.2)))) else (fb (fIdx ((x1.toUInt32 % 65536).toInt32)) (fun x5 =>
  if (p_X6_isDigit S x1) = 0 then (if x5 < 0 then (if x1 = 33 then (fl (wI S 105 ((S.1 105) + 1)) (fun S17 =>
     fb (f_X6_readPart_k1 S17) (fun r19 =>
     fb (fApp 28 60 1 r19.2 (-1)) (fun r21 =>
     some (0, r21.2))))) else (if x1 = 40 then (fl (wI S 105 ((S.1 105) + 1)) (fun S12 =>
      fb (f_X6_readText_k1 S12) (fun r14 =>
      fb (f_X6_readClosing r14.2) (fun r16 =>
      some (0, r16.2))))) else (fb (f_X6_fail S) (fun r11 =>
      some (0, r11.2))))) else (fl (wI S 105 ((S.1 105) + 1)) (fun S22 =>
    fb (fApp 28 60 1 S22 ((-20) - x5)) (fun r24 =>
    some (0, r24.2))))) else (fb (f_X6_readNumber S) (fun r26 =>
   some (0, r26.2))))))

def l_X6_readSum_k0_7 (k7 : FS → Int32 → Option (Int32 × FS)) : Nat → FS → Int32 → Option (Int32 × FS)
  | 0, _, _ => none
  | m7 + 1, S3, x3_2 => if x3_2 < 60 then (if (p_X6_next S3) = 43 then (fl (wI S3 105 ((S3.1 105) + 1)) (fun S6 =>
     fb (f_X6_readPart_k0 S6) (fun r8 =>
     fb (fApp 28 60 1 r8.2 (-7)) (fun r10 =>
     l_X6_readSum_k0_7 k7 m7 r10.2 (x3_2 + 1))))) else (if (p_X6_next S3) = 45 then (fl (wI S3 105 ((S3.1 105) + 1)) (fun S12 =>
      fb (f_X6_readPart_k0 S12) (fun r14 =>
      fb (fApp 28 60 1 r14.2 (-8)) (fun r16 =>
      l_X6_readSum_k0_7 k7 m7 r16.2 (x3_2 + 1))))) else (k7 S3 x3_2))) else (k7 S3 x3_2)
def f_X6_readSum_k0 (S : FS) : Option (Int32 × FS) :=
  fb (f_X6_readPart_k0 S) (fun r2 =>
 l_X6_readSum_k0_7 (fun S17 x17_2 =>
 some (0, S17)) FU r2.2 0)

def f_X6_readComparison_k0 (S : FS) : Option (Int32 × FS) :=
  fb (f_X6_readSum_k0 S) (fun r2 =>
 fv (p_X6_next r2.2) (fun x3 =>
 if x3 = 60 then (fl (wI r2.2 105 ((r2.2.1 105) + 1)) (fun S5 =>
  fb (f_X6_readSum_k0 S5) (fun r7 =>
  fb (fApp 28 60 1 r7.2 (-4)) (fun r9 =>
  some (0, r9.2))))) else (if x3 = 61 then (fl (wI r2.2 105 ((r2.2.1 105) + 1)) (fun S11 =>
   fb (f_X6_readSum_k0 S11) (fun r13 =>
   fb (fApp 28 60 1 r13.2 (-5)) (fun r15 =>
   some (0, r15.2))))) else (if x3 = 62 then (fl (wI r2.2 105 ((r2.2.1 105) + 1)) (fun S17 =>
    fb (f_X6_readSum_k0 S17) (fun r19 =>
    fb (fApp 28 60 1 r19.2 (-6)) (fun r21 =>
    some (0, r21.2))))) else (some (0, r2.2))))))

def l_X6_readConjunction_k0_7 (k7 : FS → Int32 → Option (Int32 × FS)) : Nat → FS → Int32 → Option (Int32 × FS)
  | 0, _, _ => none
  | m7 + 1, S3, x3_2 => if x3_2 < 60 then (if (p_X6_next S3) = 38 then (fl (wI S3 105 ((S3.1 105) + 1)) (fun S6 =>
     fb (f_X6_readComparison_k0 S6) (fun r8 =>
     fb (fApp 28 60 1 r8.2 (-3)) (fun r10 =>
     l_X6_readConjunction_k0_7 k7 m7 r10.2 (x3_2 + 1))))) else (k7 S3 x3_2)) else (k7 S3 x3_2)
def f_X6_readConjunction_k0 (S : FS) : Option (Int32 × FS) :=
  fb (f_X6_readComparison_k0 S) (fun r2 =>
 l_X6_readConjunction_k0_7 (fun S11 x11_2 =>
 some (0, S11)) FU r2.2 0)

def l_X6_readText_k0_7 (k7 : FS → Int32 → Option (Int32 × FS)) : Nat → FS → Int32 → Option (Int32 × FS)
  | 0, _, _ => none
  | m7 + 1, S3, x3_2 => if x3_2 < 60 then (if (p_X6_next S3) = 124 then (fl (wI S3 105 ((S3.1 105) + 1)) (fun S6 =>
     fb (f_X6_readConjunction_k0 S6) (fun r8 =>
     fb (fApp 28 60 1 r8.2 (-2)) (fun r10 =>
     l_X6_readText_k0_7 k7 m7 r10.2 (x3_2 + 1))))) else (k7 S3 x3_2)) else (k7 S3 x3_2)
def f_X6_readText_k0 (S : FS) : Option (Int32 × FS) :=
  fb (f_X6_readConjunction_k0 S) (fun r2 =>
 l_X6_readText_k0_7 (fun S11 x11_2 =>
 some (0, S11)) FU r2.2 0)

def f_X6_readTape (S : FS) : Option (Int32 × FS) :=
  fl (wI S 28 0) (fun S1 =>
 fl (wI S1 105 0) (fun S2 =>
 fl (wI S2 106 (-1)) (fun S3 =>
 fb (f_X6_readText_k0 S3) (fun r5 =>
 if (r5.2.1 105) < (r5.2.1 24) then (fb (f_X6_fail r5.2) (fun r8 =>
  some (r8.2.1 106, r8.2))) else (some (r5.2.1 106, r5.2))))))

def l_X2_enact_118 (r6 : Int32 × FS) (x7 : Int32) (k118 : FS → Int32 → Option (Int32 × FS)) : Nat → FS → Int32 → Option (Int32 × FS)
  | 0, _, _ => none
  | m118 + 1, S12, x12_6 => if x12_6 < x7 then (fl (fP 12 12 60 S12 r6.1 x12_6 (fG 28 60 1 S12 x12_6 0)) (fun S14 =>
     l_X2_enact_118 r6 x7 k118 m118 S14 (x12_6 + 1))) else (k118 S12 x12_6)
def f_X2_enact (S : FS) (za : Int32) (zb : Int32) : Option (Int32 × FS) :=
  fb (f_X6_readTape S) (fun r2 =>
 fl (wI r2.2 24 0) (fun S3 =>
 if r2.1 < 0 then (fb (fApp 10 12 6 S3 za) (fun r6 =>
  fv (r6.2.1 28) (fun x7 =>
  fl (fP 10 12 6 r6.2 r6.1 1 zb) (fun S8 =>
  fl (fP 10 12 6 S8 r6.1 2 (S8.1 102)) (fun S9 =>
  fl (fP 10 12 6 S9 r6.1 3 (-1)) (fun S10 =>
  fl (fP 10 12 6 S10 r6.1 4 x7) (fun S11 =>
  l_X2_enact_118 r6 x7 (fun S15 x15_6 =>
  fb (qRows 28 60 1 S15 0 (-30)) (fun x17 =>
  fl (fP 10 12 6 S15 r6.1 5 x17) (fun S18 =>
  some (r6.1, S18)))) FU S11 0))))))) else (some ((-10) - r2.1, S3))))

def f_X11_law (S : FS) (za : Int32) (zb : Int32) : Option (Int32 × FS) :=
  if (fOut za 0 4) = 0 then (if (fOut zb 0 2000) = 0 then (if (fFull 10 12 S) = 0 then (fb (f_X2_enact S za zb) (fun r7 =>
    fb (f_X11_told r7.2 r7.1) (fun r9 =>
    some (r9.1, r9.2)))) else (fb (f_X11_told S (-1000004)) (fun r11 =>
    some (r11.1, r11.2)))) else (fb (f_X11_told S (-1000001)) (fun r13 =>
   some (r13.1, r13.2)))) else (fb (f_X11_told S (-1000001)) (fun r3 =>
  some (r3.1, r3.2)))

def f_X11_lend (S : FS) (za : Int32) (zb : Int32) (zc : Int32) : Option (Int32 × FS) :=
  if (fHas 8 S za) = 0 then (fb (f_X11_told S (-1000001)) (fun r3 =>
  some (r3.1, r3.2))) else (if (p_X7_isLiving S zb) = 0 then (fb (f_X11_told S (-1000001)) (fun r6 =>
   some (r6.1, r6.2))) else (if (fOut zc (S.1 102) 2000) = 0 then (fb (q_X7_isOfKind S za 2) (fun x9 =>
    if x9 = 0 then (fb (f_X11_told S (-1000005)) (fun r24 =>
     some (r24.1, r24.2))) else (fv (fG 8 20 6 S za 2) (fun x11 =>
     if x11 = (-1) then (fb (f_X11_told S (-1000003)) (fun r14 =>
      some (r14.1, r14.2))) else (if x11 = zb then (fb (f_X11_told S (-1000003)) (fun r17 =>
       some (r17.1, r17.2))) else (if (p_X7_isLent S za) = 0 then (fb (f_X7_setLent S za zb zc) (fun r20 =>
        some (1, r20.2))) else (fb (f_X11_told S (-1000003)) (fun r22 =>
        some (r22.1, r22.2))))))))) else (fb (f_X11_told S (-1000001)) (fun r26 =>
    some (r26.1, r26.2)))))

def f_X11_letter (S : FS) (za : Int32) (zb : Int32) : Option (Int32 × FS) :=
  if (fHas 14 S za) = 0 then (fb (f_X11_told S (-1000001)) (fun r15 =>
  some (r15.1, r15.2))) else (if zb = 0 then (some (fG 14 40 12 S za 0, S)) else if zb = 1 then (some (fG 14 40 12 S za 1, S)) else if zb = 2 then (some (fG 14 40 12 S za 2, S)) else if zb = 3 then (some (fG 14 40 12 S za 4, S)) else if zb = 4 then (some (fG 14 40 12 S za 6, S)) else if zb = 5 then (some (fG 14 40 12 S za 8, S)) else if zb = 6 then (some (fG 14 40 12 S za 9, S)) else if zb = 7 then (some (fG 14 40 12 S za 10, S)) else if zb = 8 then (some (fG 14 40 12 S za 11, S)) else if zb = 9 then (some (fG 14 40 12 S za 5, S)) else (fb (f_X11_told S (-1000001)) (fun r13 =>
  some (r13.1, r13.2))))

def f_X11_men (S : FS) (za : Int32) (zb : Int32) : Option (Int32 × FS) :=
  if (fHas 6 S za) = 0 then (fb (f_X11_told S (-1000001)) (fun r3 =>
  some (r3.1, r3.2))) else (if (fOut zb (-99) 99) = 0 then (if (p_X7_isLiving S za) = 0 then (fb (f_X11_told S (-1000003)) (fun r12 =>
    some (r12.1, r12.2))) else (fv ((fG 6 20 14 S za 8) + zb) (fun x6 =>
    if (fOut x6 0 999) = 0 then (fl (fP 6 20 14 S za 8 x6) (fun S8 =>
     some (x6, S8))) else (fb (f_X11_told S (-1000001)) (fun r10 =>
     some (r10.1, r10.2)))))) else (fb (f_X11_told S (-1000001)) (fun r14 =>
   some (r14.1, r14.2))))

def p_X8_has (S : FS) (za : Int32) : Int32 :=
  if za < 0 then (0) else (if za < 4 then (1) else (0))
theorem pb_X8_has {S : FS} {za : Int32} : p_X8_has S za = 0 ∨ p_X8_has S za = 1 := by
  unfold p_X8_has
  try simp only [fv]
  repeat' split
  all_goals first | exact Or.inl rfl | exact Or.inr rfl | decide

def q_X8_bitsOf (S : FS) (za : Int32) : Option Int32 :=
  if za < 0 then (some 0) else (if za < 4 then (fb (ix 4 za) (fun j3 =>
   some (S.2 49 j3))) else (some 0))

def q_X8_isMissing (S : FS) (za : Int32) : Option Int32 :=
  fb (q_X8_bitsOf S za) (fun x2 =>
 if x2 = 0 then (some 1) else (some 0))

def q_X8_sizeOf (S : FS) (za : Int32) : Option Int32 :=
  if za < 0 then (some 0) else (if za < 4 then (fb (ix 4 za) (fun j3 =>
   some (S.2 50 j3))) else (some 0))

def q_X8_stand (S : FS) (za : Int32) (zb : Int32) (zc : Int32) : Option Int32 :=
  if zb < 0 then (some 0) else (if zc < 0 then (some 0) else (fb (q_X8_sizeOf S za) (fun x4 =>
   if x4 < zc then (some 0) else (fb (q_X8_sizeOf S za) (fun x7 =>
    if (x7 - zc) < zb then (some 0) else (some 1))))))

def f_X8_transfer (S : FS) (za : Int32) (zb : Int32) (zc : Int32) (zd : Int32) (ze : Int32) : Option (Int32 × FS) :=
  fl (fTrans 51 4 24 S za zb zc zd ze) (fun S1 =>
 some (0, S1))

def f_X11_move (S : FS) (za : Int32) (zb : Int32) (zc : Int32) (zd : Int32) (ze : Int32) : Option (Int32 × FS) :=
  if (p_X8_has S za) = 0 then (fb (f_X11_told S (-1000001)) (fun r3 =>
  some (r3.1, r3.2))) else (if (p_X8_has S zc) = 0 then (fb (f_X11_told S (-1000001)) (fun r35 =>
   some (r35.1, r35.2))) else (fb (q_X8_isMissing S za) (fun x6 =>
   if x6 = 0 then (fb (q_X8_isMissing S zc) (fun x11 =>
    if x11 = 0 then (fb (q_X8_bitsOf S za) (fun x14 =>
     fb (q_X8_bitsOf S zc) (fun x16 =>
     if x14 = x16 then (fb (q_X8_stand S za zb ze) (fun x19 =>
      if x19 = 0 then (fb (f_X11_told S (-1000001)) (fun r22 =>
       some (r22.1, r22.2))) else (fb (q_X8_stand S zc zd ze) (fun x24 =>
       if x24 = 0 then (fb (f_X11_told S (-1000001)) (fun r29 =>
        some (r29.1, r29.2))) else (fb (f_X8_transfer S za zb zc zd ze) (fun r27 =>
        some (ze, r27.2))))))) else (fb (f_X11_told S (-1000005)) (fun r31 =>
      some (r31.1, r31.2)))))) else (fb (f_X11_told S (-1000002)) (fun r33 =>
     some (r33.1, r33.2))))) else (fb (f_X11_told S (-1000002)) (fun r9 =>
    some (r9.1, r9.2))))))

def l_X1_prepare_7 (k7 : FS → Int32 → Option (Int32 × FS)) : Nat → FS → Int32 → Option (Int32 × FS)
  | 0, _, _ => none
  | m7 + 1, S2, x2_2 => if x2_2 < 5 then (fb (ix 5 x2_2) (fun j4 =>
    fl (wA S2 41 j4 (fG 20 5 1 S2 x2_2 0)) (fun S5 =>
    l_X1_prepare_7 k7 m7 S5 (x2_2 + 1)))) else (k7 S2 x2_2)
def f_X1_prepare (S : FS) (za : Int32) : Option (Int32 × FS) :=
  fl (wI S 111 za) (fun S1 =>
 l_X1_prepare_7 (fun S6 x6_2 =>
 some (0, S6)) FU S1 0)

def p_X1_winsWithin_k0 (S : FS) (zb : Int32) (zc : Int32) : Int32 :=
  0
theorem pb_X1_winsWithin_k0 {S : FS} {zb : Int32} {zc : Int32} : p_X1_winsWithin_k0 S zb zc = 0 ∨ p_X1_winsWithin_k0 S zb zc = 1 := Or.inl rfl

def f_X1_winsDespite_k0 (S : FS) (za : Int32) (zb : Int32) (zd : Int32) (ze : Int32) : Option (Int32 × FS) :=
  if za < 0 then (some (1, S)) else (if za < 5 then (if zb < 0 then (some (1, S)) else (if zb < 5 then (fb (ix 5 za) (fun j5 =>
     if (S.2 41 j5) < 1 then (some (1, S)) else (fb (ix 5 zb) (fun j7 =>
      if (S.2 41 j7) < 6 then (fl (wA S 41 j5 ((S.2 41 j5) - 1)) (fun S9 =>
       fl (wA S9 41 j7 ((S9.2 41 j7) + 1)) (fun S10 =>
       fv (p_X1_winsWithin_k0 S10 zd ze) (fun x11 =>
       fl (wA S10 41 j5 ((S10.2 41 j5) + 1)) (fun S12 =>
       fl (wA S12 41 j7 ((S12.2 41 j7) - 1)) (fun S13 =>
       fb (bz x11) (fun b14 => some (b14, S13)))))))) else (some (1, S)))))) else (some (1, S)))) else (some (1, S)))

def l_X1_winsWhatever_k0_16 (zb : Int32) (zc : Int32) (k16 : FS → Int32 → Int32 → Option (Int32 × FS)) : Nat → FS → Int32 → Int32 → Option (Int32 × FS)
  | 0, _, _, _ => none
  | m16 + 1, S3, x3_4, x3_5 => if x3_5 < 4 then (if x3_4 = 0 then (k16 S3 x3_4 x3_5) else (fb (f_X1_winsDespite_k0 S3 x3_5 (x3_5 + 1) zb zc) (fun r7 =>
     if r7.1 = 0 then (l_X1_winsWhatever_k0_16 zb zc k16 m16 r7.2 0 (x3_5 + 1)) else (fb (f_X1_winsDespite_k0 r7.2 (x3_5 + 1) x3_5 zb zc) (fun r10 =>
      if r10.1 = 0 then (l_X1_winsWhatever_k0_16 zb zc k16 m16 r10.2 0 (x3_5 + 1)) else (l_X1_winsWhatever_k0_16 zb zc k16 m16 r10.2 1 (x3_5 + 1))))))) else (k16 S3 x3_4 x3_5)
def f_X1_winsWhatever_k0 (S : FS) (zb : Int32) (zc : Int32) : Option (Int32 × FS) :=
  fv (p_X1_winsWithin_k0 S zb zc) (fun x1 =>
 fv (imax 0 zb) (fun x2 =>
 l_X1_winsWhatever_k0_16 zb zc (fun S12 x12_4 x12_5 =>
 fb (bz x12_4) (fun b13 => some (b13, S12))) FU S x1 x2))

def f_X1_winsByTaking_k1 (S : FS) (zb : Int32) (zc : Int32) : Option (Int32 × FS) :=
  if zb < 0 then (some (0, S)) else (if zb < 5 then (fb (ix 5 zb) (fun j3 =>
   if (S.2 41 j3) < zc then (if zb = (S.1 111) then (some (1, S)) else (fb (f_X1_winsWhatever_k0 S (zb + 1) (zc - (S.2 41 j3))) (fun r7 =>
     if r7.1 = 0 then (some (0, r7.2)) else (some (1, r7.2))))) else (some (0, S)))) else (some (0, S)))

def f_X1_winsByWaiting_k1 (S : FS) (zb : Int32) (zc : Int32) : Option (Int32 × FS) :=
  fb (f_X1_winsWhatever_k0 S zb zc) (fun r2 =>
 fb (bz r2.1) (fun b3 => some (b3, r2.2)))

def f_X1_winsWithin_k1 (S : FS) (zb : Int32) (zc : Int32) : Option (Int32 × FS) :=
  fb (f_X1_winsByTaking_k1 S zb zc) (fun r2 =>
 if r2.1 = 0 then (fb (f_X1_winsByWaiting_k1 r2.2 zb zc) (fun r5 =>
  if r5.1 = 0 then (some (0, r5.2)) else (some (1, r5.2)))) else (some (1, r2.2)))

def f_X1_winsDespite_k1 (S : FS) (za : Int32) (zb : Int32) (zd : Int32) (ze : Int32) : Option (Int32 × FS) :=
  if za < 0 then (some (1, S)) else (if za < 5 then (if zb < 0 then (some (1, S)) else (if zb < 5 then (fb (ix 5 za) (fun j5 =>
     if (S.2 41 j5) < 1 then (some (1, S)) else (fb (ix 5 zb) (fun j7 =>
      if (S.2 41 j7) < 6 then (fl (wA S 41 j5 ((S.2 41 j5) - 1)) (fun S9 =>
       fl (wA S9 41 j7 ((S9.2 41 j7) + 1)) (fun S10 =>
       fb (f_X1_winsWithin_k1 S10 zd ze) (fun r12 =>
       fl (wA r12.2 41 j5 ((r12.2.2 41 j5) + 1)) (fun S13 =>
       fl (wA S13 41 j7 ((S13.2 41 j7) - 1)) (fun S14 =>
       fb (bz r12.1) (fun b15 => some (b15, S14)))))))) else (some (1, S)))))) else (some (1, S)))) else (some (1, S)))

def l_X1_winsWhatever_k1_16 (zb : Int32) (zc : Int32) (k16 : FS → Int32 → Int32 → Option (Int32 × FS)) : Nat → FS → Int32 → Int32 → Option (Int32 × FS)
  | 0, _, _, _ => none
  | m16 + 1, S4, x4_4, x4_5 => if x4_5 < 4 then (if x4_4 = 0 then (k16 S4 x4_4 x4_5) else (fb (f_X1_winsDespite_k1 S4 x4_5 (x4_5 + 1) zb zc) (fun r8 =>
     if r8.1 = 0 then (l_X1_winsWhatever_k1_16 zb zc k16 m16 r8.2 0 (x4_5 + 1)) else (fb (f_X1_winsDespite_k1 r8.2 (x4_5 + 1) x4_5 zb zc) (fun r11 =>
      if r11.1 = 0 then (l_X1_winsWhatever_k1_16 zb zc k16 m16 r11.2 0 (x4_5 + 1)) else (l_X1_winsWhatever_k1_16 zb zc k16 m16 r11.2 1 (x4_5 + 1))))))) else (k16 S4 x4_4 x4_5)
def f_X1_winsWhatever_k1 (S : FS) (zb : Int32) (zc : Int32) : Option (Int32 × FS) :=
  fb (f_X1_winsWithin_k1 S zb zc) (fun r2 =>
 fv (imax 0 zb) (fun x3 =>
 l_X1_winsWhatever_k1_16 zb zc (fun S13 x13_4 x13_5 =>
 fb (bz x13_4) (fun b14 => some (b14, S13))) FU r2.2 r2.1 x3))

def f_X1_winsByTaking_k2 (S : FS) (zb : Int32) (zc : Int32) : Option (Int32 × FS) :=
  if zb < 0 then (some (0, S)) else (if zb < 5 then (fb (ix 5 zb) (fun j3 =>
   if (S.2 41 j3) < zc then (if zb = (S.1 111) then (some (1, S)) else (fb (f_X1_winsWhatever_k1 S (zb + 1) (zc - (S.2 41 j3))) (fun r7 =>
     if r7.1 = 0 then (some (0, r7.2)) else (some (1, r7.2))))) else (some (0, S)))) else (some (0, S)))

def f_X1_winsByWaiting_k2 (S : FS) (zb : Int32) (zc : Int32) : Option (Int32 × FS) :=
  fb (f_X1_winsWhatever_k1 S zb zc) (fun r2 =>
 fb (bz r2.1) (fun b3 => some (b3, r2.2)))

def f_X1_winsWithin_k2 (S : FS) (zb : Int32) (zc : Int32) : Option (Int32 × FS) :=
  fb (f_X1_winsByTaking_k2 S zb zc) (fun r2 =>
 if r2.1 = 0 then (fb (f_X1_winsByWaiting_k2 r2.2 zb zc) (fun r5 =>
  if r5.1 = 0 then (some (0, r5.2)) else (some (1, r5.2)))) else (some (1, r2.2)))

def f_X1_winsDespite_k2 (S : FS) (za : Int32) (zb : Int32) (zd : Int32) (ze : Int32) : Option (Int32 × FS) :=
  if za < 0 then (some (1, S)) else (if za < 5 then (if zb < 0 then (some (1, S)) else (if zb < 5 then (fb (ix 5 za) (fun j5 =>
     if (S.2 41 j5) < 1 then (some (1, S)) else (fb (ix 5 zb) (fun j7 =>
      if (S.2 41 j7) < 6 then (fl (wA S 41 j5 ((S.2 41 j5) - 1)) (fun S9 =>
       fl (wA S9 41 j7 ((S9.2 41 j7) + 1)) (fun S10 =>
       fb (f_X1_winsWithin_k2 S10 zd ze) (fun r12 =>
       fl (wA r12.2 41 j5 ((r12.2.2 41 j5) + 1)) (fun S13 =>
       fl (wA S13 41 j7 ((S13.2 41 j7) - 1)) (fun S14 =>
       fb (bz r12.1) (fun b15 => some (b15, S14)))))))) else (some (1, S)))))) else (some (1, S)))) else (some (1, S)))

def l_X1_winsWhatever_k2_16 (zb : Int32) (zc : Int32) (k16 : FS → Int32 → Int32 → Option (Int32 × FS)) : Nat → FS → Int32 → Int32 → Option (Int32 × FS)
  | 0, _, _, _ => none
  | m16 + 1, S4, x4_4, x4_5 => if x4_5 < 4 then (if x4_4 = 0 then (k16 S4 x4_4 x4_5) else (fb (f_X1_winsDespite_k2 S4 x4_5 (x4_5 + 1) zb zc) (fun r8 =>
     if r8.1 = 0 then (l_X1_winsWhatever_k2_16 zb zc k16 m16 r8.2 0 (x4_5 + 1)) else (fb (f_X1_winsDespite_k2 r8.2 (x4_5 + 1) x4_5 zb zc) (fun r11 =>
      if r11.1 = 0 then (l_X1_winsWhatever_k2_16 zb zc k16 m16 r11.2 0 (x4_5 + 1)) else (l_X1_winsWhatever_k2_16 zb zc k16 m16 r11.2 1 (x4_5 + 1))))))) else (k16 S4 x4_4 x4_5)
def f_X1_winsWhatever_k2 (S : FS) (zb : Int32) (zc : Int32) : Option (Int32 × FS) :=
  fb (f_X1_winsWithin_k2 S zb zc) (fun r2 =>
 fv (imax 0 zb) (fun x3 =>
 l_X1_winsWhatever_k2_16 zb zc (fun S13 x13_4 x13_5 =>
 fb (bz x13_4) (fun b14 => some (b14, S13))) FU r2.2 r2.1 x3))

def f_X1_winsByTaking_k3 (S : FS) (zb : Int32) (zc : Int32) : Option (Int32 × FS) :=
  if zb < 0 then (some (0, S)) else (if zb < 5 then (fb (ix 5 zb) (fun j3 =>
   if (S.2 41 j3) < zc then (if zb = (S.1 111) then (some (1, S)) else (fb (f_X1_winsWhatever_k2 S (zb + 1) (zc - (S.2 41 j3))) (fun r7 =>
     if r7.1 = 0 then (some (0, r7.2)) else (some (1, r7.2))))) else (some (0, S)))) else (some (0, S)))

def f_X1_winsByWaiting_k3 (S : FS) (zb : Int32) (zc : Int32) : Option (Int32 × FS) :=
  fb (f_X1_winsWhatever_k2 S zb zc) (fun r2 =>
 fb (bz r2.1) (fun b3 => some (b3, r2.2)))

def f_X1_winsWithin_k3 (S : FS) (zb : Int32) (zc : Int32) : Option (Int32 × FS) :=
  fb (f_X1_winsByTaking_k3 S zb zc) (fun r2 =>
 if r2.1 = 0 then (fb (f_X1_winsByWaiting_k3 r2.2 zb zc) (fun r5 =>
  if r5.1 = 0 then (some (0, r5.2)) else (some (1, r5.2)))) else (some (1, r2.2)))

def f_X11_night (S : FS) (za : Int32) (zb : Int32) (zc : Int32) (zd : Int32) : Option (Int32 × FS) :=
  if (fOut za 1 20) = 0 then (if (fOut zb 1 3) = 0 then (if (fOut zc 0 4) = 0 then (if (fOut zd 0 1) = 0 then (fb (f_X1_prepare S zc) (fun r12 =>
     if zb = 1 then (if zd = 0 then (fb (f_X1_winsWithin_k1 r12.2 0 za) (fun r27 =>
       if r27.1 = 0 then (some (0, r27.2)) else (some (1, r27.2)))) else (fb (f_X1_winsByTaking_k1 r12.2 0 za) (fun r17 =>
       if r17.1 = 0 then (fb (f_X1_winsByWaiting_k1 r17.2 0 za) (fun r20 =>
        if r20.1 = 0 then (fb (f_X11_told r20.2 (-1000002)) (fun r23 =>
         some (r23.1, r23.2))) else (fb (f_X11_told r20.2 (-1)) (fun r25 =>
         some (r25.1, r25.2))))) else (some (0, r17.2))))) else if zb = 2 then (if zd = 0 then (fb (f_X1_winsWithin_k2 r12.2 0 za) (fun r43 =>
       if r43.1 = 0 then (some (0, r43.2)) else (some (1, r43.2)))) else (fb (f_X1_winsByTaking_k2 r12.2 0 za) (fun r33 =>
       if r33.1 = 0 then (fb (f_X1_winsByWaiting_k2 r33.2 0 za) (fun r36 =>
        if r36.1 = 0 then (fb (f_X11_told r36.2 (-1000002)) (fun r39 =>
         some (r39.1, r39.2))) else (fb (f_X11_told r36.2 (-1)) (fun r41 =>
         some (r41.1, r41.2))))) else (some (0, r33.2))))) else if zb = 3 then (if zd = 0 then (fb (f_X1_winsWithin_k3 r12.2 0 za) (fun r59 =>
       if r59.1 = 0 then (some (0, r59.2)) else (some (1, r59.2)))) else (fb (f_X1_winsByTaking_k3 r12.2 0 za) (fun r49 =>
       if r49.1 = 0 then (fb (f_X1_winsByWaiting_k3 r49.2 0 za) (fun r52 =>
        if r52.1 = 0 then (fb (f_X11_told r52.2 (-1000002)) (fun r55 =>
         some (r55.1, r55.2))) else (fb (f_X11_told r52.2 (-1)) (fun r57 =>
         some (r57.1, r57.2))))) else (some (0, r49.2))))) else none)) else (fb (f_X11_told S (-1000001)) (fun r63 =>
     some (r63.1, r63.2)))) else (fb (f_X11_told S (-1000001)) (fun r9 =>
    some (r9.1, r9.2)))) else (fb (f_X11_told S (-1000001)) (fun r6 =>
   some (r6.1, r6.2)))) else (fb (f_X11_told S (-1000001)) (fun r3 =>
  some (r3.1, r3.2)))

def f_X7_payFromChest (S : FS) (za : Int32) (zb : Int32) : Option (Int32 × FS) :=
  if (S.1 103) < zb then (some ((-1000002), S)) else (fl (wI S 103 ((S.1 103) - zb)) (fun S2 =>
  fl (fP 6 20 14 S2 za 7 (fG 6 20 14 S2 za 7 + zb)) (fun S3 =>
  some (S3.1 103, S3))))

def f_X3_sendAway (S : FS) (za : Int32) (zb : Int32) : Option (Int32 × FS) :=
  fv (S.1 2) (fun x1 =>
 if 0 < x1 then (if (p_X7_isInTown S za) = 0 then (some ((-1000002), S)) else (fb (nz x1) (fun u5 =>
   fb (f_X7_setOut S za (zb - zb / x1 * x1)) (fun r7 =>
   some (r7.1, r7.2))))) else (some ((-1000002), S)))

def p_X2_isStruck (S : FS) (za : Int32) : Int32 :=
  if (fG 10 12 6 S za 3) < 0 then (0) else (1)
theorem pb_X2_isStruck {S : FS} {za : Int32} : p_X2_isStruck S za = 0 ∨ p_X2_isStruck S za = 1 := by
  unfold p_X2_isStruck
  try simp only [fv]
  repeat' split
  all_goals first | exact Or.inl rfl | exact Or.inr rfl | decide

def f_X2_strikeOut (S : FS) (za : Int32) : Option (Int32 × FS) :=
  fl (fP 10 12 6 S za 3 (S.1 102)) (fun S1 =>
 some (0, S1))

def f_X3_strikeFor (S : FS) (za : Int32) : Option (Int32 × FS) :=
  if (fHas 10 S za) = 0 then (some ((-1000002), S)) else (if (p_X2_isStruck S za) = 0 then (fb (f_X2_strikeOut S za) (fun r4 =>
   some (1, r4.2))) else (some ((-1000002), S)))

def f_X3_carryOutSort (S : FS) (za : Int32) (zb : Int32) (zc : Int32) : Option (Int32 × FS) :=
  if za = 0 then (fb (f_X7_payFromChest S zc zb) (fun r3 =>
  some (r3.1, r3.2))) else if za = 1 then (fb (f_X3_sendAway S zc zb) (fun r6 =>
  some (r6.1, r6.2))) else if za = 2 then (if (fHas 8 S zb) = 0 then (some ((-1000002), S)) else (fb (f_X7_handOver S zb zc) (fun r10 =>
   some (r10.1, r10.2)))) else if za = 3 then (fb (f_X3_strikeFor S zb) (fun r13 =>
  some (r13.1, r13.2))) else (fb (f_X0_breakAllOf S zc) (fun r15 =>
 some (r15.1, r15.2)))

def f_X3_carryOut (S : FS) (za : Int32) : Option (Int32 × FS) :=
  fv (fG 14 40 12 S za 6) (fun x1 =>
 if (fG 14 40 12 S za 9) < 0 then (some ((-1000003), S)) else (if (fG 14 40 12 S za 11) = 0 then (if (p_X7_isLiving S x1) = 0 then (some ((-1000003), S)) else (if (fG 14 40 12 S za 10) = 1 then (fb (f_X3_carryOutSort S (fG 14 40 12 S za 1) (fG 14 40 12 S za 2) x1) (fun r7 =>
     if r7.1 = (-1000002) then (some (r7.1, r7.2)) else (fl (fP 14 40 12 r7.2 za 11 1) (fun S9 =>
      some (r7.1, S9))))) else (some ((-1000005), S)))) else (some ((-1000003), S))))

def f_X11_obey (S : FS) (za : Int32) : Option (Int32 × FS) :=
  if (fHas 14 S za) = 0 then (fb (f_X11_told S (-1000001)) (fun r3 =>
  some (r3.1, r3.2))) else (fb (f_X3_carryOut S za) (fun r5 =>
  fb (f_X11_told r5.2 r5.1) (fun r7 =>
  some (r7.1, r7.2))))

def f_X3_unfold (S : FS) (za : Int32) : Option (Int32 × FS) :=
  fv (fG 14 40 12 S za 6) (fun x1 =>
 if (p_X3_isSent S za) = 0 then (some ((-1000003), S)) else (if (S.1 102) < (fG 14 40 12 S za 8) then (some ((-1000003), S)) else (if (fG 14 40 12 S za 9) < 0 then (if (p_X7_isInTown S x1) = 0 then (some ((-1000003), S)) else (if (fG 6 20 14 S x1 4) = (fG 14 40 12 S za 7) then (fb (f_X2_ruling S 1 (S.1 102) (p_X7_knownTo S x1) x1 za) (fun r8 =>
      if r8.1 = 0 then (fl (fP 14 40 12 r8.2 za 9 (r8.2.1 102)) (fun S10 =>
       fl (fP 14 40 12 S10 za 10 0) (fun S11 =>
       some (0, S11)))) else (fl (fP 14 40 12 r8.2 za 9 (r8.2.1 102)) (fun S12 =>
       fl (fP 14 40 12 S12 za 10 1) (fun S13 =>
       some (1, S13)))))) else (some ((-1000003), S)))) else (some ((-1000003), S)))))

def f_X11_open (S : FS) (za : Int32) : Option (Int32 × FS) :=
  if (fHas 14 S za) = 0 then (fb (f_X11_told S (-1000001)) (fun r3 =>
  some (r3.1, r3.2))) else (fb (f_X3_unfold S za) (fun r5 =>
  fb (f_X11_told r5.2 r5.1) (fun r7 =>
  some (r7.1, r7.2))))

def f_X11_owed (S : FS) (za : Int32) (zb : Int32) : Option (Int32 × FS) :=
  if (fHas 16 S za) = 0 then (fb (f_X11_told S (-1000001)) (fun r12 =>
  some (r12.1, r12.2))) else (fv (fG 16 6 5 S za 3) (fun x2 =>
  if zb = 0 then (some (fG 16 6 5 S za 0, S)) else if zb = 1 then (some (fG 16 6 5 S za 4, S)) else if zb = 2 then (some (fG 2 10 3 S x2 2, S)) else if zb = 3 then (fb (qRows 16 6 5 S 3 x2) (fun x8 =>
   some (x8, S))) else (fb (f_X11_told S (-1000001)) (fun r10 =>
  some (r10.1, r10.2)))))

def f_X11_own (S : FS) (za : Int32) (zb : Int32) : Option (Int32 × FS) :=
  if (fHas 2 S za) = 0 then (fb (f_X11_told S (-1000001)) (fun r3 =>
  some (r3.1, r3.2))) else (if (p_X7_isLivingOrNobody S zb) = 0 then (fb (f_X11_told S (-1000001)) (fun r10 =>
   some (r10.1, r10.2))) else (if (fG 2 10 3 S za 2) = 0 then (fl (fP 2 10 3 S za 1 zb) (fun S6 =>
    some (fG 2 10 3 S za 1, S6))) else (fb (f_X11_told S (-1000003)) (fun r8 =>
    some (r8.1, r8.2)))))

def f_X11_pay (S : FS) (za : Int32) (zb : Int32) : Option (Int32 × FS) :=
  if (fHas 6 S za) = 0 then (fb (f_X11_told S (-1000001)) (fun r3 =>
  some (r3.1, r3.2))) else (if (fOut zb 1 9999) = 0 then (if (p_X7_isLiving S za) = 0 then (fb (f_X11_told S (-1000003)) (fun r7 =>
    some (r7.1, r7.2))) else (fb (f_X7_payFromChest S za zb) (fun r9 =>
    fb (f_X11_told r9.2 r9.1) (fun r11 =>
    some (r11.1, r11.2))))) else (fb (f_X11_told S (-1000001)) (fun r13 =>
   some (r13.1, r13.2))))

def p_X7_mayBeParent (S : FS) (za : Int32) (zb : Int32) (zc : Int32) : Int32 :=
  if za = (-1) then (1) else (if (fHas 6 S za) = 0 then (0) else (if (fG 6 20 14 S za 0) = zb then (if (fG 6 20 14 S za 1) < zc then (1) else (0)) else (0)))
theorem pb_X7_mayBeParent {S : FS} {za : Int32} {zb : Int32} {zc : Int32} : p_X7_mayBeParent S za zb zc = 0 ∨ p_X7_mayBeParent S za zb zc = 1 := by
  unfold p_X7_mayBeParent
  try simp only [fv]
  repeat' split
  all_goals first | exact Or.inl rfl | exact Or.inr rfl | decide

def f_X7_bringNearer (S : FS) (za : Int32) (zb : Int32) : Option (Int32 × FS) :=
  if zb = (-1) then (some (0, S)) else (fv (fG 6 20 14 S za 11) (fun x2 =>
  fv (fG 6 20 14 S zb 11) (fun x3 =>
  fl (fP 6 20 14 S za 11 (imin x2 (x3 + 1))) (fun S4 =>
  fl (fP 6 20 14 S4 zb 11 (imin x3 (x2 + 1))) (fun S5 =>
  some (0, S5))))))

def l_X7_findSteps_17 (x1 : Int32) (k17 : FS → Int32 → Option (Int32 × FS)) : Nat → FS → Int32 → Option (Int32 × FS)
  | 0, _, _ => none
  | m17 + 1, S4, x4_3 => if x4_3 < x1 then (fb (f_X7_bringNearer S4 x4_3 (fG 6 20 14 S4 x4_3 2)) (fun r7 =>
       fb (f_X7_bringNearer r7.2 x4_3 (fG 6 20 14 r7.2 x4_3 3)) (fun r9 =>
       l_X7_findSteps_17 x1 k17 m17 r9.2 (x4_3 + 1)))) else (k17 S4 x4_3)
def l_X7_findSteps_10 (x1 : Int32) (k10 : FS → Int32 → Option (Int32 × FS)) : Nat → FS → Int32 → Option (Int32 × FS)
  | 0, _, _ => none
  | m10 + 1, S2, x2_2 => if x2_2 < x1 then (l_X7_findSteps_17 x1 (fun S10 x10_3 =>
    l_X7_findSteps_10 x1 k10 m10 S10 (x2_2 + 1)) FU S2 0) else (k10 S2 x2_2)
def f_X7_findSteps (S : FS) : Option (Int32 × FS) :=
  fv (S.1 6) (fun x1 =>
 l_X7_findSteps_10 x1 (fun S11 x11_2 =>
 some (0, S11)) FU S 0)

def f_X7_addPerson (S : FS) (za : Int32) (zb : Int32) (zc : Int32) (zd : Int32) (ze : Int32) : Option (Int32 × FS) :=
  fb (fApp 6 20 14 S za) (fun r2 =>
 fl (fP 6 20 14 r2.2 r2.1 1 zb) (fun S3 =>
 fl (fP 6 20 14 S3 r2.1 2 zc) (fun S4 =>
 fl (fP 6 20 14 S4 r2.1 3 zd) (fun S5 =>
 fl (fP 6 20 14 S5 r2.1 4 ze) (fun S6 =>
 fl (fP 6 20 14 S6 r2.1 10 (-1)) (fun S7 =>
 if r2.1 = 0 then (fl (fP 6 20 14 S7 r2.1 11 0) (fun S13 =>
  fl (fP 6 20 14 S13 r2.1 12 1) (fun S14 =>
  fb (f_X7_findSteps S14) (fun r16 =>
  some (r2.1, r16.2))))) else (fl (fP 6 20 14 S7 r2.1 11 99) (fun S9 =>
  fl (fP 6 20 14 S9 r2.1 12 1) (fun S10 =>
  fb (f_X7_findSteps S10) (fun r12 =>
  some (r2.1, r12.2)))))))))))

def f_X11_person (S : FS) (za : Int32) (zb : Int32) (zc : Int32) (zd : Int32) : Option (Int32 × FS) :=
  fv ((zc / 100) - 1) (fun x1 =>
 fv ((zc - zc / 100 * 100) - 1) (fun x2 =>
 if (fOut za 0 1) = 0 then (if (fOut zb (-20000) (S.1 102)) = 0 then (if zc < 0 then (fb (f_X11_told S (-1000001)) (fun r11 =>
    some (r11.1, r11.2))) else (if (fHas 2 S zd) = 0 then (fb (f_X11_told S (-1000001)) (fun r14 =>
     some (r14.1, r14.2))) else (if (p_X7_mayBeParent S x1 1 zb) = 0 then (fb (f_X11_told S (-1000001)) (fun r17 =>
      some (r17.1, r17.2))) else (if (p_X7_mayBeParent S x2 0 zb) = 0 then (fb (f_X11_told S (-1000001)) (fun r27 =>
       some (r27.1, r27.2))) else (if (fFull 6 20 S) = 0 then (fb (f_X7_addPerson S za zb x1 x2 zd) (fun r21 =>
        fb (f_X11_told r21.2 r21.1) (fun r23 =>
        some (r23.1, r23.2)))) else (fb (f_X11_told S (-1000004)) (fun r25 =>
        some (r25.1, r25.2)))))))) else (fb (f_X11_told S (-1000001)) (fun r8 =>
   some (r8.1, r8.2)))) else (fb (f_X11_told S (-1000001)) (fun r5 =>
  some (r5.1, r5.2)))))

def p_X8_numberAt (S : FS) (za : Int32) (zb : Int32) : Int32 :=
  fG 51 4 24 S za zb

def l_X8_areAllWithin_10 (za : Int32) (zb : Int32) (zc : Int32) (S : FS) (x2 : Int32) (k10 : Int32 → Option Int32) : Nat → Int32 → Option Int32
  | 0, _ => none
  | m10 + 1, x3_5 => if x3_5 < x2 then (if (fOut (p_X8_numberAt S za x3_5) zb zc) = 0 then (l_X8_areAllWithin_10 za zb zc S x2 k10 m10  (x3_5 + 1)) else (some 0)) else (k10  x3_5)
def q_X8_areAllWithin (S : FS) (za : Int32) (zb : Int32) (zc : Int32) : Option Int32 :=
  fb (q_X8_sizeOf S za) (fun x2 =>
 l_X8_areAllWithin_10 za zb zc S x2 (fun  x6_5 =>
 some 1) FU  0)

def l_X5_rentsBut_4 (za : Int32) (S : FS) (k4 : Int32 → Int32 → Option Int32) : Nat → Int32 → Int32 → Option Int32
  | 0, _, _ => none
  | m4 + 1, x1_2, x1_3 => if x1_3 < 6 then (if (((S.1 112) &&& (za ^^^ (-1))) &&& ((1 : Int32) <<< (x1_3 &&& 31))) = 0 then (l_X5_rentsBut_4 za S k4 m4  x1_2 (x1_3 + 1)) else (fv (x1_2 + (fG 2 10 3 S x1_3 0)) (fun x4 =>
     l_X5_rentsBut_4 za S k4 m4  x4 (x1_3 + 1)))) else (k4  x1_2 x1_3)
def q_X5_rentsBut (S : FS) (za : Int32) : Option Int32 :=
  l_X5_rentsBut_4 za S (fun  x5_2 x5_3 =>
 some x5_2) FU  0 0

def l_X5_begin_35 (k35 : FS → Int32 → Option (Int32 × FS)) : Nat → FS → Int32 → Option (Int32 × FS)
  | 0, _, _ => none
  | m35 + 1, S5, x5_1 => if x5_1 < 6 then (if (fHas 2 S5 x5_1) = 0 then (fl (wI S5 112 ((S5.1 112) ||| 0)) (fun S8 =>
     l_X5_begin_35 k35 m35 S8 (x5_1 + 1))) else (if (fG 2 10 3 S5 x5_1 1) = (-1) then (if (fG 2 10 3 S5 x5_1 2) = 0 then (fl (wI S5 112 ((S5.1 112) ||| ((1 : Int32) <<< (x5_1 &&& 31)))) (fun S13 =>
       l_X5_begin_35 k35 m35 S13 (x5_1 + 1))) else (fl (wI S5 112 ((S5.1 112) ||| 0)) (fun S12 =>
       l_X5_begin_35 k35 m35 S12 (x5_1 + 1)))) else (fl (wI S5 112 ((S5.1 112) ||| 0)) (fun S10 =>
      l_X5_begin_35 k35 m35 S10 (x5_1 + 1))))) else (k35 S5 x5_1)
def l_X5_begin_120 (k120 : FS → Int32 → Option (Int32 × FS)) : Nat → FS → Int32 → Option (Int32 × FS)
  | 0, _, _ => none
  | m120 + 1, S15, x15_1 => if x15_1 < 64 then (fb (q_X5_rentsBut S15 x15_1) (fun x18 =>
    fb (ix 64 x15_1) (fun j19 =>
    fl (wA S15 45 j19 x18) (fun S20 =>
    l_X5_begin_120 k120 m120 S20 (x15_1 + 1))))) else (k120 S15 x15_1)
def f_X5_begin (S : FS) : Option (Int32 × FS) :=
  fl (fFill 43 64 S (-1)) (fun S1 =>
 fl (wA S1 43 0 (S1.1 103)) (fun S2 =>
 fl (wA S2 44 0 0) (fun S3 =>
 fl (wI S3 112 0) (fun S4 =>
 l_X5_begin_35 (fun S14 x14_1 =>
 l_X5_begin_120 (fun S21 x21_1 =>
 some (0, S21)) FU S14 0) FU S4 0))))

def p_X5_before (S : FS) (za : Int32) (zb : Int32) : Int32 :=
  if zb = 0 then (za &&& 63) else (fv (za &&& (((1 : Int32) <<< ((zb - 1) &&& 31)) ^^^ (-1))) (fun x2 =>
  x2 &&& 63))

def q_X5_leftBy (S : FS) (za : Int32) (zb : Int32) (zc : Int32) : Option Int32 :=
  fv (p_X5_before S za zb) (fun x1 =>
 if zb = 0 then (fb (ix 64 x1) (fun j3 =>
  if (S.2 43 j3) < 0 then (some (-1)) else (some (imax (-1) ((((S.2 43 j3) + (S.2 45 j3)) + 0) - zc))))) else (if x1 = za then (some (-1)) else (if (((S.1 112) >>> ((zb - 1) &&& 31)) &&& 1) = 0 then (some (-1)) else (fb (ix 64 x1) (fun j7 =>
    if (S.2 43 j7) < 0 then (some (-1)) else (fv (4 * (fG 2 10 3 S (zb - 1) 0)) (fun x9 =>
     some (imax (-1) ((((S.2 43 j7) + (S.2 45 j7)) + x9) - zc)))))))))

def l_X5_passQuarter_15 (za : Int32) (x1_2 : Int32) (k15 : FS → Int32 → Int32 → Int32 → Option (Int32 × FS)) : Nat → FS → Int32 → Int32 → Int32 → Option (Int32 × FS)
  | 0, _, _, _, _ => none
  | m15 + 1, S3, x3_3, x3_4, x3_5 => if x3_5 < 7 then (fb (q_X5_leftBy S3 x1_2 x3_5 za) (fun x6 =>
       if x6 < 0 then (if x3_3 < x6 then (l_X5_passQuarter_15 za x1_2 k15 m15 S3 x6 0 (x3_5 + 1)) else (l_X5_passQuarter_15 za x1_2 k15 m15 S3 x3_3 x3_4 (x3_5 + 1))) else (fb (ix 64 (p_X5_before S3 x1_2 x3_5)) (fun j8 =>
        fv (((S3.2 44 j8) * 7) + x3_5) (fun x9 =>
        if x3_3 < x6 then (l_X5_passQuarter_15 za x1_2 k15 m15 S3 x6 x9 (x3_5 + 1)) else (if x6 = x3_3 then (if x9 < x3_4 then (l_X5_passQuarter_15 za x1_2 k15 m15 S3 x6 x9 (x3_5 + 1)) else (l_X5_passQuarter_15 za x1_2 k15 m15 S3 x3_3 x3_4 (x3_5 + 1))) else (l_X5_passQuarter_15 za x1_2 k15 m15 S3 x3_3 x3_4 (x3_5 + 1)))))))) else (k15 S3 x3_3 x3_4 x3_5)
def l_X5_passQuarter_3 (za : Int32) (k3 : FS → Int32 → Option (Int32 × FS)) : Nat → FS → Int32 → Option (Int32 × FS)
  | 0, _, _ => none
  | m3 + 1, S1, x1_2 => if x1_2 < 0 then (k3 S1 x1_2) else (l_X5_passQuarter_15 za x1_2 (fun S14 x14_3 x14_4 x14_5 =>
    fb (ix 64 x1_2) (fun j15 =>
    fl (wA S14 43 j15 x14_3) (fun S16 =>
    fl (wA S16 44 j15 x14_4) (fun S17 =>
    l_X5_passQuarter_3 za k3 m3 S17 (x1_2 + (-1)))))) FU S1 (-1) 0 0)
def f_X5_passQuarter (S : FS) (za : Int32) : Option (Int32 × FS) :=
  l_X5_passQuarter_3 za (fun S18 x18_2 =>
 some (0, S18)) FU S 63

def l_X5_findBest_4 (k4 : FS → Int32 → Int32 → Option (Int32 × FS)) : Nat → FS → Int32 → Int32 → Option (Int32 × FS)
  | 0, _, _, _ => none
  | m4 + 1, S1, x1_1, x1_2 => if x1_2 < 64 then (fb (ix 64 x1_2) (fun j3 =>
    fv ((S1.2 43 j3) + (8 * (S1.2 45 j3))) (fun x4 =>
    if x1_1 = 0 then (if (S1.2 43 j3) < 0 then (l_X5_findBest_4 k4 m4 S1 x1_1 (x1_2 + 1)) else (fl (wI S1 113 x4) (fun S7 =>
      fl (wI S7 114 (S7.2 44 j3)) (fun S8 =>
      l_X5_findBest_4 k4 m4 S8 1 (x1_2 + 1))))) else (if (S1.1 113) < x4 then (if (S1.2 43 j3) < 0 then (l_X5_findBest_4 k4 m4 S1 x1_1 (x1_2 + 1)) else (fl (wI S1 113 x4) (fun S11 =>
       fl (wI S11 114 (S11.2 44 j3)) (fun S12 =>
       l_X5_findBest_4 k4 m4 S12 1 (x1_2 + 1))))) else (if x4 = (S1.1 113) then (if (S1.2 44 j3) < (S1.1 114) then (if (S1.2 43 j3) < 0 then (l_X5_findBest_4 k4 m4 S1 x1_1 (x1_2 + 1)) else (fl (wI S1 113 x4) (fun S18 =>
         fl (wI S18 114 (S18.2 44 j3)) (fun S19 =>
         l_X5_findBest_4 k4 m4 S19 1 (x1_2 + 1))))) else (if (S1.2 43 j3) < 0 then (l_X5_findBest_4 k4 m4 S1 x1_1 (x1_2 + 1)) else (l_X5_findBest_4 k4 m4 S1 x1_1 (x1_2 + 1)))) else (if (S1.2 43 j3) < 0 then (l_X5_findBest_4 k4 m4 S1 x1_1 (x1_2 + 1)) else (l_X5_findBest_4 k4 m4 S1 x1_1 (x1_2 + 1)))))))) else (k4 S1 x1_1 x1_2)
def f_X5_findBest (S : FS) : Option (Int32 × FS) :=
  l_X5_findBest_4 (fun S20 x20_1 x20_2 =>
 fb (bz x20_1) (fun b21 => some (b21, S20))) FU S 0 0

def l_X5_pledgedIn_10 (za : Int32) (k10 : Int32 → Int32 → Option Int32) : Nat → Int32 → Int32 → Option Int32
  | 0, _, _ => none
  | m10 + 1, x3_3, x3_4 => if za < x3_4 then (fv (x3_3 / 7) (fun x5 =>
    l_X5_pledgedIn_10 za k10 m10  x5 (x3_4 + (-1)))) else (k10  x3_3 x3_4)
def q_X5_pledgedIn (S : FS) (za : Int32) (zb : Int32) : Option Int32 :=
  fv (S.1 114) (fun x1 =>
 fv (zb - 1) (fun x2 =>
 l_X5_pledgedIn_10 za (fun  x6_3 x6_4 =>
 some ((x6_3 - x6_3 / 7 * 7) - 1)) FU  x1 x2))

def l_X11_plan_98 (za : Int32) (x6 : Int32) (k98 : FS → Int32 → Option (Int32 × FS)) : Nat → FS → Int32 → Option (Int32 × FS)
  | 0, _, _ => none
  | m98 + 1, S18, x18_4 => if x18_4 < x6 then (fb (f_X5_passQuarter S18 (p_X8_numberAt S18 za x18_4)) (fun r21 =>
         l_X11_plan_98 za x6 k98 m98 r21.2 (x18_4 + 1))) else (k98 S18 x18_4)
def f_X11_plan (S : FS) (za : Int32) (zb : Int32) : Option (Int32 × FS) :=
  if (p_X8_has S za) = 0 then (fb (f_X11_told S (-1000001)) (fun r36 =>
  some (r36.1, r36.2))) else (fb (q_X8_isMissing S za) (fun x3 =>
  if x3 = 0 then (fb (q_X8_sizeOf S za) (fun x6 =>
   if (fOut x6 1 8) = 0 then (fb (q_X8_areAllWithin S za 0 9999) (fun x11 =>
    if x11 = 0 then (fb (f_X11_told S (-1000001)) (fun r14 =>
     some (r14.1, r14.2))) else (if (fOut zb (-1) (x6 - 1)) = 0 then (fb (f_X5_begin S) (fun r17 =>
      l_X11_plan_98 za x6 (fun S22 x22_4 =>
      fb (f_X5_findBest S22) (fun r24 =>
      if r24.1 = 0 then (fb (f_X11_told r24.2 (-1000003)) (fun r30 =>
       some (r30.1, r30.2))) else (if zb < 0 then (some (r24.2.1 113, r24.2)) else (fb (q_X5_pledgedIn r24.2 zb x6) (fun x28 =>
        some (x28, r24.2)))))) FU r17.2 0)) else (fb (f_X11_told S (-1000001)) (fun r32 =>
      some (r32.1, r32.2)))))) else (fb (f_X11_told S (-1000001)) (fun r9 =>
    some (r9.1, r9.2))))) else (fb (f_X11_told S (-1000002)) (fun r34 =>
   some (r34.1, r34.2)))))

def f_X11_power (S : FS) (za : Int32) (zb : Int32) (zc : Int32) : Option (Int32 × FS) :=
  if (fOut za 0 5) = 0 then (if (p_X7_isLivingOrNobody S zb) = 0 then (fb (f_X11_told S (-1000001)) (fun r6 =>
   some (r6.1, r6.2))) else (if (fOut zc 0 99) = 0 then (if (fFull 8 20 S) = 0 then (fb (f_X7_addPower S za zb zc) (fun r10 =>
     fb (f_X11_told r10.2 r10.1) (fun r12 =>
     some (r12.1, r12.2)))) else (fb (f_X11_told S (-1000004)) (fun r14 =>
     some (r14.1, r14.2)))) else (fb (f_X11_told S (-1000001)) (fun r16 =>
    some (r16.1, r16.2))))) else (fb (f_X11_told S (-1000001)) (fun r3 =>
  some (r3.1, r3.2)))

def l_X3_handsWith_16 (za : Int32) (S : FS) (x1 : Int32) (k16 : Int32 → Int32 → Option Int32) : Nat → Int32 → Int32 → Option Int32
  | 0, _, _ => none
  | m16 + 1, x2_2, x2_4 => if x2_4 < x1 then (fv (p_X7_whoHas S x2_4) (fun x4 =>
    if x4 < 0 then (l_X3_handsWith_16 za S x1 k16 m16  x2_2 (x2_4 + 1)) else (if (fG 8 20 6 S x2_4 5) = za then (fv (x2_2 ||| ((1 : Int32) <<< (x4 &&& 31))) (fun x7 =>
      l_X3_handsWith_16 za S x1 k16 m16  x7 (x2_4 + 1))) else (l_X3_handsWith_16 za S x1 k16 m16  x2_2 (x2_4 + 1))))) else (k16  x2_2 x2_4)
def q_X3_handsWith (S : FS) (za : Int32) : Option Int32 :=
  fv (S.1 8) (fun x1 =>
 l_X3_handsWith_16 za S x1 (fun  x8_2 x8_4 =>
 some x8_2) FU  0 0)

def f_X3_mark (S : FS) (za : Int32) (zb : Int32) : Option (Int32 × FS) :=
  fv (p_X7_whoHas S zb) (fun x1 =>
 fv (fG 14 40 12 S za 3) (fun x2 =>
 if (p_X3_isSent S za) = 0 then (if (p_X7_isInTown S x1) = 0 then (some ((-1000003), S)) else (if (fG 6 20 14 S x1 4) = x2 then (fv (fG 8 20 6 S zb 5) (fun x6 =>
    fv (fG 14 40 12 S za 4) (fun x7 =>
    fb (q_X3_handsWith S x6) (fun x9 =>
    fb (q_X7_livingIn S x2) (fun x11 =>
    fv (x9 &&& x11) (fun x12 =>
    if x7 = 0 then (fl (fP 14 40 12 S za 5 x12) (fun S16 =>
     fl (fP 14 40 12 S16 za 4 (x7 ||| ((1 : Int32) <<< (x6 &&& 31)))) (fun S17 =>
     some (p_J6_bitCount_0f7a4 S17 (fG 14 40 12 S17 za 4), S17)))) else (fl (fP 14 40 12 S za 5 ((fG 14 40 12 S za 5) &&& x12)) (fun S14 =>
     fl (fP 14 40 12 S14 za 4 (x7 ||| ((1 : Int32) <<< (x6 &&& 31)))) (fun S15 =>
     some (p_J6_bitCount_0f7a4 S15 (fG 14 40 12 S15 za 4), S15)))))))))) else (some ((-1000003), S)))) else (some ((-1000003), S))))

def f_X11_press (S : FS) (za : Int32) (zb : Int32) : Option (Int32 × FS) :=
  if (fHas 14 S za) = 0 then (fb (f_X11_told S (-1000001)) (fun r3 =>
  some (r3.1, r3.2))) else (if (fHas 8 S zb) = 0 then (fb (f_X11_told S (-1000001)) (fun r15 =>
   some (r15.1, r15.2))) else (fb (q_X7_isOfKind S zb 2) (fun x6 =>
   if x6 = 0 then (fb (f_X11_told S (-1000005)) (fun r9 =>
    some (r9.1, r9.2))) else (fb (f_X3_mark S za zb) (fun r11 =>
    fb (f_X11_told r11.2 r11.1) (fun r13 =>
    some (r13.1, r13.2)))))))

def f_X11_price (S : FS) (za : Int32) (zb : Int32) : Option (Int32 × FS) :=
  if (fHas 6 S za) = 0 then (fb (f_X11_told S (-1000001)) (fun r3 =>
  some (r3.1, r3.2))) else (if (fOut zb 1 999) = 0 then (fl (fP 6 20 14 S za 12 zb) (fun S5 =>
   some (fG 6 20 14 S za 12, S5))) else (fb (f_X11_told S (-1000001)) (fun r7 =>
   some (r7.1, r7.2))))

def f_X11_promise (S : FS) (za : Int32) (zb : Int32) (zc : Int32) (zd : Int32) : Option (Int32 × FS) :=
  if (fHas 6 S za) = 0 then (fb (f_X11_told S (-1000001)) (fun r3 =>
  some (r3.1, r3.2))) else (if (fOut zb 0 5) = 0 then (if (fOut zc (S.1 102) 2000) = 0 then (if (fG 6 20 14 S za 13) = 0 then (fb (f_X11_told S (-1000003)) (fun r17 =>
     some (r17.1, r17.2))) else (if (fFull 18 30 S) = 0 then (fb (f_X0_addPromise S za zb zc zd) (fun r11 =>
      fb (f_X11_told r11.2 r11.1) (fun r13 =>
      some (r13.1, r13.2)))) else (fb (f_X11_told S (-1000004)) (fun r15 =>
      some (r15.1, r15.2))))) else (fb (f_X11_told S (-1000001)) (fun r19 =>
    some (r19.1, r19.2)))) else (fb (f_X11_told S (-1000001)) (fun r6 =>
   some (r6.1, r6.2))))

def f_X8_setNumber (S : FS) (za : Int32) (zb : Int32) (zc : Int32) : Option (Int32 × FS) :=
  fb (q_X8_bitsOf S za) (fun x2 =>
 if x2 = 8 then (fl (fP 51 4 24 S za zb zc.toInt8.toInt32) (fun S7 =>
  some (0, S7))) else (if x2 = 16 then (fl (fP 51 4 24 S za zb zc.toInt16.toInt32) (fun S6 =>
   some (0, S6))) else (fl (fP 51 4 24 S za zb zc) (fun S5 =>
   some (0, S5)))))

def f_X11_put (S : FS) (za : Int32) (zb : Int32) (zc : Int32) : Option (Int32 × FS) :=
  if (p_X8_has S za) = 0 then (fb (f_X11_told S (-1000001)) (fun r18 =>
  some (r18.1, r18.2))) else (fb (q_X8_isMissing S za) (fun x3 =>
  if x3 = 0 then (if zb < 0 then (fb (f_X11_told S (-1000001)) (fun r7 =>
    some (r7.1, r7.2))) else (fb (q_X8_sizeOf S za) (fun x9 =>
    if zb < x9 then (fb (f_X8_setNumber S za zb zc) (fun r12 =>
     some (1, r12.2))) else (fb (f_X11_told S (-1000001)) (fun r14 =>
     some (r14.1, r14.2)))))) else (fb (f_X11_told S (-1000002)) (fun r16 =>
   some (r16.1, r16.2)))))

def f_X11_rent (S : FS) (za : Int32) (zb : Int32) : Option (Int32 × FS) :=
  if (fHas 2 S za) = 0 then (fb (f_X11_told S (-1000001)) (fun r3 =>
  some (r3.1, r3.2))) else (if (fOut zb 0 999) = 0 then (fl (fP 2 10 3 S za 0 zb) (fun S5 =>
   some (fG 2 10 3 S za 0, S5))) else (fb (f_X11_told S (-1000001)) (fun r7 =>
   some (r7.1, r7.2))))

def p_X8_isWidth (S : FS) (za : Int32) : Int32 :=
  if za = 8 then (1) else (if za = 16 then (1) else (if za = 32 then (1) else (0)))
theorem pb_X8_isWidth {S : FS} {za : Int32} : p_X8_isWidth S za = 0 ∨ p_X8_isWidth S za = 1 := by
  unfold p_X8_isWidth
  try simp only [fv]
  repeat' split
  all_goals first | exact Or.inl rfl | exact Or.inr rfl | decide

def l_X11_takeRents_5 (za : Int32) (zb : Int32) (k5 : FS → Int32 → Int32 → Option (Int32 × FS)) : Nat → FS → Int32 → Int32 → Option (Int32 × FS)
  | 0, _, _, _ => none
  | m5 + 1, S1, x1_3, x1_4 => if x1_4 < zb then (fv (p_X8_numberAt S1 za x1_4) (fun x3 =>
    if x3 < 0 then (l_X11_takeRents_5 za zb k5 m5 S1 x1_3 (x1_4 + 1)) else (fl (fP 2 10 3 S1 x1_4 0 x3) (fun S5 =>
     l_X11_takeRents_5 za zb k5 m5 S5 (x1_3 + 1) (x1_4 + 1))))) else (k5 S1 x1_3 x1_4)
def f_X11_takeRents (S : FS) (za : Int32) (zb : Int32) : Option (Int32 × FS) :=
  l_X11_takeRents_5 za zb (fun S6 x6_3 x6_4 =>
 some (x6_3, S6)) FU S 0 0

def f_X11_rents (S : FS) (za : Int32) (zb : Int32) : Option (Int32 × FS) :=
  if (p_X8_has S za) = 0 then (fb (f_X11_told S (-1000001)) (fun r3 =>
  some (r3.1, r3.2))) else (if (p_X8_isWidth S zb) = 0 then (fb (f_X11_told S (-1000001)) (fun r30 =>
   some (r30.1, r30.2))) else (fb (q_X8_isMissing S za) (fun x6 =>
   if x6 = 0 then (fb (q_X8_bitsOf S za) (fun x9 =>
    if x9 = zb then (fb (q_X8_sizeOf S za) (fun x12 =>
     if (S.1 2) < x12 then (fb (f_X11_told S (-1000003)) (fun r24 =>
      some (r24.1, r24.2))) else (fb (q_X8_areAllWithin S za (-1) 999) (fun x15 =>
      if x15 = 0 then (fb (f_X11_told S (-1000001)) (fun r18 =>
       some (r18.1, r18.2))) else (fb (f_X11_takeRents S za x12) (fun r20 =>
       fb (f_X11_told r20.2 r20.1) (fun r22 =>
       some (r22.1, r22.2)))))))) else (fb (f_X11_told S (-1000005)) (fun r26 =>
     some (r26.1, r26.2))))) else (fb (f_X11_told S (-1000002)) (fun r28 =>
    some (r28.1, r28.2))))))

def l_X7_join_22 (za : Int32) (zb : Int32) (zc : Int32) (x1 : Int32) (x2_5 : Int32) (k22 : FS → Int32 → Option (Int32 × FS)) : Nat → FS → Int32 → Option (Int32 × FS)
  | 0, _, _ => none
  | m22 + 1, S4, x4_6 => if x4_6 < x1 then (fv (((fG 4 10 10 S4 x2_5 za) + zc) + (fG 4 10 10 S4 zb x4_6)) (fun x6 =>
       fv (((fG 4 10 10 S4 x2_5 zb) + zc) + (fG 4 10 10 S4 za x4_6)) (fun x7 =>
       fl (fP 4 10 10 S4 x2_5 x4_6 (imin (fG 4 10 10 S4 x2_5 x4_6) (imin x6 x7))) (fun S8 =>
       l_X7_join_22 za zb zc x1 x2_5 k22 m22 S8 (x4_6 + 1))))) else (k22 S4 x4_6)
def l_X7_join_12 (za : Int32) (zb : Int32) (zc : Int32) (x1 : Int32) (k12 : FS → Int32 → Option (Int32 × FS)) : Nat → FS → Int32 → Option (Int32 × FS)
  | 0, _, _ => none
  | m12 + 1, S2, x2_5 => if x2_5 < x1 then (l_X7_join_22 za zb zc x1 x2_5 (fun S9 x9_6 =>
    l_X7_join_12 za zb zc x1 k12 m12 S9 (x2_5 + 1)) FU S2 0) else (k12 S2 x2_5)
def f_X7_join (S : FS) (za : Int32) (zb : Int32) (zc : Int32) : Option (Int32 × FS) :=
  fv (S.1 2) (fun x1 =>
 l_X7_join_12 za zb zc x1 (fun S10 x10_5 =>
 fl (wI S10 101 ((S10.1 101) + 1)) (fun S11 =>
 some (S11.1 101, S11))) FU S 0)

def f_X11_road (S : FS) (za : Int32) (zb : Int32) (zc : Int32) : Option (Int32 × FS) :=
  if (fHas 2 S za) = 0 then (fb (f_X11_told S (-1000001)) (fun r3 =>
  some (r3.1, r3.2))) else (if (fHas 2 S zb) = 0 then (fb (f_X11_told S (-1000001)) (fun r6 =>
   some (r6.1, r6.2))) else (if za = zb then (fb (f_X11_told S (-1000001)) (fun r9 =>
    some (r9.1, r9.2))) else (if (fOut zc 1 9) = 0 then (if (S.1 101) < 20 then (fb (f_X7_join S za zb zc) (fun r13 =>
      fb (f_X11_told r13.2 r13.1) (fun r15 =>
      some (r15.1, r15.2)))) else (fb (f_X11_told S (-1000004)) (fun r17 =>
      some (r17.1, r17.2)))) else (fb (f_X11_told S (-1000001)) (fun r19 =>
     some (r19.1, r19.2))))))

def f_X11_says (S : FS) (za : Int32) (zb : Int32) (zc : Int32) : Option (Int32 × FS) :=
  if zb = (-1) then (if zc = (-1) then (if (fHas 10 S za) = 0 then (fb (f_X11_told S (-1000001)) (fun r5 =>
    some (r5.1, r5.2))) else (fb (f_X2_comesTo S za zb zc (S.1 102)) (fun r7 =>
    some (r7.1, r7.2)))) else (if (fHas 14 S zc) = 0 then (if (fHas 10 S za) = 0 then (fb (f_X11_told S (-1000001)) (fun r11 =>
     some (r11.1, r11.2))) else (fb (f_X11_told S (-1000001)) (fun r13 =>
     some (r13.1, r13.2)))) else (if (fHas 10 S za) = 0 then (fb (f_X11_told S (-1000001)) (fun r16 =>
     some (r16.1, r16.2))) else (fb (f_X2_comesTo S za zb zc (S.1 102)) (fun r18 =>
     some (r18.1, r18.2)))))) else (if (fHas 6 S zb) = 0 then (if zc = (-1) then (if (fHas 10 S za) = 0 then (fb (f_X11_told S (-1000001)) (fun r23 =>
     some (r23.1, r23.2))) else (fb (f_X11_told S (-1000001)) (fun r25 =>
     some (r25.1, r25.2)))) else (if (fHas 14 S zc) = 0 then (if (fHas 10 S za) = 0 then (fb (f_X11_told S (-1000001)) (fun r29 =>
      some (r29.1, r29.2))) else (fb (f_X11_told S (-1000001)) (fun r31 =>
      some (r31.1, r31.2)))) else (if (fHas 10 S za) = 0 then (fb (f_X11_told S (-1000001)) (fun r34 =>
      some (r34.1, r34.2))) else (fb (f_X11_told S (-1000001)) (fun r36 =>
      some (r36.1, r36.2)))))) else (if zc = (-1) then (if (fHas 10 S za) = 0 then (fb (f_X11_told S (-1000001)) (fun r40 =>
     some (r40.1, r40.2))) else (fb (f_X2_comesTo S za zb zc (S.1 102)) (fun r42 =>
     some (r42.1, r42.2)))) else (if (fHas 14 S zc) = 0 then (if (fHas 10 S za) = 0 then (fb (f_X11_told S (-1000001)) (fun r46 =>
      some (r46.1, r46.2))) else (fb (f_X11_told S (-1000001)) (fun r48 =>
      some (r48.1, r48.2)))) else (if (fHas 10 S za) = 0 then (fb (f_X11_told S (-1000001)) (fun r51 =>
      some (r51.1, r51.2))) else (fb (f_X2_comesTo S za zb zc (S.1 102)) (fun r53 =>
      some (r53.1, r53.2)))))))

def f_X11_seat (S : FS) (za : Int32) (zb : Int32) : Option (Int32 × FS) :=
  if (fHas 6 S za) = 0 then (fb (f_X11_told S (-1000001)) (fun r37 =>
  some (r37.1, r37.2))) else (if (fG 6 20 14 S za 13) = 0 then (if (p_X7_isLiving S za) = 0 then (fb (f_X11_told S (-1000003)) (fun r5 =>
    some (r5.1, r5.2))) else (if 0 = zb then (fb (f_X11_told S (-1000003)) (fun r16 =>
     some (r16.1, r16.2))) else (fb (qRows 6 20 14 S 13 1) (fun x8 =>
     if x8 < 9 then (fl (fP 6 20 14 S za 13 1) (fun S10 =>
      fb (qRows 6 20 14 S10 13 1) (fun x12 =>
      some (x12, S10)))) else (fb (f_X11_told S (-1000004)) (fun r14 =>
      some (r14.1, r14.2))))))) else (if (p_X7_isLiving S za) = 0 then (fb (f_X11_told S (-1000003)) (fun r19 =>
    some (r19.1, r19.2))) else (if 1 = zb then (fb (f_X11_told S (-1000003)) (fun r35 =>
     some (r35.1, r35.2))) else (if zb = 0 then (fb (f_X0_unseat S za) (fun r23 =>
      fb (qRows 6 20 14 r23.2 13 1) (fun x25 =>
      some (x25, r23.2)))) else (fb (qRows 6 20 14 S 13 1) (fun x27 =>
      if x27 < 9 then (fl (fP 6 20 14 S za 13 1) (fun S29 =>
       fb (qRows 6 20 14 S29 13 1) (fun x31 =>
       some (x31, S29)))) else (fb (f_X11_told S (-1000004)) (fun r33 =>
       some (r33.1, r33.2)))))))))

def f_X3_dispatch (S : FS) (za : Int32) (zb : Int32) : Option (Int32 × FS) :=
  if (p_X3_isSent S za) = 0 then (if (p_X7_isInTown S zb) = 0 then (some ((-1000003), S)) else (fv (fG 6 20 14 S zb 4) (fun x3 =>
   fv (p_X7_wayBetween S (fG 14 40 12 S za 3) x3) (fun x4 =>
   if x4 < 0 then (some ((-1000002), S)) else (fl (fP 14 40 12 S za 6 zb) (fun S6 =>
    fl (fP 14 40 12 S6 za 7 x3) (fun S7 =>
    fl (fP 14 40 12 S7 za 8 ((S7.1 102) + x4)) (fun S8 =>
    some ((S8.1 102) + x4, S8))))))))) else (some ((-1000003), S))

def f_X11_send (S : FS) (za : Int32) (zb : Int32) : Option (Int32 × FS) :=
  if (fHas 14 S za) = 0 then (fb (f_X11_told S (-1000001)) (fun r3 =>
  some (r3.1, r3.2))) else (if (fHas 6 S zb) = 0 then (fb (f_X11_told S (-1000001)) (fun r10 =>
   some (r10.1, r10.2))) else (fb (f_X3_dispatch S za zb) (fun r6 =>
   fb (f_X11_told r6.2 r6.1) (fun r8 =>
   some (r8.1, r8.2)))))

def l_X8_layOut_39 (za : Int32) (k39 : FS → Int32 → Option (Int32 × FS)) : Nat → FS → Int32 → Option (Int32 × FS)
  | 0, _, _ => none
  | m39 + 1, S2, x2_4 => if x2_4 < 24 then (fl (fP 51 4 24 S2 za x2_4 0) (fun S4 =>
      l_X8_layOut_39 za k39 m39 S4 (x2_4 + 1))) else (k39 S2 x2_4)
def j_X8_layOut_36 (za : Int32) (S1 : FS) : Option (Int32 × FS) :=
  l_X8_layOut_39 za (fun S5 x5_4 =>
   some (0, S5)) FU S1 0
def f_X8_layOut (S : FS) (za : Int32) (zb : Int32) (zc : Int32) : Option (Int32 × FS) :=
  if za < 0 then (j_X8_layOut_36 za S) else (if za < 4 then (fb (ix 4 za) (fun j8 =>
   fl (wA S 49 j8 zb) (fun S9 =>
   fl (wA S9 50 j8 zc) (fun S10 =>
   j_X8_layOut_36 za S10)))) else (j_X8_layOut_36 za S))

def f_X11_sheet (S : FS) (za : Int32) (zb : Int32) (zc : Int32) : Option (Int32 × FS) :=
  if (p_X8_has S za) = 0 then (fb (f_X11_told S (-1000001)) (fun r3 =>
  some (r3.1, r3.2))) else (if zb = 0 then (fb (f_X8_layOut S za zb 0) (fun r6 =>
   some (1, r6.2))) else (if (p_X8_isWidth S zb) = 0 then (fb (f_X11_told S (-1000001)) (fun r17 =>
    some (r17.1, r17.2))) else (if zc < 0 then (fb (f_X11_told S (-1000003)) (fun r15 =>
     some (r15.1, r15.2))) else (if 24 < zc then (fb (f_X11_told S (-1000001)) (fun r13 =>
      some (r13.1, r13.2))) else (fb (f_X8_layOut S za zb zc) (fun r11 =>
      some (1, r11.2)))))))

def f_X11_strike (S : FS) (za : Int32) : Option (Int32 × FS) :=
  if (fHas 10 S za) = 0 then (fb (f_X11_told S (-1000001)) (fun r8 =>
  some (r8.1, r8.2))) else (if (p_X2_isStruck S za) = 0 then (fb (f_X2_strikeOut S za) (fun r4 =>
   some (1, r4.2))) else (fb (f_X11_told S (-1000003)) (fun r6 =>
   some (r6.1, r6.2))))

def f_X11_tell (S : FS) (za : Int32) : Option (Int32 × FS) :=
  if (fFull 22 20 S) = 0 then (fb (fApp 22 20 1 S za) (fun r3 =>
  some (r3.2.1 22, r3.2))) else (fb (f_X11_told S (-1000004)) (fun r5 =>
  some (r5.1, r5.2)))

def f_X7_addTown (S : FS) : Option (Int32 × FS) :=
  fb (fApp 2 10 3 S 0) (fun r2 =>
 fl (fP 2 10 3 r2.2 r2.1 1 (-1)) (fun S3 =>
 some (r2.1, S3)))

def f_X11_town (S : FS) : Option (Int32 × FS) :=
  if (fFull 2 10 S) = 0 then (fb (f_X7_addTown S) (fun r3 =>
  fb (f_X11_told r3.2 r3.1) (fun r5 =>
  some (r5.1, r5.2)))) else (fb (f_X11_told S (-1000004)) (fun r7 =>
  some (r7.1, r7.2)))

def f_X11_trace (S : FS) (za : Int32) : Option (Int32 × FS) :=
  if za < 0 then (fb (f_X11_told S (-1000002)) (fun r3 =>
  some (r3.1, r3.2))) else (if za < (S.1 115) then (fb (q_X10_bodyAt S za) (fun x8 =>
   fb (f_X11_told S x8) (fun r10 =>
   some (r10.1, r10.2)))) else (fb (f_X11_told S (-1000002)) (fun r6 =>
   some (r6.1, r6.2))))

def f_X11_voice (S : FS) (za : Int32) (zb : Int32) (zc : Int32) : Option (Int32 × FS) :=
  if (fHas 8 S za) = 0 then (fb (f_X11_told S (-1000001)) (fun r3 =>
  some (r3.1, r3.2))) else (if (fOut zb 0 3) = 0 then (fb (f_X10_begin S (fG 8 20 6 S za 0) za (fG 8 20 6 S za 1)) (fun r6 =>
   fb (f_X10_speak r6.2 zb zc) (fun r8 =>
   some (r8.1, r8.2)))) else (fb (f_X11_told S (-1000001)) (fun r10 =>
   some (r10.1, r10.2))))
