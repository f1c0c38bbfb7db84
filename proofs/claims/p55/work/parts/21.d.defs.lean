def p_X12_in (S : FS) (za : Int32) (zb : Int32) (zc : Int32) : Int32 :=
  if za < zb then (0) else (if zc < za then (0) else (1))
theorem pb_X12_in {S : FS} {za : Int32} {zb : Int32} {zc : Int32} : p_X12_in S za zb zc = 0 ∨ p_X12_in S za zb zc = 1 := by
  unfold p_X12_in
  try simp only [fv]
  repeat' split
  all_goals first | exact Or.inl rfl | exact Or.inr rfl | decide

def p_X12_isPerson (S : FS) (za : Int32) : Int32 :=
  p_X12_in S za 0 ((S.2 55 2) - 1)
theorem pb_X12_isPerson {S : FS} {za : Int32} : p_X12_isPerson S za = 0 ∨ p_X12_isPerson S za = 1 := by
  unfold p_X12_isPerson
  try simp only [fv]
  repeat' split
  all_goals first | exact Or.inl rfl | exact Or.inr rfl | decide | exact pb_X12_in

def q_X12_man (S : FS) (za : Int32) (zb : Int32) : Option Int32 :=
  fb (ix 2071 ((110 + (14 * za)) + zb)) (fun j1 =>
 some (S.2 55 j1))

def q_X12_lives (S : FS) (za : Int32) : Option Int32 :=
  fb (q_X12_man S za 9) (fun x2 =>
 if x2 < 0 then (some 1) else (some 0))

def l_X12_findDays_2 (za : Int32) (k2 : FS → Int32 → Option (Int32 × FS)) : Nat → FS → Int32 → Option (Int32 × FS)
  | 0, _, _ => none
  | m2 + 1, S1, x1_2 => if x1_2 < 10 then (if x1_2 = za then (fb (ix 10 x1_2) (fun j6 =>
     fl (wA S1 58 j6 0) (fun S7 =>
     l_X12_findDays_2 za k2 m2 S7 (x1_2 + 1)))) else (fb (ix 10 x1_2) (fun j4 =>
     fl (wA S1 58 j4 (-1)) (fun S5 =>
     l_X12_findDays_2 za k2 m2 S5 (x1_2 + 1))))) else (k2 S1 x1_2)
def l_X12_findDays_53 (x11_3 : Int32) (k53 : FS → Int32 → Int32 → Option (Int32 × FS)) : Nat → FS → Int32 → Int32 → Option (Int32 × FS)
  | 0, _, _, _ => none
  | m53 + 1, S13, x13_2, x13_4 => if x13_4 < 2 then (fb (ix 2071 ((50 + (3 * x11_3)) + x13_4)) (fun j15 =>
          fv (S13.2 55 j15) (fun x16 =>
          fb (ix 2071 (((50 + (3 * x11_3)) + 1) - x13_4)) (fun j17 =>
          fv (S13.2 55 j17) (fun x18 =>
          fb (ix 10 x16) (fun j19 =>
          fb (ix 2071 ((50 + (3 * x11_3)) + 2)) (fun j20 =>
          fv ((S13.2 58 j19) + (S13.2 55 j20)) (fun x21 =>
          if (S13.2 58 j19) < 0 then (l_X12_findDays_53 x11_3 k53 m53 S13 x13_2 (x13_4 + 1)) else (fb (ix 10 x18) (fun j23 =>
           if (S13.2 58 j23) < 0 then (fl (wA S13 58 j23 x21) (fun S25 =>
            l_X12_findDays_53 x11_3 k53 m53 S25 1 (x13_4 + 1))) else (if x21 < (S13.2 58 j23) then (fl (wA S13 58 j23 x21) (fun S27 =>
             l_X12_findDays_53 x11_3 k53 m53 S27 1 (x13_4 + 1))) else (l_X12_findDays_53 x11_3 k53 m53 S13 x13_2 (x13_4 + 1))))))))))))) else (k53 S13 x13_2 x13_4)
def l_X12_findDays_40 (k40 : FS → Int32 → Int32 → Option (Int32 × FS)) : Nat → FS → Int32 → Int32 → Option (Int32 × FS)
  | 0, _, _, _ => none
  | m40 + 1, S11, x11_2, x11_3 => if x11_3 < (S11.2 55 1) then (l_X12_findDays_53 x11_3 (fun S28 x28_2 x28_4 =>
       l_X12_findDays_40 k40 m40 S28 x28_2 (x11_3 + 1)) FU S11 x11_2 0) else (k40 S11 x11_2 x11_3)
def l_X12_findDays_32 (k32 : FS → Int32 → Option (Int32 × FS)) : Nat → FS → Int32 → Option (Int32 × FS)
  | 0, _, _ => none
  | m32 + 1, S9, x9_2 => if x9_2 = 0 then (k32 S9 x9_2) else (l_X12_findDays_40 (fun S29 x29_2 x29_3 =>
    l_X12_findDays_32 k32 m32 S29 x29_2) FU S9 0 0)
def f_X12_findDays (S : FS) (za : Int32) : Option (Int32 × FS) :=
  l_X12_findDays_2 za (fun S8 x8_2 =>
 l_X12_findDays_32 (fun S30 x30_2 =>
 some (0, S30)) FU S8 1) FU S 0

def f_X12_farOf (S : FS) (za : Int32) (zb : Int32) : Option (Int32 × FS) :=
  fb (f_X12_findDays S za) (fun r2 =>
 fb (ix 10 zb) (fun j3 =>
 some (r2.2.2 58 j3, r2.2)))

def f_X12_knownTo (S : FS) (za : Int32) : Option (Int32 × FS) :=
  fb (q_X12_man S za 4) (fun x2 =>
 if x2 < 0 then (fb (q_X12_man S za 10) (fun x5 =>
  some (x5, S))) else (fb (q_X12_lives S za) (fun x7 =>
  if x7 = 0 then (fb (q_X12_man S za 10) (fun x22 =>
   some (x22, S))) else (fb (q_X12_man S za 4) (fun x10 =>
   fb (f_X12_farOf S 0 x10) (fun r12 =>
   if r12.1 < 0 then (fb (q_X12_man r12.2 za 10) (fun x15 =>
    some (x15, r12.2))) else (fb (q_X12_man r12.2 za 10) (fun x17 =>
    if ((r12.2.2 55 8) - r12.1) < x17 then (fb (q_X12_man r12.2 za 10) (fun x20 =>
     some (x20, r12.2))) else (some ((r12.2.2 55 8) - r12.1, r12.2))))))))))

def q_X12_its (S : FS) (za : Int32) (zb : Int32) : Option Int32 :=
  fb (ix 2071 ((390 + (6 * za)) + zb)) (fun j1 =>
 some (S.2 55 j1))

def l_X12_holdsMany_4 (za : Int32) (S : FS) (k4 : Int32 → Int32 → Option Int32) : Nat → Int32 → Int32 → Option Int32
  | 0, _, _ => none
  | m4 + 1, x1_2, x1_3 => if x1_3 < (S.2 55 3) then (fb (q_X12_its S x1_3 1) (fun x4 =>
    if x4 = za then (fv (x1_2 + 1) (fun x7 =>
     l_X12_holdsMany_4 za S k4 m4  x7 (x1_3 + 1))) else (fv (x1_2 + 0) (fun x6 =>
     l_X12_holdsMany_4 za S k4 m4  x6 (x1_3 + 1))))) else (k4  x1_2 x1_3)
def q_X12_holdsMany (S : FS) (za : Int32) : Option Int32 :=
  l_X12_holdsMany_4 za S (fun  x8_2 x8_3 =>
 some x8_2) FU  0 0

def l_X12_stepsOf_2 (k2 : FS → Int32 → Option (Int32 × FS)) : Nat → FS → Int32 → Option (Int32 × FS)
  | 0, _, _ => none
  | m2 + 1, S1, x1_2 => if x1_2 < 20 then (if x1_2 = 0 then (fb (ix 20 x1_2) (fun j6 =>
     fl (wA S1 59 j6 0) (fun S7 =>
     l_X12_stepsOf_2 k2 m2 S7 (x1_2 + 1)))) else (fb (ix 20 x1_2) (fun j4 =>
     fl (wA S1 59 j4 99) (fun S5 =>
     l_X12_stepsOf_2 k2 m2 S5 (x1_2 + 1))))) else (k2 S1 x1_2)
def l_X12_stepsOf_53 (x9_2 : Int32) (x11_3 : Int32) (k53 : FS → Int32 → Option (Int32 × FS)) : Nat → FS → Int32 → Option (Int32 × FS)
  | 0, _, _ => none
  | m53 + 1, S13, x13_4 => if 3 < x13_4 then (k53 S13 x13_4) else (fb (q_X12_man S13 x11_3 x13_4) (fun x16 =>
          if x16 < 0 then (l_X12_stepsOf_53 x9_2 x11_3 k53 m53 S13 (x13_4 + 1)) else (fb (ix 20 x16) (fun j18 =>
           if (S13.2 59 j18) = (x9_2 - 1) then (fb (ix 20 x11_3) (fun j24 =>
            if x9_2 < (S13.2 59 j24) then (fl (wA S13 59 j24 x9_2) (fun S29 =>
             if (S29.2 59 j24) = (x9_2 - 1) then (if x9_2 < (S29.2 59 j18) then (fl (wA S29 59 j18 x9_2) (fun S32 =>
               l_X12_stepsOf_53 x9_2 x11_3 k53 m53 S32 (x13_4 + 1))) else (l_X12_stepsOf_53 x9_2 x11_3 k53 m53 S29 (x13_4 + 1))) else (l_X12_stepsOf_53 x9_2 x11_3 k53 m53 S29 (x13_4 + 1)))) else (if (S13.2 59 j24) = (x9_2 - 1) then (if x9_2 < (S13.2 59 j18) then (fl (wA S13 59 j18 x9_2) (fun S28 =>
               l_X12_stepsOf_53 x9_2 x11_3 k53 m53 S28 (x13_4 + 1))) else (l_X12_stepsOf_53 x9_2 x11_3 k53 m53 S13 (x13_4 + 1))) else (l_X12_stepsOf_53 x9_2 x11_3 k53 m53 S13 (x13_4 + 1))))) else (fb (ix 20 x11_3) (fun j20 =>
            if (S13.2 59 j20) = (x9_2 - 1) then (if x9_2 < (S13.2 59 j18) then (fl (wA S13 59 j18 x9_2) (fun S23 =>
              l_X12_stepsOf_53 x9_2 x11_3 k53 m53 S23 (x13_4 + 1))) else (l_X12_stepsOf_53 x9_2 x11_3 k53 m53 S13 (x13_4 + 1))) else (l_X12_stepsOf_53 x9_2 x11_3 k53 m53 S13 (x13_4 + 1))))))))
def l_X12_stepsOf_40 (x9_2 : Int32) (k40 : FS → Int32 → Option (Int32 × FS)) : Nat → FS → Int32 → Option (Int32 × FS)
  | 0, _, _ => none
  | m40 + 1, S11, x11_3 => if x11_3 < (S11.2 55 2) then (l_X12_stepsOf_53 x9_2 x11_3 (fun S33 x33_4 =>
       l_X12_stepsOf_40 x9_2 k40 m40 S33 (x11_3 + 1)) FU S11 2) else (k40 S11 x11_3)
def l_X12_stepsOf_32 (k32 : FS → Int32 → Option (Int32 × FS)) : Nat → FS → Int32 → Option (Int32 × FS)
  | 0, _, _ => none
  | m32 + 1, S9, x9_2 => if x9_2 < 20 then (l_X12_stepsOf_40 x9_2 (fun S34 x34_3 =>
    l_X12_stepsOf_32 k32 m32 S34 (x9_2 + 1)) FU S9 0) else (k32 S9 x9_2)
def f_X12_stepsOf (S : FS) (za : Int32) : Option (Int32 × FS) :=
  l_X12_stepsOf_2 (fun S8 x8_2 =>
 l_X12_stepsOf_32 (fun S35 x35_2 =>
 fb (ix 20 za) (fun j36 =>
 some (S35.2 59 j36, S35))) FU S8 1) FU S 0

def f_X12_finds (S : FS) (za : Int32) : Option (Int32 × FS) :=
  fb (ix 6 za) (fun j1 =>
 fl (wA S 57 j1 ((S.2 57 j1) + 1)) (fun S2 =>
 some ((-1000000) - za, S2)))

def f_X12_about (S : FS) (za : Int32) (zb : Int32) : Option (Int32 × FS) :=
  if (p_X12_isPerson S za) = 0 then (fb (f_X12_finds S 1) (fun r36 =>
  some (r36.1, r36.2))) else (if zb = 0 then (fb (q_X12_man S za 4) (fun x4 =>
   some (x4, S))) else if zb = 1 then (fb (q_X12_man S za 7) (fun x7 =>
   some (x7, S))) else if zb = 2 then (fb (q_X12_man S za 8) (fun x10 =>
   some (x10, S))) else if zb = 3 then (fb (q_X12_man S za 1) (fun x13 =>
   some (((S.2 55 8) - x13) / 360, S))) else if zb = 4 then (fb (f_X12_knownTo S za) (fun r16 =>
   some (r16.1, r16.2))) else if zb = 5 then (fb (q_X12_holdsMany S za) (fun x19 =>
   some (x19, S))) else if zb = 6 then (fb (q_X12_lives S za) (fun x22 =>
   if x22 = 0 then (some (1, S)) else (some (0, S)))) else if zb = 7 then (fb (q_X12_man S za 11) (fun x26 =>
   some (x26, S))) else if zb = 8 then (fb (f_X12_stepsOf S za) (fun r29 =>
   some (r29.1, r29.2))) else if zb = 9 then (fb (q_X12_man S za 12) (fun x32 =>
   some (x32, S))) else (fb (f_X12_finds S 1) (fun r34 =>
  some (r34.1, r34.2))))

def f_X12_ran (S : FS) (za : Int32) : Option (Int32 × FS) :=
  if (S.1 22) < 40 then (fb (ix 40 (S.1 22)) (fun j2 =>
  fl (wA S 69 j2 za) (fun S3 =>
  fl (wI S3 22 ((S3.1 22) + 1)) (fun S4 =>
  some (0, S4))))) else (some (0, S))

def f_X12_actsPower (S : FS) (za : Int32) (zb : Int32) : Option (Int32 × FS) :=
  fb (f_X12_ran S 10) (fun r2 =>
 fb (q_X12_its r2.2 za 4) (fun x4 =>
 some (zb + x4, r2.2)))

def f_X12_actsOffice (S : FS) (za : Int32) (zb : Int32) : Option (Int32 × FS) :=
  fb (f_X12_ran S 20) (fun r2 =>
 fb (f_X12_actsPower r2.2 za zb) (fun r4 =>
 some (r4.1 + za, r4.2)))

def f_X12_actsOf (S : FS) (za : Int32) (zb : Int32) : Option (Int32 × FS) :=
  fb (q_X12_its S za 0) (fun x2 =>
 if x2 = 1 then (fb (f_X12_actsOffice S za zb) (fun r5 =>
  some (r5.1, r5.2))) else (if x2 = 3 then (fb (f_X12_actsOffice S za zb) (fun r17 =>
   some (r17.1, r17.2))) else (if x2 = 4 then (fb (f_X12_ran S 50) (fun r9 =>
    fb (q_X12_its r9.2 za 4) (fun x11 =>
    fb (f_X12_actsOffice r9.2 za (zb - x11)) (fun r13 =>
    some (r13.1, r13.2))))) else (fb (f_X12_actsPower S za zb) (fun r15 =>
    some (r15.1, r15.2))))))

def p_X12_isPower (S : FS) (za : Int32) : Int32 :=
  p_X12_in S za 0 ((S.2 55 3) - 1)
theorem pb_X12_isPower {S : FS} {za : Int32} : p_X12_isPower S za = 0 ∨ p_X12_isPower S za = 1 := by
  unfold p_X12_isPower
  try simp only [fv]
  repeat' split
  all_goals first | exact Or.inl rfl | exact Or.inr rfl | decide | exact pb_X12_in

def l_X12_inForce_6 (za : Int32) (zb : Int32) (zc : Int32) (S : FS) (k6 : Int32 → Int32 → Option Int32) : Nat → Int32 → Int32 → Option Int32
  | 0, _, _ => none
  | m6 + 1, x1_4, x1_5 => if x1_5 < (S.2 55 4) then (fv (510 + (65 * x1_5)) (fun x3 =>
    fb (ix 2071 (x3 + 3)) (fun j4 =>
    fv (p_X12_in S (S.2 55 j4) 0 zc) (fun x5 =>
    fb (ix 2071 x3) (fun j6 =>
    if (S.2 55 j6) = za then (fb (ix 2071 (x3 + 1)) (fun j8 =>
     if zb < (S.2 55 j8) then (l_X12_inForce_6 za zb zc S k6 m6  x1_4 (x1_5 + 1)) else (fb (ix 2071 (x3 + 2)) (fun j10 =>
      if zc < (S.2 55 j10) then (l_X12_inForce_6 za zb zc S k6 m6  x1_4 (x1_5 + 1)) else (if x5 = 0 then (if x1_4 < 0 then (l_X12_inForce_6 za zb zc S k6 m6  x1_5 (x1_5 + 1)) else (fb (ix 2071 ((510 + (65 * x1_4)) + 2)) (fun j14 =>
         if (S.2 55 j10) < (S.2 55 j14) then (l_X12_inForce_6 za zb zc S k6 m6  x1_4 (x1_5 + 1)) else (l_X12_inForce_6 za zb zc S k6 m6  x1_5 (x1_5 + 1))))) else (l_X12_inForce_6 za zb zc S k6 m6  x1_4 (x1_5 + 1))))))) else (l_X12_inForce_6 za zb zc S k6 m6  x1_4 (x1_5 + 1))))))) else (k6  x1_4 x1_5)
def q_X12_inForce (S : FS) (za : Int32) (zb : Int32) (zc : Int32) : Option Int32 :=
  l_X12_inForce_6 za zb zc S (fun  x16_4 x16_5 =>
 some x16_4) FU  (-1) 0

def q_X12_of (S : FS) (za : Int32) (zb : Int32) : Option Int32 :=
  fb (ix 2071 ((1290 + (12 * za)) + zb)) (fun j1 =>
 some (S.2 55 j1))

def l_X12_bits_4 (k4 : Int32 → Int32 → Option Int32) : Nat → Int32 → Int32 → Option Int32
  | 0, _, _ => none
  | m4 + 1, x1_1, x1_2 => if x1_2 = 0 then (k4  x1_1 x1_2) else (fv (x1_2 &&& (x1_2 - 1)) (fun x3 =>
    l_X12_bits_4 k4 m4  (x1_1 + 1) x3))
def q_X12_bits (S : FS) (za : Int32) : Option Int32 :=
  l_X12_bits_4 (fun  x4_1 x4_2 =>
 some x4_1) FU  0 za

def f_X12_setNames (S : FS) (za : Int32) (zb : Int32) (zc : Int32) : Option (Int32 × FS) :=
  if za < 0 then (fl (wA S 63 0 0) (fun S64 =>
  fl (wA S64 63 1 0) (fun S65 =>
  fl (wA S65 63 2 0) (fun S66 =>
  fl (wA S66 63 3 0) (fun S67 =>
  fl (wA S67 63 4 0) (fun S68 =>
  fl (wA S68 63 5 0) (fun S69 =>
  fl (wA S69 63 6 0) (fun S70 =>
  if zb < 0 then (fl (wA S70 63 7 0) (fun S84 =>
   fl (wA S84 63 8 0) (fun S85 =>
   fl (wA S85 63 9 0) (fun S86 =>
   fl (wA S86 63 10 zc) (fun S87 =>
   some (0, S87)))))) else (fb (q_X12_of S70 zb 3) (fun x73 =>
   fb (q_X12_bits S70 x73) (fun x75 =>
   fl (wA S70 63 7 x75) (fun S76 =>
   fb (q_X12_of S76 zb 1) (fun x78 =>
   fl (wA S76 63 8 x78) (fun S79 =>
   fb (q_X12_of S79 zb 2) (fun x81 =>
   fl (wA S79 63 9 x81) (fun S82 =>
   fl (wA S82 63 10 zc) (fun S83 =>
   some (0, S83)))))))))))))))))) else (fb (q_X12_man S za 1) (fun x3 =>
  fl (wA S 63 0 ((zc - x3) / 360)) (fun S4 =>
  fb (q_X12_man S4 za 0) (fun x6 =>
  fl (wA S4 63 1 x6) (fun S7 =>
  fb (q_X12_holdsMany S7 za) (fun x9 =>
  fl (wA S7 63 2 x9) (fun S10 =>
  fb (q_X12_man S10 za 7) (fun x12 =>
  fl (wA S10 63 3 x12) (fun S13 =>
  fb (q_X12_man S13 za 8) (fun x15 =>
  fl (wA S13 63 4 x15) (fun S16 =>
  fb (q_X12_man S16 za 4) (fun x18 =>
  if x18 < 0 then (fl (wA S16 63 5 10) (fun S43 =>
   fb (f_X12_stepsOf S43 za) (fun r45 =>
   fl (wA r45.2 63 6 r45.1) (fun S46 =>
   if zb < 0 then (fl (wA S46 63 7 0) (fun S60 =>
    fl (wA S60 63 8 0) (fun S61 =>
    fl (wA S61 63 9 0) (fun S62 =>
    fl (wA S62 63 10 zc) (fun S63 =>
    some (0, S63)))))) else (fb (q_X12_of S46 zb 3) (fun x49 =>
    fb (q_X12_bits S46 x49) (fun x51 =>
    fl (wA S46 63 7 x51) (fun S52 =>
    fb (q_X12_of S52 zb 1) (fun x54 =>
    fl (wA S52 63 8 x54) (fun S55 =>
    fb (q_X12_of S55 zb 2) (fun x57 =>
    fl (wA S55 63 9 x57) (fun S58 =>
    fl (wA S58 63 10 zc) (fun S59 =>
    some (0, S59)))))))))))))) else (fb (q_X12_man S16 za 4) (fun x21 =>
   fl (wA S16 63 5 x21) (fun S22 =>
   fb (f_X12_stepsOf S22 za) (fun r24 =>
   fl (wA r24.2 63 6 r24.1) (fun S25 =>
   if zb < 0 then (fl (wA S25 63 7 0) (fun S39 =>
    fl (wA S39 63 8 0) (fun S40 =>
    fl (wA S40 63 9 0) (fun S41 =>
    fl (wA S41 63 10 zc) (fun S42 =>
    some (0, S42)))))) else (fb (q_X12_of S25 zb 3) (fun x28 =>
    fb (q_X12_bits S25 x28) (fun x30 =>
    fl (wA S25 63 7 x30) (fun S31 =>
    fb (q_X12_of S31 zb 1) (fun x33 =>
    fl (wA S31 63 8 x33) (fun S34 =>
    fb (q_X12_of S34 zb 2) (fun x36 =>
    fl (wA S34 63 9 x36) (fun S37 =>
    fl (wA S37 63 10 zc) (fun S38 =>
    some (0, S38)))))))))))))))))))))))))))

def p_X12_done (S : FS) (za : Int32) (zb : Int32) (zc : Int32) : Int32 :=
  if za = 38 then (if zb = 0 then (0) else (if zc = 0 then (0) else (1))) else if za = 43 then (zb + zc) else if za = 60 then (if zb < zc then (1) else (0)) else if za = 61 then (if zb = zc then (1) else (0)) else if za = 62 then (if zc < zb then (1) else (0)) else if za = 124 then (if zb = 0 then (if zc = 0 then (0) else (1)) else (1)) else (zb - zc)

def l_X12_comesTo_33 (x4 : Int32) (k33 : FS → Int32 → Int32 → Option (Int32 × FS)) : Nat → FS → Int32 → Int32 → Option (Int32 × FS)
  | 0, _, _, _ => none
  | m33 + 1, S5, x5_5, x5_7 => fb (ix 2071 (x4 - 1)) (fun j6 =>
    if x5_7 < (x4 + (S5.2 55 j6)) then (fb (ix 2071 x5_7) (fun j8 =>
     fv (S5.2 55 j8) (fun x9 =>
     if (-100) < x9 then (if x9 < 0 then (fb (ix 11 ((-1) - x9)) (fun j22 =>
       fb (ix 60 x5_5) (fun j23 =>
       fl (wA S5 62 j23 (S5.2 63 j22)) (fun S24 =>
       l_X12_comesTo_33 x4 k33 m33 S24 (x5_5 + 1) (x5_7 + 1))))) else (fb (ix 60 x5_5) (fun j20 =>
       fl (wA S5 62 j20 x9) (fun S21 =>
       l_X12_comesTo_33 x4 k33 m33 S21 (x5_5 + 1) (x5_7 + 1))))) else (if x9 = (-133) then (fb (ix 60 (x5_5 - 1)) (fun j15 =>
       if (S5.2 62 j15) = 0 then (fl (wA S5 62 j15 1) (fun S18 =>
        l_X12_comesTo_33 x4 k33 m33 S18 x5_5 (x5_7 + 1))) else (fl (wA S5 62 j15 0) (fun S17 =>
        l_X12_comesTo_33 x4 k33 m33 S17 x5_5 (x5_7 + 1))))) else (fb (ix 60 ((x5_5 + (-1)) - 1)) (fun j12 =>
       fb (ix 60 (x5_5 + (-1))) (fun j13 =>
       fl (wA S5 62 j12 (p_X12_done S5 ((-100) - x9) (S5.2 62 j12) (S5.2 62 j13))) (fun S14 =>
       l_X12_comesTo_33 x4 k33 m33 S14 (x5_5 + (-1)) (x5_7 + 1))))))))) else (k33 S5 x5_5 x5_7))
def f_X12_comesTo (S : FS) (za : Int32) (zb : Int32) (zc : Int32) (zd : Int32) : Option (Int32 × FS) :=
  if za < 0 then (some (1, S)) else (fb (f_X12_setNames S zb zc zd) (fun r3 =>
  fv ((510 + (65 * za)) + 5) (fun x4 =>
  l_X12_comesTo_33 x4 (fun S25 x25_5 x25_7 =>
  some (S25.2 62 0, S25)) FU r3.2 0 x4)))

def l_X12_ageDay_19 (k19 : FS → Int32 → Option (Int32 × FS)) : Nat → FS → Int32 → Option (Int32 × FS)
  | 0, _, _ => none
  | m19 + 1, S3, x3_1 => if 2000 < x3_1 then (k19 S3 x3_1) else (fb (q_X12_inForce S3 3 x3_1 (S3.2 55 8)) (fun x6 =>
     fb (f_X12_comesTo S3 x6 0 (-1) x3_1) (fun r8 =>
     if r8.1 = 0 then (l_X12_ageDay_19 k19 m19 r8.2 (x3_1 + 1)) else (some (x3_1, r8.2)))))
def f_X12_ageDay (S : FS) : Option (Int32 × FS) :=
  if (S.2 55 2) = 0 then (some ((-1), S)) else (fv (S.2 55 8) (fun x2 =>
  l_X12_ageDay_19 (fun S10 x10_1 =>
  some ((-1), S10)) FU S x2))

def f_X12_after (S : FS) (za : Int32) : Option (Int32 × FS) :=
  if (p_X12_isPower S za) = 0 then (fb (f_X12_finds S 1) (fun r16 =>
  some (r16.1, r16.2))) else (fb (f_X12_ageDay S) (fun r3 =>
  if r3.1 < 0 then (fb (f_X12_finds r3.2 2) (fun r14 =>
   some (r14.1, r14.2))) else (fb (q_X12_inForce r3.2 4 r3.1 (r3.2.2 55 8)) (fun x6 =>
   fb (q_X12_its r3.2 za 1) (fun x8 =>
   fb (f_X12_comesTo r3.2 x6 x8 (-1) r3.1) (fun r10 =>
   if r10.1 = 0 then (some (r10.1, r10.2)) else (if r10.1 = 1 then (some (r10.1, r10.2)) else (some (2, r10.2)))))))))

def f_X12_age (S : FS) : Option (Int32 × FS) :=
  fb (f_X12_ageDay S) (fun r2 =>
 if r2.1 < 0 then (fb (f_X12_finds r2.2 2) (fun r5 =>
  some (r5.1, r5.2))) else (some (r2.1, r2.2)))

def p_X12_isUnder (S : FS) (za : Int32) (zb : Int32) : Int32 :=
  if zb = 0 then (1) else (if za = zb then (1) else (if zb = 1 then (if za = 3 then (1) else (if za = 4 then (1) else (if zb = 3 then (0) else (0)))) else (if zb = 3 then (if za = 4 then (1) else (0)) else (0))))
theorem pb_X12_isUnder {S : FS} {za : Int32} {zb : Int32} : p_X12_isUnder S za zb = 0 ∨ p_X12_isUnder S za zb = 1 := by
  unfold p_X12_isUnder
  try simp only [fv]
  repeat' split
  all_goals first | exact Or.inl rfl | exact Or.inr rfl | decide

def f_X12_as (S : FS) (za : Int32) (zb : Int32) : Option (Int32 × FS) :=
  if (p_X12_isPower S za) = 0 then (fb (f_X12_finds S 1) (fun r3 =>
  some (r3.1, r3.2))) else (if (p_X12_in S zb 0 5) = 0 then (fb (f_X12_finds S 1) (fun r13 =>
   some (r13.1, r13.2))) else (fb (q_X12_its S za 0) (fun x6 =>
   if (p_X12_isUnder S x6 zb) = 0 then (fb (f_X12_finds S 5) (fun r9 =>
    some (r9.1, r9.2))) else (fb (q_X12_its S za 4) (fun x11 =>
    some (x11, S))))))

def f_X12_bindsPower (S : FS) (za : Int32) (zb : Int32) : Option (Int32 × FS) :=
  fb (f_X12_ran S 11) (fun r2 =>
 fb (f_X12_actsOf r2.2 za zb) (fun r4 =>
 some (r4.1 * 2, r4.2)))

def f_X12_bindsOf (S : FS) (za : Int32) (zb : Int32) : Option (Int32 × FS) :=
  fb (q_X12_its S za 0) (fun x2 =>
 if x2 = 3 then (fb (f_X12_ran S 40) (fun r5 =>
  fb (f_X12_bindsPower r5.2 za zb) (fun r7 =>
  fb (f_X12_actsOf r7.2 za zb) (fun r9 =>
  some (r7.1 - r9.1, r9.2))))) else (if x2 = 4 then (fb (f_X12_ran S 40) (fun r21 =>
   fb (f_X12_bindsPower r21.2 za zb) (fun r23 =>
   fb (f_X12_actsOf r23.2 za zb) (fun r25 =>
   some (r23.1 - r25.1, r25.2))))) else (if x2 = 5 then (fb (f_X12_ran S 60) (fun r13 =>
    fb (f_X12_bindsPower r13.2 za zb) (fun r15 =>
    fb (q_X12_its r15.2 za 4) (fun x17 =>
    some (r15.1 + x17, r15.2))))) else (fb (f_X12_bindsPower S za zb) (fun r19 =>
    some (r19.1, r19.2))))))

def q_X12_promised (S : FS) (za : Int32) (zb : Int32) : Option Int32 :=
  fb (ix 2071 ((1806 + (6 * za)) + zb)) (fun j1 =>
 some (S.2 55 j1))

def q_X12_stands (S : FS) (za : Int32) : Option Int32 :=
  fb (q_X12_promised S za 4) (fun x2 =>
 if x2 = 0 then (fb (q_X12_promised S za 5) (fun x5 =>
  if x5 = 0 then (fb (q_X12_promised S za 2) (fun x8 =>
   if x8 < (S.2 55 8) then (some 0) else (some 1))) else (some 0))) else (some 0))

def f_X12_breaks (S : FS) (za : Int32) : Option (Int32 × FS) :=
  if (p_X12_in S za 0 ((S.2 55 7) - 1)) = 0 then (fb (f_X12_finds S 1) (fun r10 =>
  some (r10.1, r10.2))) else (fb (q_X12_stands S za) (fun x3 =>
  if x3 = 0 then (fb (f_X12_finds S 3) (fun r8 =>
   some (r8.1, r8.2))) else (fb (ix 2071 ((1806 + (6 * za)) + 4)) (fun j5 =>
   fl (wA S 55 j5 1) (fun S6 =>
   some (1, S6))))))

def l_X12_weigh_11 (k11 : FS → Int32 → Int32 → Option (Int32 × FS)) : Nat → FS → Int32 → Int32 → Option (Int32 × FS)
  | 0, _, _, _ => none
  | m11 + 1, S2, x2_2, x2_3 => if x2_3 < 0 then (k11 S2 x2_2 x2_3) else (fb (q_X12_man S2 x2_3 11) (fun x5 =>
    if x5 = 1 then (l_X12_weigh_11 k11 m11 S2 x2_3 (x2_3 + (-1))) else (l_X12_weigh_11 k11 m11 S2 x2_2 (x2_3 + (-1)))))
def l_X12_weigh_84 (x9_4 : Int32) (k84 : FS → Int32 → Int32 → Option (Int32 × FS)) : Nat → FS → Int32 → Int32 → Option (Int32 × FS)
  | 0, _, _, _ => none
  | m84 + 1, S11, x11_5, x11_6 => if x11_6 < (S11.2 55 3) then (fb (q_X12_its S11 x11_6 1) (fun x14 =>
         if x14 = x9_4 then (fb (q_X12_its S11 x11_6 0) (fun x18 =>
          if (p_X12_isUnder S11 x18 1) = 0 then (fv (x11_5 + 0) (fun x20 =>
           l_X12_weigh_84 x9_4 k84 m84 S11 x20 (x11_6 + 1))) else (fv (x11_5 + 1) (fun x21 =>
           l_X12_weigh_84 x9_4 k84 m84 S11 x21 (x11_6 + 1))))) else (fv (x11_5 + 0) (fun x16 =>
          l_X12_weigh_84 x9_4 k84 m84 S11 x16 (x11_6 + 1))))) else (k84 S11 x11_5 x11_6)
def l_X12_weigh_67 (v8_3 : Int32) (k67 : FS → Int32 → Option (Int32 × FS)) : Nat → FS → Int32 → Option (Int32 × FS)
  | 0, _, _ => none
  | m67 + 1, S9, x9_4 => if x9_4 < (S9.2 55 2) then (l_X12_weigh_84 x9_4 (fun S22 x22_5 x22_6 =>
      fb (q_X12_man S22 x9_4 11) (fun x24 =>
      if x24 = 0 then (fb (ix 20 x9_4) (fun j26 =>
       fl (wA S22 64 j26 0) (fun S27 =>
       fl (wA S27 65 j26 0) (fun S28 =>
       l_X12_weigh_67 v8_3 k67 m67 S28 (x9_4 + 1))))) else (fb (f_X12_comesTo S22 v8_3 x9_4 (-1) (S22.2 55 8)) (fun r30 =>
       if r30.1 = 0 then (fb (ix 20 x9_4) (fun j35 =>
        fl (wA r30.2 64 j35 0) (fun S36 =>
        fl (wA S36 65 j35 0) (fun S37 =>
        l_X12_weigh_67 v8_3 k67 m67 S37 (x9_4 + 1))))) else (fb (ix 20 x9_4) (fun j32 =>
        fl (wA r30.2 64 j32 x22_5) (fun S33 =>
        fl (wA S33 65 j32 0) (fun S34 =>
        l_X12_weigh_67 v8_3 k67 m67 S34 (x9_4 + 1))))))))) FU S9 1 0) else (k67 S9 x9_4)
def l_X12_weigh_196 (za : Int32) (k196 : FS → Int32 → Option (Int32 × FS)) : Nat → FS → Int32 → Option (Int32 × FS)
  | 0, _, _ => none
  | m196 + 1, S39, x39_4 => if x39_4 < (S39.2 55 7) then (fb (q_X12_promised S39 x39_4 1) (fun x42 =>
      if x42 = za then (fb (q_X12_stands S39 x39_4) (fun x45 =>
       if x45 = 0 then (l_X12_weigh_196 za k196 m196 S39 (x39_4 + 1)) else (fb (q_X12_promised S39 x39_4 0) (fun x48 =>
        fb (q_X12_promised S39 x39_4 3) (fun x50 =>
        if x50 = 1 then (fb (ix 20 x48) (fun j54 =>
         fl (wA S39 65 j54 1) (fun S55 =>
         l_X12_weigh_196 za k196 m196 S55 (x39_4 + 1)))) else (fb (ix 20 x48) (fun j52 =>
         fl (wA S39 65 j52 (-1)) (fun S53 =>
         l_X12_weigh_196 za k196 m196 S53 (x39_4 + 1))))))))) else (l_X12_weigh_196 za k196 m196 S39 (x39_4 + 1)))) else (k196 S39 x39_4)
def j_X12_weigh_64 (za : Int32) (S8 : FS) (v8_3 : Int32) : Option (Int32 × FS) :=
  l_X12_weigh_67 v8_3 (fun S38 x38_4 =>
   l_X12_weigh_196 za (fun S56 x56_4 =>
   some (0, S56)) FU S38 0) FU S8 0
def f_X12_weigh (S : FS) (za : Int32) : Option (Int32 × FS) :=
  fv ((S.2 55 2) - 1) (fun x1 =>
 l_X12_weigh_11 (fun S7 x7_2 x7_3 =>
 if x7_2 < 0 then (j_X12_weigh_64 za S7 (-1)) else (fb (f_X12_knownTo S7 x7_2) (fun r59 =>
  fb (q_X12_inForce r59.2 0 (S7.2 55 8) r59.1) (fun x61 =>
  j_X12_weigh_64 za r59.2 x61)))) FU S (-1) x1)

def l_X12_weightOf_4 (za : Int32) (S : FS) (k4 : Int32 → Int32 → Option Int32) : Nat → Int32 → Int32 → Option Int32
  | 0, _, _ => none
  | m4 + 1, x1_2, x1_3 => if x1_3 < (S.2 55 2) then (if za = 0 then (fb (ix 20 x1_3) (fun j6 =>
     if (S.2 65 j6) = 1 then (fv (x1_2 + (S.2 64 j6)) (fun x9 =>
      l_X12_weightOf_4 za S k4 m4  x9 (x1_3 + 1))) else (fv (x1_2 + 0) (fun x8 =>
      l_X12_weightOf_4 za S k4 m4  x8 (x1_3 + 1))))) else (fb (ix 20 x1_3) (fun j4 =>
     fv (x1_2 + (S.2 64 j4)) (fun x5 =>
     l_X12_weightOf_4 za S k4 m4  x5 (x1_3 + 1))))) else (k4  x1_2 x1_3)
def q_X12_weightOf (S : FS) (za : Int32) : Option Int32 :=
  l_X12_weightOf_4 za S (fun  x10_2 x10_3 =>
 some x10_2) FU  0 0

def l_X12_buying_40 (k40 : FS → Int32 → Int32 → (Nat → Int32) → Option (Int32 × FS)) : Nat → FS → Int32 → Int32 → (Nat → Int32) → Option (Int32 × FS)
  | 0, _, _, _, _ => none
  | m40 + 1, S8, x8_4, x8_5, w8_0 => if x8_5 < (S8.2 55 2) then (fb (q_X12_man S8 x8_5 11) (fun x11 =>
      if x11 = 0 then (l_X12_buying_40 k40 m40 S8 x8_4 (x8_5 + 1) w8_0) else (fb (ix 20 x8_5) (fun j13 =>
       if (S8.2 65 j13) = 1 then (l_X12_buying_40 k40 m40 S8 x8_4 (x8_5 + 1) w8_0) else (fb (ix 9 x8_4) (fun j15 =>
        fw (upd w8_0 j15 x8_5) (fun w16 =>
        l_X12_buying_40 k40 m40 S8 (x8_4 + 1) (x8_5 + 1) w16))))))) else (k40 S8 x8_4 x8_5 w8_0)
def l_X12_buying_136 (x17_4 : Int32) (w17_0 : Nat → Int32) (x22_9 : Int32) (k136 : FS → Int32 → Int32 → Int32 → Int32 → Option (Int32 × FS)) : Nat → FS → Int32 → Int32 → Int32 → Int32 → Option (Int32 × FS)
  | 0, _, _, _, _, _ => none
  | m136 + 1, S24, x24_10, x24_11, x24_12, x24_13 => if x24_13 < x17_4 then (if ((x22_9 >>> (x24_13 &&& 31)) &&& 1) = 0 then (l_X12_buying_136 x17_4 w17_0 x22_9 k136 m136 S24 x24_10 x24_11 x24_12 (x24_13 + 1)) else (fb (ix 9 x24_13) (fun j27 =>
          fb (ix 20 (w17_0 j27)) (fun j28 =>
          fv (x24_10 + (S24.2 64 j28)) (fun x29 =>
          fb (q_X12_man S24 (w17_0 j27) 12) (fun x31 =>
          fv (x24_11 + x31) (fun x32 =>
          fv (x24_12 ||| ((1 : Int32) <<< ((w17_0 j27) &&& 31))) (fun x33 =>
          l_X12_buying_136 x17_4 w17_0 x22_9 k136 m136 S24 x29 x32 x33 (x24_13 + 1))))))))) else (k136 S24 x24_10 x24_11 x24_12 x24_13)
def l_X12_buying_114 (x17_4 : Int32) (w17_0 : Nat → Int32) (x19 : Int32) (x21 : Int32) (k114 : FS → Int32 → Int32 → Int32 → Option (Int32 × FS)) : Nat → FS → Int32 → Int32 → Int32 → Option (Int32 × FS)
  | 0, _, _, _, _ => none
  | m114 + 1, S22, x22_7, x22_8, x22_9 => if x22_9 < ((1 : Int32) <<< (x17_4 &&& 31)) then (l_X12_buying_136 x17_4 w17_0 x22_9 (fun S34 x34_10 x34_11 x34_12 x34_13 =>
      if x21 < (2 * x34_10) then (if x22_7 < 0 then (l_X12_buying_114 x17_4 w17_0 x19 x21 k114 m114 S34 x34_12 x34_11 (x22_9 + 1)) else (if x22_8 < x34_11 then (l_X12_buying_114 x17_4 w17_0 x19 x21 k114 m114 S34 x22_7 x22_8 (x22_9 + 1)) else (if x34_11 = x22_8 then (fb (q_X12_bits S34 x34_12) (fun x40 =>
          fb (q_X12_bits S34 x22_7) (fun x42 =>
          if x42 < x40 then (l_X12_buying_114 x17_4 w17_0 x19 x21 k114 m114 S34 x22_7 x22_8 (x22_9 + 1)) else (fb (q_X12_bits S34 x34_12) (fun x45 =>
           fb (q_X12_bits S34 x22_7) (fun x47 =>
           if x45 = x47 then (if x34_12 < x22_7 then (l_X12_buying_114 x17_4 w17_0 x19 x21 k114 m114 S34 x34_12 x34_11 (x22_9 + 1)) else (l_X12_buying_114 x17_4 w17_0 x19 x21 k114 m114 S34 x22_7 x22_8 (x22_9 + 1))) else (l_X12_buying_114 x17_4 w17_0 x19 x21 k114 m114 S34 x34_12 x34_11 (x22_9 + 1)))))))) else (l_X12_buying_114 x17_4 w17_0 x19 x21 k114 m114 S34 x34_12 x34_11 (x22_9 + 1))))) else (l_X12_buying_114 x17_4 w17_0 x19 x21 k114 m114 S34 x22_7 x22_8 (x22_9 + 1))) FU S22 x19 0 0 0) else (k114 S22 x22_7 x22_8 x22_9)
def f_X12_buying (S : FS) (za : Int32) (zb : Int32) : Option (Int32 × FS) :=
  if (p_X12_in S za 0 5) = 0 then (fb (f_X12_finds S 1) (fun r3 =>
  some (r3.1, r3.2))) else (if (p_X12_in S zb 0 1) = 0 then (fb (f_X12_finds S 1) (fun r56 =>
   some (r56.1, r56.2))) else (fb (f_X12_weigh S za) (fun r6 =>
   fw (fun _ => 0) (fun w7 =>
   l_X12_buying_40 (fun S17 x17_4 x17_5 w17_0 =>
   fb (q_X12_weightOf S17 0) (fun x19 =>
   fb (q_X12_weightOf S17 1) (fun x21 =>
   l_X12_buying_114 x17_4 w17_0 x19 x21 (fun S50 x50_7 x50_8 x50_9 =>
   if x50_7 < 0 then (fb (f_X12_finds S50 2) (fun r54 =>
    some (r54.1, r54.2))) else (if zb = 0 then (some (x50_8, S50)) else (some (x50_7, S50)))) FU S17 (-1) 0 0))) FU r6.2 0 0 w7))))

def q_X12_byteAt (S : FS) (za : Int32) : Option Int32 :=
  if za < (S.2 55 10) then (fb (ix 2071 (1991 + za)) (fun j2 =>
  some (S.2 55 j2))) else (some (-1))

def p_X12_isTaken (S : FS) (za : Int32) (zb : Int32) : Int32 :=
  if (p_X12_in S zb 0 4) = 0 then (0) else (if ((za >>> (zb &&& 31)) &&& 1) = 1 then (1) else (0))
theorem pb_X12_isTaken {S : FS} {za : Int32} {zb : Int32} : p_X12_isTaken S za zb = 0 ∨ p_X12_isTaken S za zb = 1 := by
  unfold p_X12_isTaken
  try simp only [fv]
  repeat' split
  all_goals first | exact Or.inl rfl | exact Or.inr rfl | decide | exact pb_X12_in

def q_X12_canTake (S : FS) (za : Int32) (zb : Int32) (zc : Int32) : Option Int32 :=
  if (p_X12_isTaken S za zc) = 0 then (if zc = 0 then (fb (ix 5 zc) (fun j3 =>
   if (S.2 66 j3) < zb then (some 1) else (some 0))) else (if (p_X12_isTaken S za (zc - 1)) = 0 then (if (p_X12_isTaken S za (zc + 1)) = 0 then (some 0) else (fb (ix 5 zc) (fun j9 =>
     if (S.2 66 j9) < zb then (some 1) else (some 0)))) else (fb (ix 5 zc) (fun j6 =>
    if (S.2 66 j6) < zb then (some 1) else (some 0))))) else (some 0)

def p_X12_isLaw (S : FS) (za : Int32) : Int32 :=
  p_X12_in S za 0 ((S.2 55 4) - 1)
theorem pb_X12_isLaw {S : FS} {za : Int32} : p_X12_isLaw S za = 0 ∨ p_X12_isLaw S za = 1 := by
  unfold p_X12_isLaw
  try simp only [fv]
  repeat' split
  all_goals first | exact Or.inl rfl | exact Or.inr rfl | decide | exact pb_X12_in

def f_X12_cannot (S : FS) (za : Int32) : Option (Int32 × FS) :=
  fb (q_X12_of S za 4) (fun x2 =>
 fb (q_X12_of S za 2) (fun x4 =>
 fb (q_X12_of S za 1) (fun x6 =>
 if x6 = 0 then (if (S.2 55 9) < x4 then (some (1, S)) else (some (0, S))) else if x6 = 1 then (fb (q_X12_man S x2 4) (fun x11 =>
  if x11 < 0 then (some (1, S)) else (fb (q_X12_man S x2 4) (fun x14 =>
   fb (nz (S.2 55 0)) (fun u16 =>
   fb (f_X12_farOf S x14 (x4 - x4 / (S.2 55 0) * (S.2 55 0))) (fun r18 =>
   if r18.1 < 0 then (some (1, r18.2)) else (some (0, r18.2)))))))) else if x6 = 2 then (if (p_X12_isPower S x4) = 0 then (some (1, S)) else (some (0, S))) else if x6 = 3 then (if (p_X12_isLaw S x4) = 0 then (some (1, S)) else (fb (ix 2071 ((510 + (65 * x4)) + 3)) (fun j24 =>
   if (S.2 55 j24) < 0 then (some (0, S)) else (some (1, S))))) else (some (0, S)))))

def l_X12_cause_31 (za : Int32) (k31 : FS → Int32 → Option (Int32 × FS)) : Nat → FS → Int32 → Option (Int32 × FS)
  | 0, _, _ => none
  | m31 + 1, S15, x15_3 => if x15_3 < (S15.2 55 7) then (fb (q_X12_promised S15 x15_3 1) (fun x18 =>
       if x18 = za then (fb (q_X12_promised S15 x15_3 3) (fun x21 =>
        if x21 = 1 then (fb (q_X12_promised S15 x15_3 4) (fun x24 =>
         if x24 = 1 then (some (x15_3, S15)) else (l_X12_cause_31 za k31 m31 S15 (x15_3 + 1)))) else (l_X12_cause_31 za k31 m31 S15 (x15_3 + 1)))) else (l_X12_cause_31 za k31 m31 S15 (x15_3 + 1)))) else (k31 S15 x15_3)
def f_X12_cause (S : FS) (za : Int32) (zb : Int32) : Option (Int32 × FS) :=
  if (p_X12_in S za 0 5) = 0 then (fb (f_X12_finds S 1) (fun r3 =>
  some (r3.1, r3.2))) else (if (p_X12_in S zb 0 3) = 0 then (fb (f_X12_finds S 1) (fun r28 =>
   some (r28.1, r28.2))) else (if zb = 3 then (l_X12_cause_31 za (fun S26 x26_3 =>
    some ((-1), S26)) FU S 0) else (fb (f_X12_weigh S za) (fun r7 =>
    fb (q_X12_weightOf r7.2 0) (fun x9 =>
    fb (q_X12_weightOf r7.2 1) (fun x11 =>
    if zb = 0 then (some (x9, r7.2)) else (if zb = 1 then (some (x11, r7.2)) else (if x11 < (2 * x9) then (some (1, r7.2)) else (some (0, r7.2))))))))))

def l_X12_check_18 (x1 : Int32) (k18 : FS → Int32 → Option (Int32 × FS)) : Nat → FS → Int32 → Option (Int32 × FS)
  | 0, _, _ => none
  | m18 + 1, S3, x3_2 => if x3_2 < x1 then (if x3_2 < (S3.2 55 2) then (fb (ix 2071 (2051 + x3_2)) (fun j9 =>
     fb (q_X12_man S3 x3_2 7) (fun x11 =>
     if (S3.2 55 j9) = x11 then (l_X12_check_18 x1 k18 m18 S3 (x3_2 + 1)) else (some (1 + x3_2, S3))))) else (if x3_2 = (S3.2 55 2) then (fb (ix 2071 (2051 + x3_2)) (fun j7 =>
      if (S3.2 55 j7) = (S3.2 55 9) then (l_X12_check_18 x1 k18 m18 S3 (x3_2 + 1)) else (some (1 + x3_2, S3)))) else (some (1 + x3_2, S3)))) else (k18 S3 x3_2)
def f_X12_check (S : FS) : Option (Int32 × FS) :=
  fv (S.2 55 11) (fun x1 =>
 fl (wA S 55 11 0) (fun S2 =>
 l_X12_check_18 x1 (fun S13 x13_2 =>
 some (0, S13)) FU S2 0))

def f_X12_makes (S : FS) (za : Int32) (zb : Int32) (zc : Int32) : Option (Int32 × FS) :=
  fb (ix 2071 ((390 + (6 * za)) + zb)) (fun j1 =>
 fl (wA S 55 j1 zc) (fun S2 =>
 some (0, S2)))

def f_X12_comesBack (S : FS) (za : Int32) : Option (Int32 × FS) :=
  fb (f_X12_makes S za 2 (-1)) (fun r2 =>
 fb (f_X12_makes r2.2 za 3 (-1)) (fun r4 =>
 some (0, r4.2)))

def q_X12_whoHas (S : FS) (za : Int32) : Option Int32 :=
  fb (q_X12_its S za 2) (fun x2 =>
 if x2 < 0 then (fb (q_X12_its S za 1) (fun x5 =>
  some x5)) else (fb (q_X12_its S za 2) (fun x7 =>
  some x7)))

def f_X12_newPower (S : FS) (za : Int32) (zb : Int32) (zc : Int32) (zd : Int32) : Option (Int32 × FS) :=
  fv (S.2 55 3) (fun x1 =>
 fl (wA S 55 3 ((S.2 55 3) + 1)) (fun S2 =>
 fb (f_X12_makes S2 x1 0 za) (fun r4 =>
 fb (f_X12_makes r4.2 x1 1 zb) (fun r6 =>
 fb (f_X12_makes r6.2 x1 4 zc) (fun r8 =>
 if zd < 0 then (fb (f_X12_makes r8.2 x1 5 x1) (fun r15 =>
  fb (f_X12_comesBack r15.2 x1) (fun r17 =>
  some (x1, r17.2)))) else (fb (f_X12_makes r8.2 x1 5 zd) (fun r11 =>
  fb (f_X12_comesBack r11.2 x1) (fun r13 =>
  some (x1, r13.2)))))))))

def f_X12_copy (S : FS) (za : Int32) : Option (Int32 × FS) :=
  if (p_X12_isPower S za) = 0 then (fb (f_X12_finds S 1) (fun r22 =>
  some (r22.1, r22.2))) else (fb (q_X12_its S za 0) (fun x3 =>
  if x3 = 2 then (fb (q_X12_whoHas S za) (fun x6 =>
   if x6 < 0 then (fb (f_X12_finds S 3) (fun r18 =>
    some (r18.1, r18.2))) else (if (S.2 55 3) = 20 then (fb (f_X12_finds S 4) (fun r16 =>
     some (r16.1, r16.2))) else (fb (q_X12_whoHas S za) (fun x10 =>
     fb (q_X12_its S za 5) (fun x12 =>
     fb (f_X12_newPower S 2 x10 0 x12) (fun r14 =>
     some (r14.1, r14.2)))))))) else (fb (f_X12_finds S 5) (fun r20 =>
   some (r20.1, r20.2)))))

def l_X12_seatedMany_4 (S : FS) (k4 : Int32 → Int32 → Option Int32) : Nat → Int32 → Int32 → Option Int32
  | 0, _, _ => none
  | m4 + 1, x1_1, x1_2 => if x1_2 < (S.2 55 2) then (fb (q_X12_man S x1_2 11) (fun x4 =>
    fv (x1_1 + x4) (fun x5 =>
    l_X12_seatedMany_4 S k4 m4  x5 (x1_2 + 1)))) else (k4  x1_1 x1_2)
def q_X12_seatedMany (S : FS) : Option Int32 :=
  l_X12_seatedMany_4 S (fun  x6_1 x6_2 =>
 some x6_1) FU  0 0

def l_X12_count_107 (k107 : FS → Int32 → Int32 → Option (Int32 × FS)) : Nat → FS → Int32 → Int32 → Option (Int32 × FS)
  | 0, _, _, _ => none
  | m107 + 1, S29, x29_2, x29_3 => if x29_3 < (S29.2 55 2) then (fb (q_X12_man S29 x29_3 7) (fun x32 =>
     fv (x29_2 + x32) (fun x33 =>
     l_X12_count_107 k107 m107 S29 x33 (x29_3 + 1)))) else (k107 S29 x29_2 x29_3)
def l_X12_count_137 (k137 : FS → Int32 → Int32 → Option (Int32 × FS)) : Nat → FS → Int32 → Int32 → Option (Int32 × FS)
  | 0, _, _, _ => none
  | m137 + 1, S36, x36_2, x36_3 => if x36_3 < (S36.2 55 5) then (fb (q_X12_of S36 x36_3 4) (fun x39 =>
     if x39 < 0 then (fv (x36_2 + 0) (fun x41 =>
      l_X12_count_137 k137 m137 S36 x41 (x36_3 + 1))) else (fb (q_X12_of S36 x36_3 5) (fun x43 =>
      if (S36.2 55 8) < x43 then (fv (x36_2 + 1) (fun x46 =>
       l_X12_count_137 k137 m137 S36 x46 (x36_3 + 1))) else (fv (x36_2 + 0) (fun x45 =>
       l_X12_count_137 k137 m137 S36 x45 (x36_3 + 1))))))) else (k137 S36 x36_2 x36_3)
def f_X12_count (S : FS) (za : Int32) : Option (Int32 × FS) :=
  if za = 0 then (fb (ix 2071 za) (fun j2 =>
  some (S.2 55 j2, S))) else if za = 1 then (fb (ix 2071 za) (fun j4 =>
  some (S.2 55 j4, S))) else if za = 2 then (fb (ix 2071 za) (fun j6 =>
  some (S.2 55 j6, S))) else if za = 3 then (fb (ix 2071 za) (fun j8 =>
  some (S.2 55 j8, S))) else if za = 4 then (fb (ix 2071 za) (fun j10 =>
  some (S.2 55 j10, S))) else if za = 5 then (fb (ix 2071 za) (fun j12 =>
  some (S.2 55 j12, S))) else if za = 6 then (fb (ix 2071 za) (fun j14 =>
  some (S.2 55 j14, S))) else if za = 7 then (fb (ix 2071 za) (fun j16 =>
  some (S.2 55 j16, S))) else if za = 8 then (fb (ix 2071 za) (fun j18 =>
  some (S.2 55 j18, S))) else if za = 9 then (fb (ix 2071 za) (fun j20 =>
  some (S.2 55 j20, S))) else if za = 10 then (fb (ix 2071 za) (fun j22 =>
  some (S.2 55 j22, S))) else if za = 11 then (fb (q_X12_seatedMany S) (fun x25 =>
  some (x25, S))) else if za = 12 then (some (S.1 22, S)) else if za = 13 then (some (S.2 55 11, S)) else if za = 14 then (l_X12_count_107 (fun S34 x34_2 x34_3 =>
  some (x34_2, S34)) FU S 0 0) else if za = 15 then (l_X12_count_137 (fun S47 x47_2 x47_3 =>
  some (x47_2, S47)) FU S 0 0) else (fb (f_X12_finds S 1) (fun r49 =>
 some (r49.1, r49.2)))

def f_X12_sets (S : FS) (za : Int32) (zb : Int32) (zc : Int32) : Option (Int32 × FS) :=
  fb (ix 2071 ((110 + (14 * za)) + zb)) (fun j1 =>
 fl (wA S 55 j1 zc) (fun S2 =>
 some (0, S2)))

def l_X12_quarter_2 (k2 : FS → Int32 → Option (Int32 × FS)) : Nat → FS → Int32 → Option (Int32 × FS)
  | 0, _, _ => none
  | m2 + 1, S1, x1_1 => if x1_1 < (S1.2 55 0) then (fv (20 + (3 * x1_1)) (fun x3 =>
    fb (ix 2071 (x3 + 1)) (fun j4 =>
    fv (S1.2 55 j4) (fun x5 =>
    fb (ix 2071 (x3 + 2)) (fun j6 =>
    if (S1.2 55 j6) = 1 then (l_X12_quarter_2 k2 m2 S1 (x1_1 + 1)) else (if x5 < 0 then (fb (ix 2071 x3) (fun j9 =>
      fl (wA S1 55 9 ((S1.2 55 9) + (S1.2 55 j9))) (fun S10 =>
      l_X12_quarter_2 k2 m2 S10 (x1_1 + 1)))) else (fb (q_X12_lives S1 x5) (fun x12 =>
      if x12 = 0 then (fb (ix 2071 x3) (fun j14 =>
       fl (wA S1 55 9 ((S1.2 55 9) + (S1.2 55 j14))) (fun S15 =>
       l_X12_quarter_2 k2 m2 S15 (x1_1 + 1)))) else (fb (q_X12_man S1 x5 7) (fun x17 =>
       fb (ix 2071 x3) (fun j18 =>
       fb (f_X12_sets S1 x5 7 (x17 + (S1.2 55 j18))) (fun r20 =>
       l_X12_quarter_2 k2 m2 r20.2 (x1_1 + 1))))))))))))) else (k2 S1 x1_1)
def l_X12_quarter_103 (k103 : FS → Int32 → Option (Int32 × FS)) : Nat → FS → Int32 → Option (Int32 × FS)
  | 0, _, _ => none
  | m103 + 1, S22, x22_1 => if x22_1 < (S22.2 55 2) then (fb (q_X12_man S22 x22_1 7) (fun x25 =>
    fb (q_X12_man S22 x22_1 8) (fun x27 =>
    if x25 < x27 then (fb (q_X12_man S22 x22_1 7) (fun x38 =>
     fb (q_X12_man S22 x22_1 7) (fun x40 =>
     fb (f_X12_sets S22 x22_1 7 (x40 - x38)) (fun r42 =>
     fb (f_X12_sets r42.2 x22_1 8 x38) (fun r44 =>
     l_X12_quarter_103 k103 m103 r44.2 (x22_1 + 1)))))) else (fb (q_X12_man S22 x22_1 8) (fun x30 =>
     fb (q_X12_man S22 x22_1 7) (fun x32 =>
     fb (f_X12_sets S22 x22_1 7 (x32 - x30)) (fun r34 =>
     fb (f_X12_sets r34.2 x22_1 8 x30) (fun r36 =>
     l_X12_quarter_103 k103 m103 r36.2 (x22_1 + 1))))))))) else (k103 S22 x22_1)
def l_X12_quarter_180 (k180 : FS → Int32 → Option (Int32 × FS)) : Nat → FS → Int32 → Option (Int32 × FS)
  | 0, _, _ => none
  | m180 + 1, S46, x46_1 => if x46_1 < (S46.2 55 6) then (fv (1770 + (6 * x46_1)) (fun x48 =>
    fb (ix 2071 x48) (fun j49 =>
    fb (ix 2071 (x48 + 1)) (fun j50 =>
    fv ((S46.2 55 j49) + (((S46.2 55 j49) * (S46.2 55 j50)) / 100)) (fun x51 =>
    if x51 < 999999 then (fl (wA S46 55 j49 x51) (fun S76 =>
     fb (ix 2071 (x48 + 2)) (fun j77 =>
     if (S76.2 55 j49) < (S76.2 55 j77) then (fv (S76.2 55 j49) (fun x89 =>
      if (S76.2 55 9) < x89 then (fb (ix 2071 (x48 + 3)) (fun j91 =>
       fl (wA S76 55 j91 ((S76.2 55 j91) + 1)) (fun S92 =>
       if (S92.2 55 j91) = 2 then (fb (ix 2071 (x48 + 4)) (fun j94 =>
        fb (ix 2071 ((20 + (3 * (S92.2 55 j94))) + 2)) (fun j95 =>
        fl (wA S92 55 j95 1) (fun S96 =>
        l_X12_quarter_180 k180 m180 S96 (x46_1 + 1))))) else (l_X12_quarter_180 k180 m180 S92 (x46_1 + 1))))) else (fl (wA S76 55 9 ((S76.2 55 9) - x89)) (fun S97 =>
       fl (wA S97 55 j49 ((S97.2 55 j49) - x89)) (fun S98 =>
       l_X12_quarter_180 k180 m180 S98 (x46_1 + 1)))))) else (fv (S76.2 55 j77) (fun x79 =>
      if (S76.2 55 9) < x79 then (fb (ix 2071 (x48 + 3)) (fun j81 =>
       fl (wA S76 55 j81 ((S76.2 55 j81) + 1)) (fun S82 =>
       if (S82.2 55 j81) = 2 then (fb (ix 2071 (x48 + 4)) (fun j84 =>
        fb (ix 2071 ((20 + (3 * (S82.2 55 j84))) + 2)) (fun j85 =>
        fl (wA S82 55 j85 1) (fun S86 =>
        l_X12_quarter_180 k180 m180 S86 (x46_1 + 1))))) else (l_X12_quarter_180 k180 m180 S82 (x46_1 + 1))))) else (fl (wA S76 55 9 ((S76.2 55 9) - x79)) (fun S87 =>
       fl (wA S87 55 j49 ((S87.2 55 j49) - x79)) (fun S88 =>
       l_X12_quarter_180 k180 m180 S88 (x46_1 + 1))))))))) else (fl (wA S46 55 j49 999999) (fun S53 =>
     fb (ix 2071 (x48 + 2)) (fun j54 =>
     if (S53.2 55 j49) < (S53.2 55 j54) then (fv (S53.2 55 j49) (fun x66 =>
      if (S53.2 55 9) < x66 then (fb (ix 2071 (x48 + 3)) (fun j68 =>
       fl (wA S53 55 j68 ((S53.2 55 j68) + 1)) (fun S69 =>
       if (S69.2 55 j68) = 2 then (fb (ix 2071 (x48 + 4)) (fun j71 =>
        fb (ix 2071 ((20 + (3 * (S69.2 55 j71))) + 2)) (fun j72 =>
        fl (wA S69 55 j72 1) (fun S73 =>
        l_X12_quarter_180 k180 m180 S73 (x46_1 + 1))))) else (l_X12_quarter_180 k180 m180 S69 (x46_1 + 1))))) else (fl (wA S53 55 9 ((S53.2 55 9) - x66)) (fun S74 =>
       fl (wA S74 55 j49 ((S74.2 55 j49) - x66)) (fun S75 =>
       l_X12_quarter_180 k180 m180 S75 (x46_1 + 1)))))) else (fv (S53.2 55 j54) (fun x56 =>
      if (S53.2 55 9) < x56 then (fb (ix 2071 (x48 + 3)) (fun j58 =>
       fl (wA S53 55 j58 ((S53.2 55 j58) + 1)) (fun S59 =>
       if (S59.2 55 j58) = 2 then (fb (ix 2071 (x48 + 4)) (fun j61 =>
        fb (ix 2071 ((20 + (3 * (S59.2 55 j61))) + 2)) (fun j62 =>
        fl (wA S59 55 j62 1) (fun S63 =>
        l_X12_quarter_180 k180 m180 S63 (x46_1 + 1))))) else (l_X12_quarter_180 k180 m180 S59 (x46_1 + 1))))) else (fl (wA S53 55 9 ((S53.2 55 9) - x56)) (fun S64 =>
       fl (wA S64 55 j49 ((S64.2 55 j49) - x56)) (fun S65 =>
       l_X12_quarter_180 k180 m180 S65 (x46_1 + 1)))))))))))))) else (k180 S46 x46_1)
def f_X12_quarter (S : FS) : Option (Int32 × FS) :=
  l_X12_quarter_2 (fun S21 x21_1 =>
 l_X12_quarter_103 (fun S45 x45_1 =>
 l_X12_quarter_180 (fun S99 x99_1 =>
 some (0, S99)) FU S45 0) FU S21 0) FU S 0

def l_X12_days_52 (k52 : FS → Int32 → Option (Int32 × FS)) : Nat → FS → Int32 → Option (Int32 × FS)
  | 0, _, _ => none
  | m52 + 1, S8, x8_3 => if x8_3 < (S8.2 55 2) then (fb (q_X12_lives S8 x8_3) (fun x11 =>
         if x11 = 0 then (l_X12_days_52 k52 m52 S8 (x8_3 + 1)) else (fb (q_X12_man S8 x8_3 4) (fun x14 =>
          if x14 < 0 then (fb (q_X12_man S8 x8_3 6) (fun x17 =>
           if x17 = (S8.2 55 8) then (fb (q_X12_man S8 x8_3 5) (fun x20 =>
            fb (f_X12_sets S8 x8_3 4 x20) (fun r22 =>
            l_X12_days_52 k52 m52 r22.2 (x8_3 + 1)))) else (l_X12_days_52 k52 m52 S8 (x8_3 + 1)))) else (l_X12_days_52 k52 m52 S8 (x8_3 + 1)))))) else (k52 S8 x8_3)
def l_X12_days_116 (k116 : FS → Int32 → Option (Int32 × FS)) : Nat → FS → Int32 → Option (Int32 × FS)
  | 0, _, _ => none
  | m116 + 1, S24, x24_3 => if x24_3 < (S24.2 55 3) then (fb (q_X12_its S24 x24_3 2) (fun x27 =>
         if x27 < 0 then (l_X12_days_116 k116 m116 S24 (x24_3 + 1)) else (fb (q_X12_its S24 x24_3 3) (fun x30 =>
          if x30 < (S24.2 55 8) then (fb (f_X12_comesBack S24 x24_3) (fun r33 =>
           l_X12_days_116 k116 m116 r33.2 (x24_3 + 1))) else (l_X12_days_116 k116 m116 S24 (x24_3 + 1)))))) else (k116 S24 x24_3)
def l_X12_days_34 (za : Int32) (k34 : FS → Int32 → Option (Int32 × FS)) : Nat → FS → Int32 → Option (Int32 × FS)
  | 0, _, _ => none
  | m34 + 1, S5, x5_2 => if x5_2 < za then (fl (wA S5 55 8 ((S5.2 55 8) + 1)) (fun S7 =>
      l_X12_days_52 (fun S23 x23_3 =>
      l_X12_days_116 (fun S34 x34_3 =>
      if ((S34.2 55 8) - (S34.2 55 8) / 90 * 90) = 0 then (fb (f_X12_quarter S34) (fun r37 =>
       l_X12_days_34 za k34 m34 r37.2 (x5_2 + 1))) else (l_X12_days_34 za k34 m34 S34 (x5_2 + 1))) FU S23 0) FU S7 0)) else (k34 S5 x5_2)
def f_X12_days (S : FS) (za : Int32) : Option (Int32 × FS) :=
  if (p_X12_in S za 1 400) = 0 then (fb (f_X12_finds S 1) (fun r3 =>
  some (r3.1, r3.2))) else (if 2000 < ((S.2 55 8) + za) then (fb (f_X12_finds S 1) (fun r40 =>
   some (r40.1, r40.2))) else (l_X12_days_34 za (fun S38 x38_2 =>
   some (S38.2 55 8, S38)) FU S 0))

def p_X12_isTown (S : FS) (za : Int32) : Int32 :=
  p_X12_in S za 0 ((S.2 55 0) - 1)
theorem pb_X12_isTown {S : FS} {za : Int32} : p_X12_isTown S za = 0 ∨ p_X12_isTown S za = 1 := by
  unfold p_X12_isTown
  try simp only [fv]
  repeat' split
  all_goals first | exact Or.inl rfl | exact Or.inr rfl | decide | exact pb_X12_in

def f_X12_debt (S : FS) (za : Int32) (zb : Int32) (zc : Int32) : Option (Int32 × FS) :=
  if (p_X12_in S za 0 99999) = 0 then (fb (f_X12_finds S 1) (fun r3 =>
  some (r3.1, r3.2))) else (if zb < 0 then (fb (f_X12_finds S 1) (fun r6 =>
   some (r6.1, r6.2))) else (if (p_X12_in S (zb / 10000) 0 99) = 0 then (fb (f_X12_finds S 1) (fun r9 =>
    some (r9.1, r9.2))) else (if (p_X12_in S (zb - zb / 10000 * 10000) 1 9999) = 0 then (fb (f_X12_finds S 1) (fun r12 =>
     some (r12.1, r12.2))) else (if (p_X12_isTown S zc) = 0 then (fb (f_X12_finds S 1) (fun r31 =>
      some (r31.1, r31.2))) else (fv (S.2 55 6) (fun x14 =>
      if x14 = 6 then (fb (f_X12_finds S 4) (fun r29 =>
       some (r29.1, r29.2))) else (fl (wA S 55 6 ((S.2 55 6) + 1)) (fun S16 =>
       fb (ix 2071 (1770 + (6 * x14))) (fun j17 =>
       fl (wA S16 55 j17 za) (fun S18 =>
       fb (ix 2071 ((1770 + (6 * x14)) + 1)) (fun j19 =>
       fl (wA S18 55 j19 (zb / 10000)) (fun S20 =>
       fb (ix 2071 ((1770 + (6 * x14)) + 2)) (fun j21 =>
       fl (wA S20 55 j21 (zb - zb / 10000 * 10000)) (fun S22 =>
       fb (ix 2071 ((1770 + (6 * x14)) + 3)) (fun j23 =>
       fl (wA S22 55 j23 0) (fun S24 =>
       fb (ix 2071 ((1770 + (6 * x14)) + 4)) (fun j25 =>
       fl (wA S24 55 j25 zc) (fun S26 =>
       fl (wA S26 55 9 ((S26.2 55 9) + za)) (fun S27 =>
       some (x14, S27))))))))))))))))))))

def l_X12_leaves_10 (za : Int32) (k10 : FS → Int32 → Option (Int32 × FS)) : Nat → FS → Int32 → Option (Int32 × FS)
  | 0, _, _ => none
  | m10 + 1, S3, x3_2 => if x3_2 < (S3.2 55 7) then (fb (q_X12_promised S3 x3_2 0) (fun x6 =>
    if x6 = za then (fb (ix 2071 ((1806 + (6 * x3_2)) + 5)) (fun j8 =>
     fl (wA S3 55 j8 1) (fun S9 =>
     l_X12_leaves_10 za k10 m10 S9 (x3_2 + 1)))) else (l_X12_leaves_10 za k10 m10 S3 (x3_2 + 1)))) else (k10 S3 x3_2)
def f_X12_leaves (S : FS) (za : Int32) : Option (Int32 × FS) :=
  fb (f_X12_sets S za 11 0) (fun r2 =>
 l_X12_leaves_10 za (fun S10 x10_2 =>
 some (0, S10)) FU r2.2 0)

def l_X12_die_107 (za : Int32) (k107 : FS → Int32 → Option (Int32 × FS)) : Nat → FS → Int32 → Option (Int32 × FS)
  | 0, _, _ => none
  | m107 + 1, S19, x19_3 => if x19_3 < (S19.2 55 3) then (fb (q_X12_its S19 x19_3 1) (fun x22 =>
        if x22 = za then (fb (f_X12_makes S19 x19_3 1 (-1)) (fun r30 =>
         fb (f_X12_comesBack r30.2 x19_3) (fun r32 =>
         l_X12_die_107 za k107 m107 r32.2 (x19_3 + 1)))) else (fb (q_X12_its S19 x19_3 2) (fun x25 =>
         if x25 = za then (fb (f_X12_comesBack S19 x19_3) (fun r28 =>
          l_X12_die_107 za k107 m107 r28.2 (x19_3 + 1))) else (l_X12_die_107 za k107 m107 S19 (x19_3 + 1)))))) else (k107 S19 x19_3)
def j_X12_die_105 (za : Int32) (x6 : Int32) (S18 : FS) : Option (Int32 × FS) :=
  l_X12_die_107 za (fun S33 x33_3 =>
     some (x6, S33)) FU S18 0
def f_X12_die (S : FS) (za : Int32) : Option (Int32 × FS) :=
  if (p_X12_isPerson S za) = 0 then (fb (f_X12_finds S 1) (fun r42 =>
  some (r42.1, r42.2))) else (fb (q_X12_lives S za) (fun x3 =>
  if x3 = 0 then (fb (f_X12_finds S 3) (fun r40 =>
   some (r40.1, r40.2))) else (fb (q_X12_man S za 7) (fun x6 =>
   fb (f_X12_knownTo S za) (fun r8 =>
   fb (f_X12_sets r8.2 za 10 r8.1) (fun r10 =>
   fb (f_X12_sets r10.2 za 9 (r10.2.2 55 8)) (fun r12 =>
   fb (f_X12_sets r12.2 za 7 0) (fun r14 =>
   fb (f_X12_sets r14.2 za 8 0) (fun r16 =>
   fl (wA r16.2 55 9 ((r16.2.2 55 9) + x6)) (fun S17 =>
   fb (q_X12_man S17 za 11) (fun x35 =>
   if x35 = 1 then (fb (f_X12_leaves S17 za) (fun r38 =>
    j_X12_die_105 za x6 r38.2)) else (j_X12_die_105 za x6 S17))))))))))))

def f_X12_writes (S : FS) (za : Int32) (zb : Int32) (zc : Int32) : Option (Int32 × FS) :=
  fb (ix 2071 ((1290 + (12 * za)) + zb)) (fun j1 =>
 fl (wA S 55 j1 zc) (fun S2 =>
 some (0, S2)))

def l_X12_thoseIn_4 (za : Int32) (S : FS) (k4 : Int32 → Int32 → Option Int32) : Nat → Int32 → Int32 → Option Int32
  | 0, _, _ => none
  | m4 + 1, x1_2, x1_3 => if x1_3 < (S.2 55 2) then (fb (q_X12_lives S x1_3) (fun x4 =>
    if x4 = 0 then (fv (x1_2 ||| 0) (fun x6 =>
     l_X12_thoseIn_4 za S k4 m4  x6 (x1_3 + 1))) else (fb (q_X12_man S x1_3 4) (fun x8 =>
     if x8 = za then (fv (x1_2 ||| ((1 : Int32) <<< (x1_3 &&& 31))) (fun x11 =>
      l_X12_thoseIn_4 za S k4 m4  x11 (x1_3 + 1))) else (fv (x1_2 ||| 0) (fun x10 =>
      l_X12_thoseIn_4 za S k4 m4  x10 (x1_3 + 1))))))) else (k4  x1_2 x1_3)
def q_X12_thoseIn (S : FS) (za : Int32) : Option Int32 :=
  l_X12_thoseIn_4 za S (fun  x12_2 x12_3 =>
 some x12_2) FU  0 0

def l_X12_draw_91 (x16 : Int32) (k91 : FS → Int32 → Option (Int32 × FS)) : Nat → FS → Int32 → Option (Int32 × FS)
  | 0, _, _ => none
  | m91 + 1, S19, x19_5 => if x19_5 < 12 then (if x19_5 = 4 then (fb (f_X12_writes S19 x16 x19_5 (-1)) (fun r23 =>
           l_X12_draw_91 x16 k91 m91 r23.2 (x19_5 + 1))) else (if x19_5 = 5 then (fb (f_X12_writes S19 x16 x19_5 (-1)) (fun r26 =>
            l_X12_draw_91 x16 k91 m91 r26.2 (x19_5 + 1))) else (if x19_5 = 6 then (fb (f_X12_writes S19 x16 x19_5 (-1)) (fun r29 =>
             l_X12_draw_91 x16 k91 m91 r29.2 (x19_5 + 1))) else (if x19_5 = 7 then (fb (f_X12_writes S19 x16 x19_5 (-1)) (fun r34 =>
              l_X12_draw_91 x16 k91 m91 r34.2 (x19_5 + 1))) else (fb (f_X12_writes S19 x16 x19_5 0) (fun r32 =>
              l_X12_draw_91 x16 k91 m91 r32.2 (x19_5 + 1))))))) else (k91 S19 x19_5)
def f_X12_draw (S : FS) (za : Int32) (zb : Int32) (zc : Int32) : Option (Int32 × FS) :=
  if (p_X12_isPerson S za) = 0 then (fb (f_X12_finds S 1) (fun r3 =>
  some (r3.1, r3.2))) else (if (p_X12_in S zb 0 4) = 0 then (fb (f_X12_finds S 1) (fun r6 =>
   some (r6.1, r6.2))) else (if (p_X12_in S zc 0 999) = 0 then (fb (f_X12_finds S 1) (fun r57 =>
    some (r57.1, r57.2))) else (fb (q_X12_lives S za) (fun x9 =>
    if x9 = 0 then (fb (f_X12_finds S 3) (fun r12 =>
     some (r12.1, r12.2))) else (fb (q_X12_man S za 4) (fun x14 =>
     if x14 < 0 then (fb (f_X12_finds S 3) (fun r55 =>
      some (r55.1, r55.2))) else (fv (S.2 55 5) (fun x16 =>
      if x16 = 40 then (fb (f_X12_finds S 4) (fun r53 =>
       some (r53.1, r53.2))) else (fl (wA S 55 5 ((S.2 55 5) + 1)) (fun S18 =>
       l_X12_draw_91 x16 (fun S35 x35_5 =>
       fb (f_X12_writes S35 x16 0 za) (fun r37 =>
       fb (f_X12_writes r37.2 x16 1 zb) (fun r39 =>
       fb (f_X12_writes r39.2 x16 2 zc) (fun r41 =>
       fb (q_X12_man r41.2 za 4) (fun x43 =>
       fb (f_X12_writes r41.2 x16 10 x43) (fun r45 =>
       fb (q_X12_man r45.2 za 4) (fun x47 =>
       fb (q_X12_thoseIn r45.2 x47) (fun x49 =>
       fb (f_X12_writes r45.2 x16 9 x49) (fun r51 =>
       some (x16, r51.2)))))))))) FU S18 0))))))))))

def f_X12_far (S : FS) (za : Int32) (zb : Int32) : Option (Int32 × FS) :=
  if (p_X12_isTown S za) = 0 then (fb (f_X12_finds S 1) (fun r3 =>
  some (r3.1, r3.2))) else (if (p_X12_isTown S zb) = 0 then (fb (f_X12_finds S 1) (fun r11 =>
   some (r11.1, r11.2))) else (fb (f_X12_farOf S za zb) (fun r6 =>
   if r6.1 < 0 then (fb (f_X12_finds r6.2 2) (fun r9 =>
    some (r9.1, r9.2))) else (some (r6.1, r6.2)))))

def l_X12_feed_39 (za : Int64) (zb : Int32) (k39 : FS → Int32 → Option (Int32 × FS)) : Nat → FS → Int32 → Option (Int32 × FS)
  | 0, _, _ => none
  | m39 + 1, S3, x3_4 => if x3_4 < zb then (fb (ix 2071 (1991 + (S3.2 55 10))) (fun j5 =>
      fl (wA S3 55 j5 (((za >>> ((8 * x3_4 : Int32).toInt64 &&& 63)) &&& 255).toInt32)) (fun S6 =>
      fl (wA S6 55 10 ((S6.2 55 10) + 1)) (fun S7 =>
      l_X12_feed_39 za zb k39 m39 S7 (x3_4 + 1))))) else (k39 S3 x3_4)
def f_X12_feed (S : FS) (za : Int64) (zb : Int32) : Option (Int32 × FS) :=
  if (p_X12_in S zb 1 8) = 0 then (fb (f_X12_finds S 1) (fun r12 =>
  some (r12.1, r12.2))) else (if 60 < ((S.2 55 10) + zb) then (fb (f_X12_finds S 4) (fun r10 =>
   some (r10.1, r10.2))) else (l_X12_feed_39 za zb (fun S8 x8_4 =>
   some (S8.2 55 10, S8)) FU S 0))

def p_X12_isDay (S : FS) (za : Int32) : Int32 :=
  p_X12_in S za 0 2000
theorem pb_X12_isDay {S : FS} {za : Int32} : p_X12_isDay S za = 0 ∨ p_X12_isDay S za = 1 := by
  unfold p_X12_isDay
  try simp only [fv]
  repeat' split
  all_goals first | exact Or.inl rfl | exact Or.inr rfl | decide | exact pb_X12_in

def f_X12_force (S : FS) (za : Int32) (zb : Int32) (zc : Int32) : Option (Int32 × FS) :=
  if (p_X12_in S za 0 4) = 0 then (fb (f_X12_finds S 1) (fun r3 =>
  some (r3.1, r3.2))) else (if (p_X12_isDay S zb) = 0 then (fb (f_X12_finds S 1) (fun r6 =>
   some (r6.1, r6.2))) else (if (p_X12_in S zc (-1) 2000) = 0 then (fb (f_X12_finds S 1) (fun r14 =>
    some (r14.1, r14.2))) else (fb (q_X12_inForce S za zb zc) (fun x9 =>
    if x9 < 0 then (fb (f_X12_finds S 2) (fun r12 =>
     some (r12.1, r12.2))) else (some (x9, S))))))

def f_X12_found (S : FS) (za : Int32) : Option (Int32 × FS) :=
  if (p_X12_in S za 1 5) = 0 then (fb (f_X12_finds S 1) (fun r3 =>
  some (r3.1, r3.2))) else (fb (ix 6 za) (fun j4 =>
  some (S.2 57 j4, S)))

def f_X12_give (S : FS) (za : Int32) (zb : Int32) : Option (Int32 × FS) :=
  if (p_X12_isPower S za) = 0 then (fb (f_X12_finds S 1) (fun r3 =>
  some (r3.1, r3.2))) else (if zb = (-1) then (fb (q_X12_its S za 2) (fun x6 =>
   if x6 < 0 then (fb (q_X12_its S za 1) (fun x9 =>
    fb (f_X12_makes S za 1 zb) (fun r11 =>
    some (x9, r11.2)))) else (fb (f_X12_finds S 3) (fun r13 =>
    some (r13.1, r13.2))))) else (if (p_X12_isPerson S zb) = 0 then (fb (f_X12_finds S 1) (fun r16 =>
    some (r16.1, r16.2))) else (fb (q_X12_lives S zb) (fun x18 =>
    if x18 = 0 then (fb (f_X12_finds S 1) (fun r30 =>
     some (r30.1, r30.2))) else (fb (q_X12_its S za 2) (fun x21 =>
     if x21 < 0 then (fb (q_X12_its S za 1) (fun x24 =>
      fb (f_X12_makes S za 1 zb) (fun r26 =>
      some (x24, r26.2)))) else (fb (f_X12_finds S 3) (fun r28 =>
      some (r28.1, r28.2)))))))))

def f_X12_goes (S : FS) (za : Int32) (zb : Int32) : Option (Int32 × FS) :=
  fb (q_X12_man S za 4) (fun x2 =>
 fb (f_X12_farOf S x2 zb) (fun r4 =>
 if r4.1 < 0 then (some ((-1), r4.2)) else (if 0 < r4.1 then (fb (f_X12_knownTo r4.2 za) (fun r8 =>
   fb (f_X12_sets r8.2 za 10 r8.1) (fun r10 =>
   fb (f_X12_sets r10.2 za 4 (-1)) (fun r12 =>
   fb (f_X12_sets r12.2 za 5 zb) (fun r14 =>
   fb (f_X12_sets r14.2 za 6 ((r14.2.2 55 8) + r4.1)) (fun r16 =>
   some ((r16.2.2 55 8) + r4.1, r16.2))))))) else (some ((r4.2.2 55 8) + r4.1, r4.2)))))

def f_X12_go (S : FS) (za : Int32) (zb : Int32) : Option (Int32 × FS) :=
  if (p_X12_isPerson S za) = 0 then (fb (f_X12_finds S 1) (fun r3 =>
  some (r3.1, r3.2))) else (if (p_X12_isTown S zb) = 0 then (fb (f_X12_finds S 1) (fun r21 =>
   some (r21.1, r21.2))) else (fb (q_X12_lives S za) (fun x6 =>
   if x6 = 0 then (fb (f_X12_finds S 3) (fun r9 =>
    some (r9.1, r9.2))) else (fb (q_X12_man S za 4) (fun x11 =>
    if x11 < 0 then (fb (f_X12_finds S 3) (fun r19 =>
     some (r19.1, r19.2))) else (fb (f_X12_goes S za zb) (fun r14 =>
     if r14.1 < 0 then (fb (f_X12_finds r14.2 2) (fun r17 =>
      some (r17.1, r17.2))) else (some (r14.1, r14.2)))))))))

def f_X12_guard (S : FS) (za : Int32) (zb : Int32) : Option (Int32 × FS) :=
  if (p_X12_in S za 0 4) = 0 then (fb (f_X12_finds S 1) (fun r3 =>
  some (r3.1, r3.2))) else (if (p_X12_in S zb 0 6) = 0 then (fb (f_X12_finds S 1) (fun r9 =>
   some (r9.1, r9.2))) else (fb (ix 2071 (1986 + za)) (fun j5 =>
   fv (S.2 55 j5) (fun x6 =>
   fl (wA S 55 j5 zb) (fun S7 =>
   some (x6, S7))))))

def l_X12_hasOpen_2 (S : FS) (k2 : Int32 → Option Int32) : Nat → Int32 → Option Int32
  | 0, _ => none
  | m2 + 1, x1_1 => if x1_1 < (S.1 11) then (fb (ix 60 x1_1) (fun j3 =>
    if (S.2 61 j3) = 40 then (some 1) else (l_X12_hasOpen_2 S k2 m2  (x1_1 + 1)))) else (k2  x1_1)
def q_X12_hasOpen (S : FS) : Option Int32 :=
  l_X12_hasOpen_2 S (fun  x5_1 =>
 some 0) FU  0

def l_X12_heir_107 (x6_6 : Int32) (r9 : Int32 × FS) (k107 : FS → Int32 → (Nat → Int32) → (Nat → Int32) → Option (Int32 × FS)) : Nat → FS → Int32 → (Nat → Int32) → (Nat → Int32) → Option (Int32 × FS)
  | 0, _, _, _, _ => none
  | m107 + 1, S17, x17_8, w17_0, w17_1 => if 0 < x17_8 then (fb (ix 20 (x17_8 - 1)) (fun j19 =>
           if r9.1 < (w17_1 j19) then (fb (ix 20 x17_8) (fun j21 =>
            fw (upd w17_0 j21 (w17_0 j19)) (fun w22 =>
            fw (upd w17_1 j21 (w17_1 j19)) (fun w23 =>
            l_X12_heir_107 x6_6 r9 k107 m107 S17 (x17_8 + (-1)) w22 w23)))) else (if (w17_1 j19) = r9.1 then (fb (q_X12_man S17 (w17_0 j19) 1) (fun x26 =>
             fb (q_X12_man S17 x6_6 1) (fun x28 =>
             if x28 < x26 then (fb (ix 20 x17_8) (fun j30 =>
              fw (upd w17_0 j30 (w17_0 j19)) (fun w31 =>
              fw (upd w17_1 j30 (w17_1 j19)) (fun w32 =>
              l_X12_heir_107 x6_6 r9 k107 m107 S17 (x17_8 + (-1)) w31 w32)))) else (k107 S17 x17_8 w17_0 w17_1)))) else (k107 S17 x17_8 w17_0 w17_1)))) else (k107 S17 x17_8 w17_0 w17_1)
def l_X12_heir_47 (x3 : Int32) (k47 : FS → Int32 → Int32 → (Nat → Int32) → (Nat → Int32) → Option (Int32 × FS)) : Nat → FS → Int32 → Int32 → (Nat → Int32) → (Nat → Int32) → Option (Int32 × FS)
  | 0, _, _, _, _, _ => none
  | m47 + 1, S6, x6_5, x6_6, w6_0, w6_1 => if x6_6 < (S6.2 55 2) then (fb (f_X12_stepsOf S6 x6_6) (fun r9 =>
     fb (q_X12_lives r9.2 x6_6) (fun x11 =>
     if x11 = 0 then (l_X12_heir_47 x3 k47 m47 r9.2 x6_5 (x6_6 + 1) w6_0 w6_1) else (if r9.1 = 99 then (l_X12_heir_47 x3 k47 m47 r9.2 x6_5 (x6_6 + 1) w6_0 w6_1) else (fb (f_X12_comesTo r9.2 x3 x6_6 (-1) (r9.2.2 55 8)) (fun r15 =>
       if r15.1 = 0 then (l_X12_heir_47 x3 k47 m47 r15.2 x6_5 (x6_6 + 1) w6_0 w6_1) else (l_X12_heir_107 x6_6 r9 (fun S33 x33_8 w33_0 w33_1 =>
        fb (ix 20 x33_8) (fun j34 =>
        fw (upd w33_0 j34 x6_6) (fun w35 =>
        fw (upd w33_1 j34 r9.1) (fun w36 =>
        l_X12_heir_47 x3 k47 m47 S33 (x6_5 + 1) (x6_6 + 1) w35 w36)))) FU r15.2 x6_5 w6_0 w6_1))))))) else (k47 S6 x6_5 x6_6 w6_0 w6_1)
def f_X12_heir (S : FS) (za : Int32) : Option (Int32 × FS) :=
  if za < 0 then (fb (f_X12_finds S 1) (fun r43 =>
  some (r43.1, r43.2))) else (fb (q_X12_inForce S 2 (S.2 55 8) (S.2 55 8)) (fun x3 =>
  fw (fun _ => 0) (fun w4 =>
  fw (fun _ => 0) (fun w5 =>
  l_X12_heir_47 x3 (fun S37 x37_5 x37_6 w37_0 w37_1 =>
  if za < x37_5 then (fb (ix 20 za) (fun j41 =>
   some (w37_0 j41, S37))) else (fb (f_X12_finds S37 2) (fun r40 =>
   some (r40.1, r40.2)))) FU S 0 1 w4 w5))))

def f_X12_held (S : FS) (za : Int32) (zb : Int32) : Option (Int32 × FS) :=
  if (p_X12_isPower S za) = 0 then (fb (f_X12_finds S 1) (fun r23 =>
  some (r23.1, r23.2))) else (if zb = 0 then (fb (q_X12_its S za 0) (fun x4 =>
   some (x4, S))) else if zb = 1 then (fb (q_X12_its S za 1) (fun x7 =>
   some (x7, S))) else if zb = 2 then (fb (q_X12_whoHas S za) (fun x10 =>
   some (x10, S))) else if zb = 3 then (fb (q_X12_its S za 0) (fun x13 =>
   if x13 = 2 then (fb (q_X12_its S za 5) (fun x16 =>
    some (x16, S))) else (some ((-1), S)))) else if zb = 4 then (fb (q_X12_its S za 3) (fun x19 =>
   some (x19, S))) else (fb (f_X12_finds S 1) (fun r21 =>
  some (r21.1, r21.2))))

def l_X12_image_2 (k2 : FS → Int32 → Option (Int32 × FS)) : Nat → FS → Int32 → Option (Int32 × FS)
  | 0, _, _ => none
  | m2 + 1, S1, x1_1 => if x1_1 < 2071 then (fb (ix 2071 x1_1) (fun j3 =>
    fl (wA S1 56 j3 (S1.2 55 j3)) (fun S4 =>
    l_X12_image_2 k2 m2 S4 (x1_1 + 1)))) else (k2 S1 x1_1)
def f_X12_image (S : FS) : Option (Int32 × FS) :=
  l_X12_image_2 (fun S5 x5_1 =>
 fl (wI S5 3 ((S5.1 3) + 1)) (fun S6 =>
 some (S6.1 3, S6))) FU S 0

def p_X12_isDigit (S : FS) (za : Int32) : Int32 :=
  if za < 48 then (0) else (if 57 < za then (0) else (1))
theorem pb_X12_isDigit {S : FS} {za : Int32} : p_X12_isDigit S za = 0 ∨ p_X12_isDigit S za = 1 := by
  unfold p_X12_isDigit
  try simp only [fv]
  repeat' split
  all_goals first | exact Or.inl rfl | exact Or.inr rfl | decide

def p_X12_isLetter (S : FS) (za : Int32) : Int32 :=
  p_X12_in S za 0 ((S.2 55 5) - 1)
theorem pb_X12_isLetter {S : FS} {za : Int32} : p_X12_isLetter S za = 0 ∨ p_X12_isLetter S za = 1 := by
  unfold p_X12_isLetter
  try simp only [fv]
  repeat' split
  all_goals first | exact Or.inl rfl | exact Or.inr rfl | decide | exact pb_X12_in

def q_X12_isParent (S : FS) (za : Int32) (zb : Int32) (zc : Int32) : Option Int32 :=
  if za = (-1) then (some 1) else (if (p_X12_isPerson S za) = 0 then (some 0) else (fb (q_X12_man S za 0) (fun x4 =>
   if x4 = zb then (fb (q_X12_man S za 1) (fun x7 =>
    if x7 < zc then (some 1) else (some 0))) else (some 0))))

def p_X12_isSheet (S : FS) (za : Int32) : Int32 :=
  p_X12_in S za 0 3
theorem pb_X12_isSheet {S : FS} {za : Int32} : p_X12_isSheet S za = 0 ∨ p_X12_isSheet S za = 1 := by
  unfold p_X12_isSheet
  try simp only [fv]
  repeat' split
  all_goals first | exact Or.inl rfl | exact Or.inr rfl | decide | exact pb_X12_in

def p_X12_rankOf (S : FS) (za : Int32) : Int32 :=
  if za = 124 then (1) else (if za = 38 then (2) else (if za = 60 then (3) else (if za = 61 then (3) else (if za = 62 then (3) else (if za = 43 then (4) else (if za = 45 then (4) else (if za = 33 then (5) else (0))))))))

def l_X12_isTested_7 (S : FS) (k7 : Int32 → Option Int32) : Nat → Int32 → Option Int32
  | 0, _ => none
  | m7 + 1, x2_1 => if x2_1 < 0 then (k7  x2_1) else (fb (ix 60 x2_1) (fun j4 =>
    if 3 < (p_X12_rankOf S (S.2 61 j4)) then (l_X12_isTested_7 S k7 m7  (x2_1 + (-1))) else (k7  x2_1)))
def q_X12_isTested (S : FS) : Option Int32 :=
  fv ((S.1 11) - 1) (fun x1 =>
 l_X12_isTested_7 S (fun  x6_1 =>
 if x6_1 < 0 then (some 0) else (fb (ix 60 x6_1) (fun j8 =>
  if (p_X12_rankOf S (S.2 61 j8)) = 3 then (some 1) else (some 0)))) FU  x1)

def f_X12_lays (S : FS) (za : Int32) : Option (Int32 × FS) :=
  fb (ix 60 (S.1 10)) (fun j1 =>
 fl (wA S 60 j1 za) (fun S2 =>
 fl (wI S2 10 ((S2.1 10) + 1)) (fun S3 =>
 some (0, S3))))

def l_X12_settles_0 (za : Int32) (k0 : FS → Option (Int32 × FS)) : Nat → FS → Option (Int32 × FS)
  | 0, _ => none
  | m0 + 1, S1 => if 0 < (S1.1 11) then (fb (ix 60 ((S1.1 11) - 1)) (fun j3 =>
    if (p_X12_rankOf S1 (S1.2 61 j3)) < za then (k0 S1) else (fl (wI S1 11 ((S1.1 11) - 1)) (fun S5 =>
     fb (ix 60 (S5.1 11)) (fun j6 =>
     fb (f_X12_lays S5 ((-100) - (S5.2 61 j6))) (fun r8 =>
     l_X12_settles_0 za k0 m0 r8.2)))))) else (k0 S1)
def f_X12_settles (S : FS) (za : Int32) : Option (Int32 × FS) :=
  l_X12_settles_0 za (fun S9 =>
 some (0, S9)) FU S

def l_X12_openMany_4 (S : FS) (k4 : Int32 → Int32 → Option Int32) : Nat → Int32 → Int32 → Option Int32
  | 0, _, _ => none
  | m4 + 1, x1_1, x1_2 => if x1_2 < (S.1 11) then (fb (ix 60 x1_2) (fun j3 =>
    if (S.2 61 j3) = 33 then (fv (x1_1 + 1) (fun x5 =>
     l_X12_openMany_4 S k4 m4  x5 (x1_2 + 1))) else (if (S.2 61 j3) = 40 then (fv (x1_1 + 1) (fun x8 =>
      l_X12_openMany_4 S k4 m4  x8 (x1_2 + 1))) else (fv (x1_1 + 0) (fun x7 =>
      l_X12_openMany_4 S k4 m4  x7 (x1_2 + 1)))))) else (k4  x1_1 x1_2)
def q_X12_openMany (S : FS) : Option Int32 :=
  l_X12_openMany_4 S (fun  x9_1 x9_2 =>
 some x9_1) FU  0 0

def p_X12_nameOf (S : FS) (za : Int32) : Int32 :=
  if za = 97 then (1) else if za = 98 then (7) else if za = 99 then (4) else if za = 100 then (11) else if za = 101 then (0) else if za = 102 then (0) else if za = 103 then (0) else if za = 104 then (0) else if za = 105 then (0) else if za = 106 then (0) else if za = 107 then (3) else if za = 108 then (0) else if za = 109 then (5) else if za = 110 then (0) else if za = 111 then (9) else if za = 112 then (0) else if za = 113 then (0) else if za = 114 then (0) else if za = 115 then (2) else if za = 116 then (6) else if za = 117 then (0) else if za = 118 then (0) else if za = 119 then (10) else if za = 120 then (0) else if za = 121 then (8) else (0)

def l_X12_readsOne_98 (x13 : Int32) (k98 : FS → Int32 → Option (Int32 × FS)) : Nat → FS → Int32 → Option (Int32 × FS)
  | 0, _, _ => none
  | m98 + 1, S14, x14_2 => fb (q_X12_byteAt S14 (S14.1 12)) (fun x16 =>
      if (p_X12_isDigit S14 x16) = 0 then (k98 S14 x14_2) else (if ((S14.1 12) - x13) < 4 then (fb (q_X12_byteAt S14 (S14.1 12)) (fun x20 =>
        fv (((10 * x14_2) + x20) - 48) (fun x21 =>
        fl (wI S14 12 ((S14.1 12) + 1)) (fun S22 =>
        l_X12_readsOne_98 x13 k98 m98 S22 x21)))) else (k98 S14 x14_2)))
def f_X12_readsOne (S : FS) : Option (Int32 × FS) :=
  fb (q_X12_byteAt S (S.1 12)) (fun x2 =>
 if x2 = 33 then (fb (q_X12_openMany S) (fun x5 =>
  if x5 = 5 then (some (0, S)) else (fb (ix 60 (S.1 11)) (fun j7 =>
   fl (wA S 61 j7 x2) (fun S8 =>
   fl (wI S8 11 ((S8.1 11) + 1)) (fun S9 =>
   fl (wI S9 12 ((S9.1 12) + 1)) (fun S10 =>
   some (2, S10)))))))) else (if x2 = 40 then (fb (q_X12_openMany S) (fun x34 =>
   if x34 = 5 then (some (0, S)) else (fb (ix 60 (S.1 11)) (fun j36 =>
    fl (wA S 61 j36 x2) (fun S37 =>
    fl (wI S37 11 ((S37.1 11) + 1)) (fun S38 =>
    fl (wI S38 12 ((S38.1 12) + 1)) (fun S39 =>
    some (2, S39)))))))) else (if 0 < (p_X12_nameOf S x2) then (fb (f_X12_lays S (-(p_X12_nameOf S x2))) (fun r31 =>
    fl (wI r31.2 12 ((r31.2.1 12) + 1)) (fun S32 =>
    some (1, S32)))) else (fv (S.1 12) (fun x13 =>
    l_X12_readsOne_98 x13 (fun S23 x23_2 =>
    fb (f_X12_lays S23 x23_2) (fun r25 =>
    if x13 < (r25.2.1 12) then (fb (q_X12_byteAt r25.2 (r25.2.1 12)) (fun x28 =>
     if (p_X12_isDigit r25.2 x28) = 0 then (some (1, r25.2)) else (some (0, r25.2)))) else (some (0, r25.2)))) FU S 0)))))

def l_X12_reads_17 : Nat → FS → Int32 → Option (Int32 × FS)
  | 0, _, _ => none
  | m17 + 1, S4, x4_1 => fb (q_X12_byteAt S4 (S4.1 12)) (fun x6 =>
   if x4_1 = 0 then (if x6 < 0 then (fb (q_X12_hasOpen S4) (fun x58 =>
     if x58 = 0 then (fb (f_X12_settles S4 1) (fun r61 =>
      some (1, r61.2))) else (some (0, S4)))) else (if x6 = 41 then (fb (q_X12_hasOpen S4) (fun x30 =>
      if x30 = 0 then (fv (p_X12_rankOf S4 x6) (fun x32 =>
       if x32 = 0 then (some (0, S4)) else (if x32 = 5 then (some (0, S4)) else (if x32 = 3 then (fb (q_X12_isTested S4) (fun x43 =>
          if x43 = 0 then (fb (f_X12_settles S4 x32) (fun r46 =>
           fb (ix 60 (r46.2.1 11)) (fun j47 =>
           fl (wA r46.2 61 j47 x6) (fun S48 =>
           fl (wI S48 11 ((S48.1 11) + 1)) (fun S49 =>
           fl (wI S49 12 ((S49.1 12) + 1)) (fun S50 =>
           l_X12_reads_17 m17 S50 1)))))) else (some (0, S4)))) else (fb (f_X12_settles S4 x32) (fun r37 =>
          fb (ix 60 (r37.2.1 11)) (fun j38 =>
          fl (wA r37.2 61 j38 x6) (fun S39 =>
          fl (wI S39 11 ((S39.1 11) + 1)) (fun S40 =>
          fl (wI S40 12 ((S40.1 12) + 1)) (fun S41 =>
          l_X12_reads_17 m17 S41 1)))))))))) else (fb (f_X12_settles S4 1) (fun r52 =>
       fl (wI r52.2 11 ((r52.2.1 11) - 1)) (fun S53 =>
       fl (wI S53 12 ((S53.1 12) + 1)) (fun S54 =>
       fb (f_X12_settles S54 5) (fun r56 =>
       l_X12_reads_17 m17 r56.2 x4_1))))))) else (fv (p_X12_rankOf S4 x6) (fun x10 =>
      if x10 = 0 then (some (0, S4)) else (if x10 = 5 then (some (0, S4)) else (if x10 = 3 then (fb (q_X12_isTested S4) (fun x21 =>
         if x21 = 0 then (fb (f_X12_settles S4 x10) (fun r24 =>
          fb (ix 60 (r24.2.1 11)) (fun j25 =>
          fl (wA r24.2 61 j25 x6) (fun S26 =>
          fl (wI S26 11 ((S26.1 11) + 1)) (fun S27 =>
          fl (wI S27 12 ((S27.1 12) + 1)) (fun S28 =>
          l_X12_reads_17 m17 S28 1)))))) else (some (0, S4)))) else (fb (f_X12_settles S4 x10) (fun r15 =>
         fb (ix 60 (r15.2.1 11)) (fun j16 =>
         fl (wA r15.2 61 j16 x6) (fun S17 =>
         fl (wI S17 11 ((S17.1 11) + 1)) (fun S18 =>
         fl (wI S18 12 ((S18.1 12) + 1)) (fun S19 =>
         l_X12_reads_17 m17 S19 1)))))))))))) else (fb (f_X12_readsOne S4) (fun r63 =>
    if r63.1 = 0 then (some (0, r63.2)) else (if r63.1 = 2 then (l_X12_reads_17 m17 r63.2 1) else (fb (f_X12_settles r63.2 5) (fun r67 =>
      l_X12_reads_17 m17 r67.2 0))))))
def f_X12_reads (S : FS) : Option (Int32 × FS) :=
  fl (wI S 10 0) (fun S1 =>
 fl (wI S1 11 0) (fun S2 =>
 fl (wI S2 12 0) (fun S3 =>
 l_X12_reads_17 FU S3 1)))

def l_X12_law_148 (x11 : Int32) (k148 : FS → Int32 → Option (Int32 × FS)) : Nat → FS → Int32 → Option (Int32 × FS)
  | 0, _, _ => none
  | m148 + 1, S23, x23_6 => if x23_6 < (S23.1 10) then (fb (ix 60 x23_6) (fun j25 =>
        fb (ix 2071 ((x11 + 5) + x23_6)) (fun j26 =>
        fl (wA S23 55 j26 (S23.2 60 j25)) (fun S27 =>
        l_X12_law_148 x11 k148 m148 S27 (x23_6 + 1))))) else (k148 S23 x23_6)
def f_X12_law (S : FS) (za : Int32) (zb : Int32) : Option (Int32 × FS) :=
  if (p_X12_in S za 0 4) = 0 then (fb (f_X12_finds S 1) (fun r3 =>
  some (r3.1, r3.2))) else (if (p_X12_isDay S zb) = 0 then (fb (f_X12_finds S 1) (fun r32 =>
   some (r32.1, r32.2))) else (fv (S.2 55 4) (fun x5 =>
   if x5 = 12 then (fb (f_X12_finds S 4) (fun r30 =>
    some (r30.1, r30.2))) else (fb (f_X12_reads S) (fun r8 =>
    fl (wA r8.2 55 10 0) (fun S9 =>
    if r8.1 = 0 then (some ((-10) - (S9.1 12), S9)) else (fv (510 + (65 * x5)) (fun x11 =>
     fl (wA S9 55 4 ((S9.2 55 4) + 1)) (fun S12 =>
     fb (ix 2071 x11) (fun j13 =>
     fl (wA S12 55 j13 za) (fun S14 =>
     fb (ix 2071 (x11 + 1)) (fun j15 =>
     fl (wA S14 55 j15 zb) (fun S16 =>
     fb (ix 2071 (x11 + 2)) (fun j17 =>
     fl (wA S16 55 j17 (S16.2 55 8)) (fun S18 =>
     fb (ix 2071 (x11 + 3)) (fun j19 =>
     fl (wA S18 55 j19 (-1)) (fun S20 =>
     fb (ix 2071 (x11 + 4)) (fun j21 =>
     fl (wA S20 55 j21 (S20.1 10)) (fun S22 =>
     l_X12_law_148 x11 (fun S28 x28_6 =>
     some (x5, S28)) FU S22 0)))))))))))))))))))

def f_X12_lend (S : FS) (za : Int32) (zb : Int32) (zc : Int32) : Option (Int32 × FS) :=
  if (p_X12_isPower S za) = 0 then (fb (f_X12_finds S 1) (fun r3 =>
  some (r3.1, r3.2))) else (if (p_X12_isPerson S zb) = 0 then (fb (f_X12_finds S 1) (fun r6 =>
   some (r6.1, r6.2))) else (fb (q_X12_lives S zb) (fun x8 =>
   if x8 = 0 then (fb (f_X12_finds S 1) (fun r11 =>
    some (r11.1, r11.2))) else (if (p_X12_in S zc (S.2 55 8) 2000) = 0 then (fb (f_X12_finds S 1) (fun r38 =>
     some (r38.1, r38.2))) else (fb (q_X12_its S za 0) (fun x14 =>
     if x14 = 2 then (fb (q_X12_its S za 1) (fun x17 =>
      if x17 < 0 then (fb (f_X12_finds S 3) (fun r20 =>
       some (r20.1, r20.2))) else (fb (q_X12_its S za 2) (fun x22 =>
       if x22 < 0 then (fb (q_X12_its S za 1) (fun x27 =>
        if x27 = zb then (fb (f_X12_finds S 3) (fun r34 =>
         some (r34.1, r34.2))) else (fb (f_X12_makes S za 2 zb) (fun r30 =>
         fb (f_X12_makes r30.2 za 3 zc) (fun r32 =>
         some (1, r32.2)))))) else (fb (f_X12_finds S 3) (fun r25 =>
        some (r25.1, r25.2))))))) else (fb (f_X12_finds S 5) (fun r36 =>
      some (r36.1, r36.2)))))))))

def f_X12_letter (S : FS) (za : Int32) (zb : Int32) : Option (Int32 × FS) :=
  if (p_X12_isLetter S za) = 0 then (fb (f_X12_finds S 1) (fun r3 =>
  some (r3.1, r3.2))) else (if (p_X12_in S zb 0 9) = 0 then (fb (f_X12_finds S 1) (fun r6 =>
   some (r6.1, r6.2))) else (fb (q_X12_of S za zb) (fun x8 =>
   some (x8, S))))

def f_X12_men (S : FS) (za : Int32) (zb : Int32) : Option (Int32 × FS) :=
  if (p_X12_isPerson S za) = 0 then (fb (f_X12_finds S 1) (fun r3 =>
  some (r3.1, r3.2))) else (if (p_X12_in S zb (-99) 99) = 0 then (fb (f_X12_finds S 1) (fun r22 =>
   some (r22.1, r22.2))) else (fb (q_X12_lives S za) (fun x6 =>
   if x6 = 0 then (fb (f_X12_finds S 3) (fun r20 =>
    some (r20.1, r20.2))) else (fb (q_X12_man S za 8) (fun x9 =>
    if (p_X12_in S (x9 + zb) 0 999) = 0 then (fb (f_X12_finds S 1) (fun r18 =>
     some (r18.1, r18.2))) else (fb (q_X12_man S za 8) (fun x12 =>
     fb (f_X12_sets S za 8 (x12 + zb)) (fun r14 =>
     fb (q_X12_man r14.2 za 8) (fun x16 =>
     some (x16, r14.2))))))))))

def l_X12_move_123 (za : Int32) (zb : Int32) (ze : Int32) (k123 : FS → Int32 → Option (Int32 × FS)) : Nat → FS → Int32 → Option (Int32 × FS)
  | 0, _, _ => none
  | m123 + 1, S25, x25_6 => if x25_6 < ze then (fb (ix 96 (((24 * za) + zb) + x25_6)) (fun j27 =>
              fb (ix 24 x25_6) (fun j28 =>
              fl (wA S25 73 j28 (S25.2 72 j27)) (fun S29 =>
              l_X12_move_123 za zb ze k123 m123 S29 (x25_6 + 1))))) else (k123 S25 x25_6)
def l_X12_move_160 (zc : Int32) (zd : Int32) (ze : Int32) (k160 : FS → Int32 → Option (Int32 × FS)) : Nat → FS → Int32 → Option (Int32 × FS)
  | 0, _, _ => none
  | m160 + 1, S31, x31_6 => if x31_6 < ze then (fb (ix 24 x31_6) (fun j33 =>
              fb (ix 96 (((24 * zc) + zd) + x31_6)) (fun j34 =>
              fl (wA S31 72 j34 (S31.2 73 j33)) (fun S35 =>
              l_X12_move_160 zc zd ze k160 m160 S35 (x31_6 + 1))))) else (k160 S31 x31_6)
def f_X12_move (S : FS) (za : Int32) (zb : Int32) (zc : Int32) (zd : Int32) (ze : Int32) : Option (Int32 × FS) :=
  if (p_X12_isSheet S za) = 0 then (fb (f_X12_finds S 1) (fun r3 =>
  some (r3.1, r3.2))) else (if (p_X12_isSheet S zc) = 0 then (fb (f_X12_finds S 1) (fun r44 =>
   some (r44.1, r44.2))) else (fb (ix 4 za) (fun j5 =>
   if (S.2 70 j5) = 0 then (fb (f_X12_finds S 2) (fun r8 =>
    some (r8.1, r8.2))) else (fb (ix 4 zc) (fun j9 =>
    if (S.2 70 j9) = 0 then (fb (f_X12_finds S 2) (fun r42 =>
     some (r42.1, r42.2))) else (if (S.2 70 j5) = (S.2 70 j9) then (if ze < 0 then (fb (f_X12_finds S 1) (fun r14 =>
       some (r14.1, r14.2))) else (if zb < 0 then (fb (f_X12_finds S 1) (fun r17 =>
        some (r17.1, r17.2))) else (if zd < 0 then (fb (f_X12_finds S 1) (fun r20 =>
         some (r20.1, r20.2))) else (if 0 < (lg_cmp (zb.toInt64 + ze.toInt64) ((S.2 71 j5).toInt64)) then (fb (f_X12_finds S 1) (fun r23 =>
          some (r23.1, r23.2))) else (if 0 < (lg_cmp (zd.toInt64 + ze.toInt64) ((S.2 71 j9).toInt64)) then (fb (f_X12_finds S 1) (fun r38 =>
           some (r38.1, r38.2))) else (l_X12_move_123 za zb ze (fun S30 x30_6 =>
           l_X12_move_160 zc zd ze (fun S36 x36_6 =>
           some (ze, S36)) FU S30 0) FU S 0)))))) else (fb (f_X12_finds S 5) (fun r40 =>
      some (r40.1, r40.2)))))))))

def p_X12_winsBy_k1 (S : FS) (za : Int32) (zc : Int32) (zd : Int32) (ze : Int32) : Int32 :=
  if za = ze then (1) else (0)
theorem pb_X12_winsBy_k1 {S : FS} {za : Int32} {zc : Int32} {zd : Int32} {ze : Int32} : p_X12_winsBy_k1 S za zc zd ze = 0 ∨ p_X12_winsBy_k1 S za zc zd ze = 1 := by
  unfold p_X12_winsBy_k1
  try simp only [fv]
  repeat' split
  all_goals first | exact Or.inl rfl | exact Or.inr rfl | decide

def l_X12_wins_k1_15 (zb : Int32) (zc : Int32) (zd : Int32) (S : FS) (k15 : Int32 → Int32 → Option Int32) : Nat → Int32 → Int32 → Option Int32
  | 0, _, _ => none
  | m15 + 1, x2_5, x2_6 => if x2_6 < 5 then (if x2_5 = 0 then (fb (q_X12_canTake S zb zc x2_6) (fun x6 =>
     if x6 = 0 then (l_X12_wins_k1_15 zb zc zd S k15 m15  0 (x2_6 + 1)) else (if (p_X12_winsBy_k1 S x2_6 zb zc zd) = 0 then (l_X12_wins_k1_15 zb zc zd S k15 m15  0 (x2_6 + 1)) else (l_X12_wins_k1_15 zb zc zd S k15 m15  1 (x2_6 + 1))))) else (k15  x2_5 x2_6)) else (k15  x2_5 x2_6)
def q_X12_wins_k1 (S : FS) (zb : Int32) (zc : Int32) (zd : Int32) : Option Int32 :=
  fv (p_X12_winsBy_k1 S (-1) zb zc zd) (fun x1 =>
 l_X12_wins_k1_15 zb zc zd S (fun  x9_5 x9_6 =>
 fb (bz x9_5) (fun b10 => some b10)) FU  x1 0)

def l_X12_winsBy_k2_82 (ze : Int32) (v2_6 : Int32) (v2_7 : Int32) (x5_9 : Int32) (k82 : FS → Int32 → Int32 → Option (Int32 × FS)) : Nat → FS → Int32 → Int32 → Option (Int32 × FS)
  | 0, _, _, _ => none
  | m82 + 1, S8, x8_8, x8_10 => if 1 < x8_10 then (k82 S8 x8_8 x8_10) else (if x8_8 = 0 then (k82 S8 x8_8 x8_10) else (fv (x5_9 + x8_10) (fun x11 =>
            if (p_X12_in S8 x11 0 4) = 0 then (l_X12_winsBy_k2_82 ze v2_6 v2_7 x5_9 k82 m82 S8 x8_8 (x8_10 + 2)) else (if (p_X12_isTaken S8 v2_6 x5_9) = 0 then (if (p_X12_isTaken S8 v2_6 x11) = 0 then (fb (ix 5 x5_9) (fun j15 =>
               if (S8.2 66 j15) = 0 then (l_X12_winsBy_k2_82 ze v2_6 v2_7 x5_9 k82 m82 S8 x8_8 (x8_10 + 2)) else (fb (ix 5 x11) (fun j17 =>
                if (S8.2 66 j17) = 6 then (l_X12_winsBy_k2_82 ze v2_6 v2_7 x5_9 k82 m82 S8 x8_8 (x8_10 + 2)) else (fl (wA S8 66 j15 ((S8.2 66 j15) - 1)) (fun S19 =>
                 fl (wA S19 66 j17 ((S19.2 66 j17) + 1)) (fun S20 =>
                 fb (q_X12_wins_k1 S20 v2_6 v2_7 ze) (fun x22 =>
                 fl (wA S20 66 j15 ((S20.2 66 j15) + 1)) (fun S23 =>
                 fl (wA S23 66 j17 ((S23.2 66 j17) - 1)) (fun S24 =>
                 l_X12_winsBy_k2_82 ze v2_6 v2_7 x5_9 k82 m82 S24 x22 (x8_10 + 2))))))))))) else (l_X12_winsBy_k2_82 ze v2_6 v2_7 x5_9 k82 m82 S8 x8_8 (x8_10 + 2))) else (l_X12_winsBy_k2_82 ze v2_6 v2_7 x5_9 k82 m82 S8 x8_8 (x8_10 + 2))))))
def l_X12_winsBy_k2_68 (ze : Int32) (v2_6 : Int32) (v2_7 : Int32) (k68 : FS → Int32 → Int32 → Option (Int32 × FS)) : Nat → FS → Int32 → Int32 → Option (Int32 × FS)
  | 0, _, _, _ => none
  | m68 + 1, S5, x5_8, x5_9 => if x5_9 < 5 then (if x5_8 = 0 then (k68 S5 x5_8 x5_9) else (l_X12_winsBy_k2_82 ze v2_6 v2_7 x5_9 (fun S25 x25_8 x25_10 =>
        l_X12_winsBy_k2_68 ze v2_6 v2_7 k68 m68 S25 x25_8 (x5_9 + 1)) FU S5 x5_8 (-1))) else (k68 S5 x5_8 x5_9)
def j_X12_winsBy_k2_50 (ze : Int32) (S2 : FS) (v2_6 : Int32) (v2_7 : Int32) : Option (Int32 × FS) :=
  fb (q_X12_wins_k1 S2 v2_6 v2_7 ze) (fun x4 =>
    l_X12_winsBy_k2_68 ze v2_6 v2_7 (fun S26 x26_8 x26_9 =>
    fb (bz x26_8) (fun b27 => some (b27, S26))) FU S2 x4 0)
def f_X12_winsBy_k2 (S : FS) (za : Int32) (zc : Int32) (zd : Int32) (ze : Int32) : Option (Int32 × FS) :=
  if za = ze then (some (1, S)) else (if za < 0 then (j_X12_winsBy_k2_50 ze S zc zd) else (fv (zc ||| ((1 : Int32) <<< (za &&& 31))) (fun x29 =>
   fb (ix 5 za) (fun j30 =>
   fv (zd - (S.2 66 j30)) (fun x31 =>
   j_X12_winsBy_k2_50 ze S x29 x31)))))

def l_X12_wins_k2_15 (zb : Int32) (zc : Int32) (zd : Int32) (k15 : FS → Int32 → Int32 → Option (Int32 × FS)) : Nat → FS → Int32 → Int32 → Option (Int32 × FS)
  | 0, _, _, _ => none
  | m15 + 1, S3, x3_5, x3_6 => if x3_6 < 5 then (if x3_5 = 0 then (fb (q_X12_canTake S3 zb zc x3_6) (fun x7 =>
     if x7 = 0 then (l_X12_wins_k2_15 zb zc zd k15 m15 S3 0 (x3_6 + 1)) else (fb (f_X12_winsBy_k2 S3 x3_6 zb zc zd) (fun r10 =>
      if r10.1 = 0 then (l_X12_wins_k2_15 zb zc zd k15 m15 r10.2 0 (x3_6 + 1)) else (l_X12_wins_k2_15 zb zc zd k15 m15 r10.2 1 (x3_6 + 1)))))) else (k15 S3 x3_5 x3_6)) else (k15 S3 x3_5 x3_6)
def f_X12_wins_k2 (S : FS) (zb : Int32) (zc : Int32) (zd : Int32) : Option (Int32 × FS) :=
  fb (f_X12_winsBy_k2 S (-1) zb zc zd) (fun r2 =>
 l_X12_wins_k2_15 zb zc zd (fun S12 x12_5 x12_6 =>
 fb (bz x12_5) (fun b13 => some (b13, S12))) FU r2.2 r2.1 0)

def l_X12_winsBy_k3_82 (ze : Int32) (v2_6 : Int32) (v2_7 : Int32) (x5_9 : Int32) (k82 : FS → Int32 → Int32 → Option (Int32 × FS)) : Nat → FS → Int32 → Int32 → Option (Int32 × FS)
  | 0, _, _, _ => none
  | m82 + 1, S8, x8_8, x8_10 => if 1 < x8_10 then (k82 S8 x8_8 x8_10) else (if x8_8 = 0 then (k82 S8 x8_8 x8_10) else (fv (x5_9 + x8_10) (fun x11 =>
            if (p_X12_in S8 x11 0 4) = 0 then (l_X12_winsBy_k3_82 ze v2_6 v2_7 x5_9 k82 m82 S8 x8_8 (x8_10 + 2)) else (if (p_X12_isTaken S8 v2_6 x5_9) = 0 then (if (p_X12_isTaken S8 v2_6 x11) = 0 then (fb (ix 5 x5_9) (fun j15 =>
               if (S8.2 66 j15) = 0 then (l_X12_winsBy_k3_82 ze v2_6 v2_7 x5_9 k82 m82 S8 x8_8 (x8_10 + 2)) else (fb (ix 5 x11) (fun j17 =>
                if (S8.2 66 j17) = 6 then (l_X12_winsBy_k3_82 ze v2_6 v2_7 x5_9 k82 m82 S8 x8_8 (x8_10 + 2)) else (fl (wA S8 66 j15 ((S8.2 66 j15) - 1)) (fun S19 =>
                 fl (wA S19 66 j17 ((S19.2 66 j17) + 1)) (fun S20 =>
                 fb (f_X12_wins_k2 S20 v2_6 v2_7 ze) (fun r22 =>
                 fl (wA r22.2 66 j15 ((r22.2.2 66 j15) + 1)) (fun S23 =>
                 fl (wA S23 66 j17 ((S23.2 66 j17) - 1)) (fun S24 =>
                 l_X12_winsBy_k3_82 ze v2_6 v2_7 x5_9 k82 m82 S24 r22.1 (x8_10 + 2))))))))))) else (l_X12_winsBy_k3_82 ze v2_6 v2_7 x5_9 k82 m82 S8 x8_8 (x8_10 + 2))) else (l_X12_winsBy_k3_82 ze v2_6 v2_7 x5_9 k82 m82 S8 x8_8 (x8_10 + 2))))))
def l_X12_winsBy_k3_68 (ze : Int32) (v2_6 : Int32) (v2_7 : Int32) (k68 : FS → Int32 → Int32 → Option (Int32 × FS)) : Nat → FS → Int32 → Int32 → Option (Int32 × FS)
  | 0, _, _, _ => none
  | m68 + 1, S5, x5_8, x5_9 => if x5_9 < 5 then (if x5_8 = 0 then (k68 S5 x5_8 x5_9) else (l_X12_winsBy_k3_82 ze v2_6 v2_7 x5_9 (fun S25 x25_8 x25_10 =>
        l_X12_winsBy_k3_68 ze v2_6 v2_7 k68 m68 S25 x25_8 (x5_9 + 1)) FU S5 x5_8 (-1))) else (k68 S5 x5_8 x5_9)
def j_X12_winsBy_k3_50 (ze : Int32) (S2 : FS) (v2_6 : Int32) (v2_7 : Int32) : Option (Int32 × FS) :=
  fb (f_X12_wins_k2 S2 v2_6 v2_7 ze) (fun r4 =>
    l_X12_winsBy_k3_68 ze v2_6 v2_7 (fun S26 x26_8 x26_9 =>
    fb (bz x26_8) (fun b27 => some (b27, S26))) FU r4.2 r4.1 0)
def f_X12_winsBy_k3 (S : FS) (za : Int32) (zc : Int32) (zd : Int32) (ze : Int32) : Option (Int32 × FS) :=
  if za = ze then (some (1, S)) else (if za < 0 then (j_X12_winsBy_k3_50 ze S zc zd) else (fv (zc ||| ((1 : Int32) <<< (za &&& 31))) (fun x29 =>
   fb (ix 5 za) (fun j30 =>
   fv (zd - (S.2 66 j30)) (fun x31 =>
   j_X12_winsBy_k3_50 ze S x29 x31)))))

def l_X12_night_47 (k47 : FS → Int32 → Option (Int32 × FS)) : Nat → FS → Int32 → Option (Int32 × FS)
  | 0, _, _ => none
  | m47 + 1, S11, x11_5 => if x11_5 < 5 then (fb (ix 2071 (1986 + x11_5)) (fun j13 =>
        fb (ix 5 x11_5) (fun j14 =>
        fl (wA S11 66 j14 (S11.2 55 j13)) (fun S15 =>
        l_X12_night_47 k47 m47 S15 (x11_5 + 1))))) else (k47 S11 x11_5)
def l_X12_night_84 (za : Int32) (zb : Int32) (zc : Int32) (k84 : FS → Int32 → Int32 → Option (Int32 × FS)) : Nat → FS → Int32 → Int32 → Option (Int32 × FS)
  | 0, _, _, _ => none
  | m84 + 1, S17, x17_5, x17_6 => if x17_6 < 0 then (k84 S17 x17_5 x17_6) else (fb (q_X12_canTake S17 0 za x17_6) (fun x20 =>
        if x20 = 0 then (l_X12_night_84 za zb zc k84 m84 S17 x17_5 (x17_6 + (-1))) else (if zb = 1 then (if (p_X12_winsBy_k1 S17 x17_6 0 za zc) = 0 then (l_X12_night_84 za zb zc k84 m84 S17 x17_5 (x17_6 + (-1))) else (l_X12_night_84 za zb zc k84 m84 S17 x17_6 (x17_6 + (-1)))) else if zb = 2 then (fb (f_X12_winsBy_k2 S17 x17_6 0 za zc) (fun r28 =>
          if r28.1 = 0 then (l_X12_night_84 za zb zc k84 m84 r28.2 x17_5 (x17_6 + (-1))) else (l_X12_night_84 za zb zc k84 m84 r28.2 x17_6 (x17_6 + (-1))))) else if zb = 3 then (fb (f_X12_winsBy_k3 S17 x17_6 0 za zc) (fun r33 =>
          if r33.1 = 0 then (l_X12_night_84 za zb zc k84 m84 r33.2 x17_5 (x17_6 + (-1))) else (l_X12_night_84 za zb zc k84 m84 r33.2 x17_6 (x17_6 + (-1))))) else none)))
def f_X12_night (S : FS) (za : Int32) (zb : Int32) (zc : Int32) (zd : Int32) : Option (Int32 × FS) :=
  if (p_X12_in S za 1 20) = 0 then (fb (f_X12_finds S 1) (fun r3 =>
  some (r3.1, r3.2))) else (if (p_X12_in S zb 1 3) = 0 then (fb (f_X12_finds S 1) (fun r6 =>
   some (r6.1, r6.2))) else (if (p_X12_in S zc 0 4) = 0 then (fb (f_X12_finds S 1) (fun r9 =>
    some (r9.1, r9.2))) else (if (p_X12_in S zd 0 1) = 0 then (fb (f_X12_finds S 1) (fun r76 =>
     some (r76.1, r76.2))) else (l_X12_night_47 (fun S16 x16_5 =>
     l_X12_night_84 za zb zc (fun S36 x36_5 x36_6 =>
     if x36_5 = (-2) then (if zb = 1 then (if (p_X12_winsBy_k1 S36 (-1) 0 za zc) = 0 then (if zd = 0 then (if (-2) < x36_5 then (some (1, S36)) else (some (0, S36))) else (if (-2) < x36_5 then (some (x36_5, S36)) else (fb (f_X12_finds S36 2) (fun r49 =>
          some (r49.1, r49.2))))) else (if zd = 0 then (some (1, S36)) else (some ((-1), S36)))) else if zb = 2 then (fb (f_X12_winsBy_k2 S36 (-1) 0 za zc) (fun r55 =>
       if r55.1 = 0 then (if zd = 0 then (if (-2) < x36_5 then (some (1, r55.2)) else (some (0, r55.2))) else (if (-2) < x36_5 then (some (x36_5, r55.2)) else (fb (f_X12_finds r55.2 2) (fun r60 =>
          some (r60.1, r60.2))))) else (if zd = 0 then (some (1, r55.2)) else (some ((-1), r55.2))))) else if zb = 3 then (fb (f_X12_winsBy_k3 S36 (-1) 0 za zc) (fun r66 =>
       if r66.1 = 0 then (if zd = 0 then (if (-2) < x36_5 then (some (1, r66.2)) else (some (0, r66.2))) else (if (-2) < x36_5 then (some (x36_5, r66.2)) else (fb (f_X12_finds r66.2 2) (fun r71 =>
          some (r71.1, r71.2))))) else (if zd = 0 then (some (1, r66.2)) else (some ((-1), r66.2))))) else none) else (if zd = 0 then (if (-2) < x36_5 then (some (1, S36)) else (some (0, S36))) else (if (-2) < x36_5 then (some (x36_5, S36)) else (fb (f_X12_finds S36 2) (fun r41 =>
        some (r41.1, r41.2)))))) FU S16 (-2) 4) FU S 0))))

def l_X12_obeys_154 (x2 : Int32) (k154 : FS → Int32 → Int32 → Option (Int32 × FS)) : Nat → FS → Int32 → Int32 → Option (Int32 × FS)
  | 0, _, _, _ => none
  | m154 + 1, S28, x28_5, x28_6 => if x28_6 < (S28.2 55 7) then (fb (q_X12_promised S28 x28_6 0) (fun x31 =>
    if x31 = x2 then (fb (q_X12_stands S28 x28_6) (fun x34 =>
     if x34 = 0 then (l_X12_obeys_154 x2 k154 m154 S28 x28_5 (x28_6 + 1)) else (fb (ix 2071 ((1806 + (6 * x28_6)) + 4)) (fun j36 =>
      fl (wA S28 55 j36 1) (fun S37 =>
      l_X12_obeys_154 x2 k154 m154 S37 (x28_5 + 1) (x28_6 + 1)))))) else (l_X12_obeys_154 x2 k154 m154 S28 x28_5 (x28_6 + 1)))) else (k154 S28 x28_5 x28_6)
def f_X12_obeys (S : FS) (za : Int32) : Option (Int32 × FS) :=
  fb (q_X12_of S za 4) (fun x2 =>
 fb (q_X12_of S za 2) (fun x4 =>
 fb (q_X12_of S za 1) (fun x6 =>
 if x6 = 0 then (fl (wA S 55 9 ((S.2 55 9) - x4)) (fun S8 =>
  fb (q_X12_man S8 x2 7) (fun x10 =>
  fb (f_X12_sets S8 x2 7 (x10 + x4)) (fun r12 =>
  some (r12.2.2 55 9, r12.2))))) else if x6 = 1 then (fb (nz (S.2 55 0)) (fun u15 =>
  fb (f_X12_goes S x2 (x4 - x4 / (S.2 55 0) * (S.2 55 0))) (fun r17 =>
  some (r17.1, r17.2)))) else if x6 = 2 then (fb (q_X12_its S x4 1) (fun x20 =>
  fb (f_X12_makes S x4 1 x2) (fun r22 =>
  fb (f_X12_comesBack r22.2 x4) (fun r24 =>
  some (x20, r24.2))))) else if x6 = 3 then (fb (ix 2071 ((510 + (65 * x4)) + 3)) (fun j26 =>
  fl (wA S 55 j26 (S.2 55 8)) (fun S27 =>
  some (1, S27)))) else (l_X12_obeys_154 x2 (fun S38 x38_5 x38_6 =>
 some (x38_5, S38)) FU S 0 0))))

def f_X12_obey (S : FS) (za : Int32) : Option (Int32 × FS) :=
  if (p_X12_isLetter S za) = 0 then (fb (f_X12_finds S 1) (fun r34 =>
  some (r34.1, r34.2))) else (fb (q_X12_of S za 6) (fun x3 =>
  if x3 < 0 then (fb (f_X12_finds S 3) (fun r6 =>
   some (r6.1, r6.2))) else (fb (q_X12_of S za 8) (fun x8 =>
   if x8 = 1 then (fb (f_X12_finds S 3) (fun r11 =>
    some (r11.1, r11.2))) else (fb (q_X12_of S za 4) (fun x13 =>
    fb (q_X12_lives S x13) (fun x15 =>
    if x15 = 0 then (fb (f_X12_finds S 3) (fun r32 =>
     some (r32.1, r32.2))) else (fb (q_X12_of S za 7) (fun x18 =>
     if x18 = 1 then (fb (f_X12_cannot S za) (fun r21 =>
      if r21.1 = 0 then (fb (f_X12_writes r21.2 za 8 1) (fun r24 =>
       fb (f_X12_obeys r24.2 za) (fun r26 =>
       some (r26.1, r26.2)))) else (fb (f_X12_finds r21.2 2) (fun r28 =>
       some (r28.1, r28.2))))) else (fb (f_X12_finds S 5) (fun r30 =>
      some (r30.1, r30.2))))))))))))

def f_X12_open (S : FS) (za : Int32) : Option (Int32 × FS) :=
  if (p_X12_isLetter S za) = 0 then (fb (f_X12_finds S 1) (fun r45 =>
  some (r45.1, r45.2))) else (fb (q_X12_of S za 4) (fun x3 =>
  if x3 < 0 then (fb (f_X12_finds S 3) (fun r6 =>
   some (r6.1, r6.2))) else (fb (q_X12_of S za 5) (fun x8 =>
   if (S.2 55 8) < x8 then (fb (f_X12_finds S 3) (fun r11 =>
    some (r11.1, r11.2))) else (fb (q_X12_of S za 6) (fun x13 =>
    if x13 < 0 then (fb (q_X12_lives S x3) (fun x18 =>
     if x18 = 0 then (fb (f_X12_finds S 3) (fun r21 =>
      some (r21.1, r21.2))) else (fb (q_X12_man S x3 4) (fun x23 =>
      fb (q_X12_of S za 10) (fun x25 =>
      if x23 = x25 then (fb (f_X12_knownTo S x3) (fun r28 =>
       fb (q_X12_inForce r28.2 1 (S.2 55 8) r28.1) (fun x30 =>
       fb (f_X12_comesTo r28.2 x30 x3 za (r28.2.2 55 8)) (fun r32 =>
       if r32.1 = 0 then (fb (f_X12_writes r32.2 za 6 (r32.2.2 55 8)) (fun r35 =>
        fb (f_X12_writes r35.2 za 7 0) (fun r37 =>
        some (0, r37.2)))) else (fb (f_X12_writes r32.2 za 6 (r32.2.2 55 8)) (fun r39 =>
        fb (f_X12_writes r39.2 za 7 1) (fun r41 =>
        some (1, r41.2)))))))) else (fb (f_X12_finds S 3) (fun r43 =>
       some (r43.1, r43.2)))))))) else (fb (f_X12_finds S 3) (fun r16 =>
     some (r16.1, r16.2)))))))))

def l_X12_owed_122 (x3 : Int32) (k122 : FS → Int32 → Int32 → Option (Int32 × FS)) : Nat → FS → Int32 → Int32 → Option (Int32 × FS)
  | 0, _, _, _ => none
  | m122 + 1, S11, x11_4, x11_5 => if x11_5 < (S11.2 55 6) then (fb (ix 2071 ((1770 + (6 * x11_5)) + 4)) (fun j13 =>
      if (S11.2 55 j13) = x3 then (fv (x11_4 + 1) (fun x16 =>
       l_X12_owed_122 x3 k122 m122 S11 x16 (x11_5 + 1))) else (fv (x11_4 + 0) (fun x15 =>
       l_X12_owed_122 x3 k122 m122 S11 x15 (x11_5 + 1))))) else (k122 S11 x11_4 x11_5)
def f_X12_owed (S : FS) (za : Int32) (zb : Int32) : Option (Int32 × FS) :=
  if (p_X12_in S za 0 ((S.2 55 6) - 1)) = 0 then (fb (f_X12_finds S 1) (fun r21 =>
  some (r21.1, r21.2))) else (fb (ix 2071 ((1770 + (6 * za)) + 4)) (fun j2 =>
  fv (S.2 55 j2) (fun x3 =>
  if zb = 0 then (fb (ix 2071 (1770 + (6 * za))) (fun j5 =>
   some (S.2 55 j5, S))) else if zb = 1 then (fb (ix 2071 ((1770 + (6 * za)) + 3)) (fun j7 =>
   some (S.2 55 j7, S))) else if zb = 2 then (fb (ix 2071 ((20 + (3 * x3)) + 2)) (fun j9 =>
   some (S.2 55 j9, S))) else if zb = 3 then (l_X12_owed_122 x3 (fun S17 x17_4 x17_5 =>
   some (x17_4, S17)) FU S 0 0) else (fb (f_X12_finds S 1) (fun r19 =>
  some (r19.1, r19.2))))))

def f_X12_own (S : FS) (za : Int32) (zb : Int32) : Option (Int32 × FS) :=
  if (p_X12_isTown S za) = 0 then (fb (f_X12_finds S 1) (fun r3 =>
  some (r3.1, r3.2))) else (if zb = (-1) then (fb (ix 2071 ((20 + (3 * za)) + 2)) (fun j5 =>
   if (S.2 55 j5) = 1 then (fb (f_X12_finds S 3) (fun r11 =>
    some (r11.1, r11.2))) else (fb (ix 2071 ((20 + (3 * za)) + 1)) (fun j7 =>
    fv (S.2 55 j7) (fun x8 =>
    fl (wA S 55 j7 zb) (fun S9 =>
    some (x8, S9))))))) else (if (p_X12_isPerson S zb) = 0 then (fb (f_X12_finds S 1) (fun r14 =>
    some (r14.1, r14.2))) else (fb (q_X12_lives S zb) (fun x16 =>
    if x16 = 0 then (fb (f_X12_finds S 1) (fun r26 =>
     some (r26.1, r26.2))) else (fb (ix 2071 ((20 + (3 * za)) + 2)) (fun j18 =>
     if (S.2 55 j18) = 1 then (fb (f_X12_finds S 3) (fun r24 =>
      some (r24.1, r24.2))) else (fb (ix 2071 ((20 + (3 * za)) + 1)) (fun j20 =>
      fv (S.2 55 j20) (fun x21 =>
      fl (wA S 55 j20 zb) (fun S22 =>
      some (x21, S22)))))))))))

def f_X12_pay (S : FS) (za : Int32) (zb : Int32) : Option (Int32 × FS) :=
  if (p_X12_isPerson S za) = 0 then (fb (f_X12_finds S 1) (fun r3 =>
  some (r3.1, r3.2))) else (if (p_X12_in S zb 1 9999) = 0 then (fb (f_X12_finds S 1) (fun r19 =>
   some (r19.1, r19.2))) else (fb (q_X12_lives S za) (fun x6 =>
   if x6 = 0 then (fb (f_X12_finds S 3) (fun r17 =>
    some (r17.1, r17.2))) else (if (S.2 55 9) < zb then (fb (f_X12_finds S 2) (fun r15 =>
     some (r15.1, r15.2))) else (fl (wA S 55 9 ((S.2 55 9) - zb)) (fun S9 =>
     fb (q_X12_man S9 za 7) (fun x11 =>
     fb (f_X12_sets S9 za 7 (x11 + zb)) (fun r13 =>
     some (r13.2.2 55 9, r13.2)))))))))

def l_X12_person_121 (x23 : Int32) (k121 : FS → Int32 → Option (Int32 × FS)) : Nat → FS → Int32 → Option (Int32 × FS)
  | 0, _, _ => none
  | m121 + 1, S26, x26_7 => if x26_7 < 14 then (fb (f_X12_sets S26 x23 x26_7 0) (fun r29 =>
           l_X12_person_121 x23 k121 m121 r29.2 (x26_7 + 1))) else (k121 S26 x26_7)
def f_X12_person (S : FS) (za : Int32) (zb : Int32) (zc : Int32) (zd : Int32) : Option (Int32 × FS) :=
  if (p_X12_in S za 0 1) = 0 then (fb (f_X12_finds S 1) (fun r3 =>
  some (r3.1, r3.2))) else (if (p_X12_in S zb (-20000) (S.2 55 8)) = 0 then (fb (f_X12_finds S 1) (fun r6 =>
   some (r6.1, r6.2))) else (if zc < 0 then (fb (f_X12_finds S 1) (fun r9 =>
    some (r9.1, r9.2))) else (fb (q_X12_isParent S ((zc / 100) - 1) 1 zb) (fun x11 =>
    if x11 = 0 then (fb (f_X12_finds S 1) (fun r14 =>
     some (r14.1, r14.2))) else (fb (q_X12_isParent S ((zc - zc / 100 * 100) - 1) 0 zb) (fun x16 =>
     if x16 = 0 then (fb (f_X12_finds S 1) (fun r19 =>
      some (r19.1, r19.2))) else (if (p_X12_isTown S zd) = 0 then (fb (f_X12_finds S 1) (fun r22 =>
       some (r22.1, r22.2))) else (fv (S.2 55 2) (fun x23 =>
       if x23 = 20 then (fb (f_X12_finds S 4) (fun r48 =>
        some (r48.1, r48.2))) else (fl (wA S 55 2 ((S.2 55 2) + 1)) (fun S25 =>
        l_X12_person_121 x23 (fun S30 x30_7 =>
        fb (f_X12_sets S30 x23 0 za) (fun r32 =>
        fb (f_X12_sets r32.2 x23 1 zb) (fun r34 =>
        fb (f_X12_sets r34.2 x23 2 ((zc / 100) - 1)) (fun r36 =>
        fb (f_X12_sets r36.2 x23 3 ((zc - zc / 100 * 100) - 1)) (fun r38 =>
        fb (f_X12_sets r38.2 x23 4 zd) (fun r40 =>
        fb (f_X12_sets r40.2 x23 9 (-1)) (fun r42 =>
        fb (f_X12_sets r42.2 x23 10 (-1)) (fun r44 =>
        fb (f_X12_sets r44.2 x23 12 1) (fun r46 =>
        some (x23, r46.2)))))))))) FU S25 0)))))))))))

def l_X12_plans_k8_130 (zb : Int32) (k130 : FS → Int32 → Int32 → Option (Int32 × FS)) : Nat → FS → Int32 → Int32 → Option (Int32 × FS)
  | 0, _, _, _ => none
  | m130 + 1, S3, x3_4, x3_5 => if x3_5 < 6 then (if ((zb >>> (x3_5 &&& 31)) &&& 1) = 1 then (fb (ix 2071 (20 + (3 * x3_5))) (fun j7 =>
      fv (x3_4 + (S3.2 55 j7)) (fun x8 =>
      l_X12_plans_k8_130 zb k130 m130 S3 x8 (x3_5 + 1)))) else (fv (x3_4 + 0) (fun x6 =>
      l_X12_plans_k8_130 zb k130 m130 S3 x6 (x3_5 + 1)))) else (k130 S3 x3_4 x3_5)
def l_X12_plans_k8_177 (zb : Int32) (x9_4 : Int32) (k177 : FS → Int32 → Option (Int32 × FS)) : Nat → FS → Int32 → Option (Int32 × FS)
  | 0, _, _ => none
  | m177 + 1, S10, x10_5 => if x10_5 < 6 then (if x10_5 < 0 then (fb (ix 96 ((24 * (S10.1 18)) + 8)) (fun j13 =>
      fv ((x9_4 - (S10.2 72 j13)) + 0) (fun x14 =>
      if x14 < 0 then (l_X12_plans_k8_177 zb x9_4 k177 m177 S10 (x10_5 + 1)) else (none)))) else (if ((zb >>> (x10_5 &&& 31)) &&& 1) = 0 then (l_X12_plans_k8_177 zb x9_4 k177 m177 S10 (x10_5 + 1)) else (fb (ix 96 ((24 * (S10.1 18)) + 8)) (fun j17 =>
       fb (ix 2071 (20 + (3 * x10_5))) (fun j18 =>
       fv ((x9_4 - (S10.2 72 j17)) + (4 * (S10.2 55 j18))) (fun x19 =>
       if x19 < 0 then (l_X12_plans_k8_177 zb x9_4 k177 m177 S10 (x10_5 + 1)) else (none))))))) else (k177 S10 x10_5)
def l_X12_plans_k8_19 (zb : Int32) (k19 : FS → Int32 → Int32 → Option (Int32 × FS)) : Nat → FS → Int32 → Int32 → Option (Int32 × FS)
  | 0, _, _, _ => none
  | m19 + 1, S22, x22_4, x22_5 => if x22_5 < 6 then (if ((zb >>> (x22_5 &&& 31)) &&& 1) = 1 then (fb (ix 2071 (20 + (3 * x22_5))) (fun j26 =>
      fv (x22_4 + (8 * (S22.2 55 j26))) (fun x27 =>
      l_X12_plans_k8_19 zb k19 m19 S22 x27 (x22_5 + 1)))) else (fv (x22_4 + 0) (fun x25 =>
      l_X12_plans_k8_19 zb k19 m19 S22 x25 (x22_5 + 1)))) else (k19 S22 x22_4 x22_5)
def l_X12_plans_k8_97 (k97 : FS → Int32 → Option (Int32 × FS)) : Nat → FS → Int32 → Option (Int32 × FS)
  | 0, _, _ => none
  | m97 + 1, S32, x32_5 => if x32_5 < 8 then (fb (ix 8 x32_5) (fun j34 =>
       fl (wA S32 68 j34 (S32.2 67 j34)) (fun S35 =>
       l_X12_plans_k8_97 k97 m97 S35 (x32_5 + 1)))) else (k97 S32 x32_5)
def j_X12_plans_k8_83 (x28_4 : Int32) (S29 : FS) : Option (Int32 × FS) :=
  fl (wI S29 20 1) (fun S30 =>
    fl (wI S30 19 x28_4) (fun S31 =>
    l_X12_plans_k8_97 (fun S36 x36_5 =>
    some (0, S36)) FU S31 0))
def f_X12_plans_k8 (S : FS) (zb : Int32) (zc : Int32) : Option (Int32 × FS) :=
  fb (ix 4 (S.1 18)) (fun j1 =>
 if 8 = (S.2 71 j1) then (l_X12_plans_k8_19 zb (fun S28 x28_4 x28_5 =>
  if (S28.1 20) = 0 then (j_X12_plans_k8_83 x28_4 S28) else (if (S28.1 19) < x28_4 then (j_X12_plans_k8_83 x28_4 S28) else (some (0, S28)))) FU S zc 0) else (l_X12_plans_k8_130 zb (fun S9 x9_4 x9_5 =>
  l_X12_plans_k8_177 zb x9_4 (fun S21 x21_5 =>
  some (0, S21)) FU S9 (-1)) FU S zc 0))

def l_X12_plans_k7_130 (zb : Int32) (k130 : FS → Int32 → Int32 → Option (Int32 × FS)) : Nat → FS → Int32 → Int32 → Option (Int32 × FS)
  | 0, _, _, _ => none
  | m130 + 1, S3, x3_4, x3_5 => if x3_5 < 6 then (if ((zb >>> (x3_5 &&& 31)) &&& 1) = 1 then (fb (ix 2071 (20 + (3 * x3_5))) (fun j7 =>
      fv (x3_4 + (S3.2 55 j7)) (fun x8 =>
      l_X12_plans_k7_130 zb k130 m130 S3 x8 (x3_5 + 1)))) else (fv (x3_4 + 0) (fun x6 =>
      l_X12_plans_k7_130 zb k130 m130 S3 x6 (x3_5 + 1)))) else (k130 S3 x3_4 x3_5)
def l_X12_plans_k7_177 (zb : Int32) (x9_4 : Int32) (k177 : FS → Int32 → Option (Int32 × FS)) : Nat → FS → Int32 → Option (Int32 × FS)
  | 0, _, _ => none
  | m177 + 1, S10, x10_5 => if x10_5 < 6 then (if x10_5 < 0 then (fb (ix 96 ((24 * (S10.1 18)) + 7)) (fun j13 =>
      fv ((x9_4 - (S10.2 72 j13)) + 0) (fun x14 =>
      if x14 < 0 then (l_X12_plans_k7_177 zb x9_4 k177 m177 S10 (x10_5 + 1)) else (fl (wA S10 67 7 x10_5) (fun S16 =>
       fb (f_X12_plans_k8 S16 zb x14) (fun r18 =>
       l_X12_plans_k7_177 zb x9_4 k177 m177 r18.2 (x10_5 + 1))))))) else (if ((zb >>> (x10_5 &&& 31)) &&& 1) = 0 then (l_X12_plans_k7_177 zb x9_4 k177 m177 S10 (x10_5 + 1)) else (fb (ix 96 ((24 * (S10.1 18)) + 7)) (fun j20 =>
       fb (ix 2071 (20 + (3 * x10_5))) (fun j21 =>
       fv ((x9_4 - (S10.2 72 j20)) + (4 * (S10.2 55 j21))) (fun x22 =>
       if x22 < 0 then (l_X12_plans_k7_177 zb x9_4 k177 m177 S10 (x10_5 + 1)) else (fl (wA S10 67 7 x10_5) (fun S24 =>
        fb (f_X12_plans_k8 S24 (zb &&& (((1 : Int32) <<< (x10_5 &&& 31)) ^^^ (-1))) x22) (fun r26 =>
        l_X12_plans_k7_177 zb x9_4 k177 m177 r26.2 (x10_5 + 1)))))))))) else (k177 S10 x10_5)
def l_X12_plans_k7_19 (zb : Int32) (k19 : FS → Int32 → Int32 → Option (Int32 × FS)) : Nat → FS → Int32 → Int32 → Option (Int32 × FS)
  | 0, _, _, _ => none
  | m19 + 1, S28, x28_4, x28_5 => if x28_5 < 6 then (if ((zb >>> (x28_5 &&& 31)) &&& 1) = 1 then (fb (ix 2071 (20 + (3 * x28_5))) (fun j32 =>
      fv (x28_4 + (8 * (S28.2 55 j32))) (fun x33 =>
      l_X12_plans_k7_19 zb k19 m19 S28 x33 (x28_5 + 1)))) else (fv (x28_4 + 0) (fun x31 =>
      l_X12_plans_k7_19 zb k19 m19 S28 x31 (x28_5 + 1)))) else (k19 S28 x28_4 x28_5)
def l_X12_plans_k7_97 (k97 : FS → Int32 → Option (Int32 × FS)) : Nat → FS → Int32 → Option (Int32 × FS)
  | 0, _, _ => none
  | m97 + 1, S38, x38_5 => if x38_5 < 7 then (fb (ix 8 x38_5) (fun j40 =>
       fl (wA S38 68 j40 (S38.2 67 j40)) (fun S41 =>
       l_X12_plans_k7_97 k97 m97 S41 (x38_5 + 1)))) else (k97 S38 x38_5)
def j_X12_plans_k7_83 (x34_4 : Int32) (S35 : FS) : Option (Int32 × FS) :=
  fl (wI S35 20 1) (fun S36 =>
    fl (wI S36 19 x34_4) (fun S37 =>
    l_X12_plans_k7_97 (fun S42 x42_5 =>
    some (0, S42)) FU S37 0))
def f_X12_plans_k7 (S : FS) (zb : Int32) (zc : Int32) : Option (Int32 × FS) :=
  fb (ix 4 (S.1 18)) (fun j1 =>
 if 7 = (S.2 71 j1) then (l_X12_plans_k7_19 zb (fun S34 x34_4 x34_5 =>
  if (S34.1 20) = 0 then (j_X12_plans_k7_83 x34_4 S34) else (if (S34.1 19) < x34_4 then (j_X12_plans_k7_83 x34_4 S34) else (some (0, S34)))) FU S zc 0) else (l_X12_plans_k7_130 zb (fun S9 x9_4 x9_5 =>
  l_X12_plans_k7_177 zb x9_4 (fun S27 x27_5 =>
  some (0, S27)) FU S9 (-1)) FU S zc 0))

def l_X12_plans_k6_130 (zb : Int32) (k130 : FS → Int32 → Int32 → Option (Int32 × FS)) : Nat → FS → Int32 → Int32 → Option (Int32 × FS)
  | 0, _, _, _ => none
  | m130 + 1, S3, x3_4, x3_5 => if x3_5 < 6 then (if ((zb >>> (x3_5 &&& 31)) &&& 1) = 1 then (fb (ix 2071 (20 + (3 * x3_5))) (fun j7 =>
      fv (x3_4 + (S3.2 55 j7)) (fun x8 =>
      l_X12_plans_k6_130 zb k130 m130 S3 x8 (x3_5 + 1)))) else (fv (x3_4 + 0) (fun x6 =>
      l_X12_plans_k6_130 zb k130 m130 S3 x6 (x3_5 + 1)))) else (k130 S3 x3_4 x3_5)
def l_X12_plans_k6_177 (zb : Int32) (x9_4 : Int32) (k177 : FS → Int32 → Option (Int32 × FS)) : Nat → FS → Int32 → Option (Int32 × FS)
  | 0, _, _ => none
  | m177 + 1, S10, x10_5 => if x10_5 < 6 then (if x10_5 < 0 then (fb (ix 96 ((24 * (S10.1 18)) + 6)) (fun j13 =>
      fv ((x9_4 - (S10.2 72 j13)) + 0) (fun x14 =>
      if x14 < 0 then (l_X12_plans_k6_177 zb x9_4 k177 m177 S10 (x10_5 + 1)) else (fl (wA S10 67 6 x10_5) (fun S16 =>
       fb (f_X12_plans_k7 S16 zb x14) (fun r18 =>
       l_X12_plans_k6_177 zb x9_4 k177 m177 r18.2 (x10_5 + 1))))))) else (if ((zb >>> (x10_5 &&& 31)) &&& 1) = 0 then (l_X12_plans_k6_177 zb x9_4 k177 m177 S10 (x10_5 + 1)) else (fb (ix 96 ((24 * (S10.1 18)) + 6)) (fun j20 =>
       fb (ix 2071 (20 + (3 * x10_5))) (fun j21 =>
       fv ((x9_4 - (S10.2 72 j20)) + (4 * (S10.2 55 j21))) (fun x22 =>
       if x22 < 0 then (l_X12_plans_k6_177 zb x9_4 k177 m177 S10 (x10_5 + 1)) else (fl (wA S10 67 6 x10_5) (fun S24 =>
        fb (f_X12_plans_k7 S24 (zb &&& (((1 : Int32) <<< (x10_5 &&& 31)) ^^^ (-1))) x22) (fun r26 =>
        l_X12_plans_k6_177 zb x9_4 k177 m177 r26.2 (x10_5 + 1)))))))))) else (k177 S10 x10_5)
def l_X12_plans_k6_19 (zb : Int32) (k19 : FS → Int32 → Int32 → Option (Int32 × FS)) : Nat → FS → Int32 → Int32 → Option (Int32 × FS)
  | 0, _, _, _ => none
  | m19 + 1, S28, x28_4, x28_5 => if x28_5 < 6 then (if ((zb >>> (x28_5 &&& 31)) &&& 1) = 1 then (fb (ix 2071 (20 + (3 * x28_5))) (fun j32 =>
      fv (x28_4 + (8 * (S28.2 55 j32))) (fun x33 =>
      l_X12_plans_k6_19 zb k19 m19 S28 x33 (x28_5 + 1)))) else (fv (x28_4 + 0) (fun x31 =>
      l_X12_plans_k6_19 zb k19 m19 S28 x31 (x28_5 + 1)))) else (k19 S28 x28_4 x28_5)
def l_X12_plans_k6_97 (k97 : FS → Int32 → Option (Int32 × FS)) : Nat → FS → Int32 → Option (Int32 × FS)
  | 0, _, _ => none
  | m97 + 1, S38, x38_5 => if x38_5 < 6 then (fb (ix 8 x38_5) (fun j40 =>
       fl (wA S38 68 j40 (S38.2 67 j40)) (fun S41 =>
       l_X12_plans_k6_97 k97 m97 S41 (x38_5 + 1)))) else (k97 S38 x38_5)
def j_X12_plans_k6_83 (x34_4 : Int32) (S35 : FS) : Option (Int32 × FS) :=
  fl (wI S35 20 1) (fun S36 =>
    fl (wI S36 19 x34_4) (fun S37 =>
    l_X12_plans_k6_97 (fun S42 x42_5 =>
    some (0, S42)) FU S37 0))
def f_X12_plans_k6 (S : FS) (zb : Int32) (zc : Int32) : Option (Int32 × FS) :=
  fb (ix 4 (S.1 18)) (fun j1 =>
 if 6 = (S.2 71 j1) then (l_X12_plans_k6_19 zb (fun S34 x34_4 x34_5 =>
  if (S34.1 20) = 0 then (j_X12_plans_k6_83 x34_4 S34) else (if (S34.1 19) < x34_4 then (j_X12_plans_k6_83 x34_4 S34) else (some (0, S34)))) FU S zc 0) else (l_X12_plans_k6_130 zb (fun S9 x9_4 x9_5 =>
  l_X12_plans_k6_177 zb x9_4 (fun S27 x27_5 =>
  some (0, S27)) FU S9 (-1)) FU S zc 0))

def l_X12_plans_k5_130 (zb : Int32) (k130 : FS → Int32 → Int32 → Option (Int32 × FS)) : Nat → FS → Int32 → Int32 → Option (Int32 × FS)
  | 0, _, _, _ => none
  | m130 + 1, S3, x3_4, x3_5 => if x3_5 < 6 then (if ((zb >>> (x3_5 &&& 31)) &&& 1) = 1 then (fb (ix 2071 (20 + (3 * x3_5))) (fun j7 =>
      fv (x3_4 + (S3.2 55 j7)) (fun x8 =>
      l_X12_plans_k5_130 zb k130 m130 S3 x8 (x3_5 + 1)))) else (fv (x3_4 + 0) (fun x6 =>
      l_X12_plans_k5_130 zb k130 m130 S3 x6 (x3_5 + 1)))) else (k130 S3 x3_4 x3_5)
def l_X12_plans_k5_177 (zb : Int32) (x9_4 : Int32) (k177 : FS → Int32 → Option (Int32 × FS)) : Nat → FS → Int32 → Option (Int32 × FS)
  | 0, _, _ => none
  | m177 + 1, S10, x10_5 => if x10_5 < 6 then (if x10_5 < 0 then (fb (ix 96 ((24 * (S10.1 18)) + 5)) (fun j13 =>
      fv ((x9_4 - (S10.2 72 j13)) + 0) (fun x14 =>
      if x14 < 0 then (l_X12_plans_k5_177 zb x9_4 k177 m177 S10 (x10_5 + 1)) else (fl (wA S10 67 5 x10_5) (fun S16 =>
       fb (f_X12_plans_k6 S16 zb x14) (fun r18 =>
       l_X12_plans_k5_177 zb x9_4 k177 m177 r18.2 (x10_5 + 1))))))) else (if ((zb >>> (x10_5 &&& 31)) &&& 1) = 0 then (l_X12_plans_k5_177 zb x9_4 k177 m177 S10 (x10_5 + 1)) else (fb (ix 96 ((24 * (S10.1 18)) + 5)) (fun j20 =>
       fb (ix 2071 (20 + (3 * x10_5))) (fun j21 =>
       fv ((x9_4 - (S10.2 72 j20)) + (4 * (S10.2 55 j21))) (fun x22 =>
       if x22 < 0 then (l_X12_plans_k5_177 zb x9_4 k177 m177 S10 (x10_5 + 1)) else (fl (wA S10 67 5 x10_5) (fun S24 =>
        fb (f_X12_plans_k6 S24 (zb &&& (((1 : Int32) <<< (x10_5 &&& 31)) ^^^ (-1))) x22) (fun r26 =>
        l_X12_plans_k5_177 zb x9_4 k177 m177 r26.2 (x10_5 + 1)))))))))) else (k177 S10 x10_5)
def l_X12_plans_k5_19 (zb : Int32) (k19 : FS → Int32 → Int32 → Option (Int32 × FS)) : Nat → FS → Int32 → Int32 → Option (Int32 × FS)
  | 0, _, _, _ => none
  | m19 + 1, S28, x28_4, x28_5 => if x28_5 < 6 then (if ((zb >>> (x28_5 &&& 31)) &&& 1) = 1 then (fb (ix 2071 (20 + (3 * x28_5))) (fun j32 =>
      fv (x28_4 + (8 * (S28.2 55 j32))) (fun x33 =>
      l_X12_plans_k5_19 zb k19 m19 S28 x33 (x28_5 + 1)))) else (fv (x28_4 + 0) (fun x31 =>
      l_X12_plans_k5_19 zb k19 m19 S28 x31 (x28_5 + 1)))) else (k19 S28 x28_4 x28_5)
def l_X12_plans_k5_97 (k97 : FS → Int32 → Option (Int32 × FS)) : Nat → FS → Int32 → Option (Int32 × FS)
  | 0, _, _ => none
  | m97 + 1, S38, x38_5 => if x38_5 < 5 then (fb (ix 8 x38_5) (fun j40 =>
       fl (wA S38 68 j40 (S38.2 67 j40)) (fun S41 =>
       l_X12_plans_k5_97 k97 m97 S41 (x38_5 + 1)))) else (k97 S38 x38_5)
def j_X12_plans_k5_83 (x34_4 : Int32) (S35 : FS) : Option (Int32 × FS) :=
  fl (wI S35 20 1) (fun S36 =>
    fl (wI S36 19 x34_4) (fun S37 =>
    l_X12_plans_k5_97 (fun S42 x42_5 =>
    some (0, S42)) FU S37 0))
def f_X12_plans_k5 (S : FS) (zb : Int32) (zc : Int32) : Option (Int32 × FS) :=
  fb (ix 4 (S.1 18)) (fun j1 =>
 if 5 = (S.2 71 j1) then (l_X12_plans_k5_19 zb (fun S34 x34_4 x34_5 =>
  if (S34.1 20) = 0 then (j_X12_plans_k5_83 x34_4 S34) else (if (S34.1 19) < x34_4 then (j_X12_plans_k5_83 x34_4 S34) else (some (0, S34)))) FU S zc 0) else (l_X12_plans_k5_130 zb (fun S9 x9_4 x9_5 =>
  l_X12_plans_k5_177 zb x9_4 (fun S27 x27_5 =>
  some (0, S27)) FU S9 (-1)) FU S zc 0))

def l_X12_plans_k4_130 (zb : Int32) (k130 : FS → Int32 → Int32 → Option (Int32 × FS)) : Nat → FS → Int32 → Int32 → Option (Int32 × FS)
  | 0, _, _, _ => none
  | m130 + 1, S3, x3_4, x3_5 => if x3_5 < 6 then (if ((zb >>> (x3_5 &&& 31)) &&& 1) = 1 then (fb (ix 2071 (20 + (3 * x3_5))) (fun j7 =>
      fv (x3_4 + (S3.2 55 j7)) (fun x8 =>
      l_X12_plans_k4_130 zb k130 m130 S3 x8 (x3_5 + 1)))) else (fv (x3_4 + 0) (fun x6 =>
      l_X12_plans_k4_130 zb k130 m130 S3 x6 (x3_5 + 1)))) else (k130 S3 x3_4 x3_5)
def l_X12_plans_k4_177 (zb : Int32) (x9_4 : Int32) (k177 : FS → Int32 → Option (Int32 × FS)) : Nat → FS → Int32 → Option (Int32 × FS)
  | 0, _, _ => none
  | m177 + 1, S10, x10_5 => if x10_5 < 6 then (if x10_5 < 0 then (fb (ix 96 ((24 * (S10.1 18)) + 4)) (fun j13 =>
      fv ((x9_4 - (S10.2 72 j13)) + 0) (fun x14 =>
      if x14 < 0 then (l_X12_plans_k4_177 zb x9_4 k177 m177 S10 (x10_5 + 1)) else (fl (wA S10 67 4 x10_5) (fun S16 =>
       fb (f_X12_plans_k5 S16 zb x14) (fun r18 =>
       l_X12_plans_k4_177 zb x9_4 k177 m177 r18.2 (x10_5 + 1))))))) else (if ((zb >>> (x10_5 &&& 31)) &&& 1) = 0 then (l_X12_plans_k4_177 zb x9_4 k177 m177 S10 (x10_5 + 1)) else (fb (ix 96 ((24 * (S10.1 18)) + 4)) (fun j20 =>
       fb (ix 2071 (20 + (3 * x10_5))) (fun j21 =>
       fv ((x9_4 - (S10.2 72 j20)) + (4 * (S10.2 55 j21))) (fun x22 =>
       if x22 < 0 then (l_X12_plans_k4_177 zb x9_4 k177 m177 S10 (x10_5 + 1)) else (fl (wA S10 67 4 x10_5) (fun S24 =>
        fb (f_X12_plans_k5 S24 (zb &&& (((1 : Int32) <<< (x10_5 &&& 31)) ^^^ (-1))) x22) (fun r26 =>
        l_X12_plans_k4_177 zb x9_4 k177 m177 r26.2 (x10_5 + 1)))))))))) else (k177 S10 x10_5)
def l_X12_plans_k4_19 (zb : Int32) (k19 : FS → Int32 → Int32 → Option (Int32 × FS)) : Nat → FS → Int32 → Int32 → Option (Int32 × FS)
  | 0, _, _, _ => none
  | m19 + 1, S28, x28_4, x28_5 => if x28_5 < 6 then (if ((zb >>> (x28_5 &&& 31)) &&& 1) = 1 then (fb (ix 2071 (20 + (3 * x28_5))) (fun j32 =>
      fv (x28_4 + (8 * (S28.2 55 j32))) (fun x33 =>
      l_X12_plans_k4_19 zb k19 m19 S28 x33 (x28_5 + 1)))) else (fv (x28_4 + 0) (fun x31 =>
      l_X12_plans_k4_19 zb k19 m19 S28 x31 (x28_5 + 1)))) else (k19 S28 x28_4 x28_5)
def l_X12_plans_k4_97 (k97 : FS → Int32 → Option (Int32 × FS)) : Nat → FS → Int32 → Option (Int32 × FS)
  | 0, _, _ => none
  | m97 + 1, S38, x38_5 => if x38_5 < 4 then (fb (ix 8 x38_5) (fun j40 =>
       fl (wA S38 68 j40 (S38.2 67 j40)) (fun S41 =>
       l_X12_plans_k4_97 k97 m97 S41 (x38_5 + 1)))) else (k97 S38 x38_5)
def j_X12_plans_k4_83 (x34_4 : Int32) (S35 : FS) : Option (Int32 × FS) :=
  fl (wI S35 20 1) (fun S36 =>
    fl (wI S36 19 x34_4) (fun S37 =>
    l_X12_plans_k4_97 (fun S42 x42_5 =>
    some (0, S42)) FU S37 0))
def f_X12_plans_k4 (S : FS) (zb : Int32) (zc : Int32) : Option (Int32 × FS) :=
  fb (ix 4 (S.1 18)) (fun j1 =>
 if 4 = (S.2 71 j1) then (l_X12_plans_k4_19 zb (fun S34 x34_4 x34_5 =>
  if (S34.1 20) = 0 then (j_X12_plans_k4_83 x34_4 S34) else (if (S34.1 19) < x34_4 then (j_X12_plans_k4_83 x34_4 S34) else (some (0, S34)))) FU S zc 0) else (l_X12_plans_k4_130 zb (fun S9 x9_4 x9_5 =>
  l_X12_plans_k4_177 zb x9_4 (fun S27 x27_5 =>
  some (0, S27)) FU S9 (-1)) FU S zc 0))

def l_X12_plans_k3_130 (zb : Int32) (k130 : FS → Int32 → Int32 → Option (Int32 × FS)) : Nat → FS → Int32 → Int32 → Option (Int32 × FS)
  | 0, _, _, _ => none
  | m130 + 1, S3, x3_4, x3_5 => if x3_5 < 6 then (if ((zb >>> (x3_5 &&& 31)) &&& 1) = 1 then (fb (ix 2071 (20 + (3 * x3_5))) (fun j7 =>
      fv (x3_4 + (S3.2 55 j7)) (fun x8 =>
      l_X12_plans_k3_130 zb k130 m130 S3 x8 (x3_5 + 1)))) else (fv (x3_4 + 0) (fun x6 =>
      l_X12_plans_k3_130 zb k130 m130 S3 x6 (x3_5 + 1)))) else (k130 S3 x3_4 x3_5)
def l_X12_plans_k3_177 (zb : Int32) (x9_4 : Int32) (k177 : FS → Int32 → Option (Int32 × FS)) : Nat → FS → Int32 → Option (Int32 × FS)
  | 0, _, _ => none
  | m177 + 1, S10, x10_5 => if x10_5 < 6 then (if x10_5 < 0 then (fb (ix 96 ((24 * (S10.1 18)) + 3)) (fun j13 =>
      fv ((x9_4 - (S10.2 72 j13)) + 0) (fun x14 =>
      if x14 < 0 then (l_X12_plans_k3_177 zb x9_4 k177 m177 S10 (x10_5 + 1)) else (fl (wA S10 67 3 x10_5) (fun S16 =>
       fb (f_X12_plans_k4 S16 zb x14) (fun r18 =>
       l_X12_plans_k3_177 zb x9_4 k177 m177 r18.2 (x10_5 + 1))))))) else (if ((zb >>> (x10_5 &&& 31)) &&& 1) = 0 then (l_X12_plans_k3_177 zb x9_4 k177 m177 S10 (x10_5 + 1)) else (fb (ix 96 ((24 * (S10.1 18)) + 3)) (fun j20 =>
       fb (ix 2071 (20 + (3 * x10_5))) (fun j21 =>
       fv ((x9_4 - (S10.2 72 j20)) + (4 * (S10.2 55 j21))) (fun x22 =>
       if x22 < 0 then (l_X12_plans_k3_177 zb x9_4 k177 m177 S10 (x10_5 + 1)) else (fl (wA S10 67 3 x10_5) (fun S24 =>
        fb (f_X12_plans_k4 S24 (zb &&& (((1 : Int32) <<< (x10_5 &&& 31)) ^^^ (-1))) x22) (fun r26 =>
        l_X12_plans_k3_177 zb x9_4 k177 m177 r26.2 (x10_5 + 1)))))))))) else (k177 S10 x10_5)
def l_X12_plans_k3_19 (zb : Int32) (k19 : FS → Int32 → Int32 → Option (Int32 × FS)) : Nat → FS → Int32 → Int32 → Option (Int32 × FS)
  | 0, _, _, _ => none
  | m19 + 1, S28, x28_4, x28_5 => if x28_5 < 6 then (if ((zb >>> (x28_5 &&& 31)) &&& 1) = 1 then (fb (ix 2071 (20 + (3 * x28_5))) (fun j32 =>
      fv (x28_4 + (8 * (S28.2 55 j32))) (fun x33 =>
      l_X12_plans_k3_19 zb k19 m19 S28 x33 (x28_5 + 1)))) else (fv (x28_4 + 0) (fun x31 =>
      l_X12_plans_k3_19 zb k19 m19 S28 x31 (x28_5 + 1)))) else (k19 S28 x28_4 x28_5)
def l_X12_plans_k3_97 (k97 : FS → Int32 → Option (Int32 × FS)) : Nat → FS → Int32 → Option (Int32 × FS)
  | 0, _, _ => none
  | m97 + 1, S38, x38_5 => if x38_5 < 3 then (fb (ix 8 x38_5) (fun j40 =>
       fl (wA S38 68 j40 (S38.2 67 j40)) (fun S41 =>
       l_X12_plans_k3_97 k97 m97 S41 (x38_5 + 1)))) else (k97 S38 x38_5)
def j_X12_plans_k3_83 (x34_4 : Int32) (S35 : FS) : Option (Int32 × FS) :=
  fl (wI S35 20 1) (fun S36 =>
    fl (wI S36 19 x34_4) (fun S37 =>
    l_X12_plans_k3_97 (fun S42 x42_5 =>
    some (0, S42)) FU S37 0))
def f_X12_plans_k3 (S : FS) (zb : Int32) (zc : Int32) : Option (Int32 × FS) :=
  fb (ix 4 (S.1 18)) (fun j1 =>
 if 3 = (S.2 71 j1) then (l_X12_plans_k3_19 zb (fun S34 x34_4 x34_5 =>
  if (S34.1 20) = 0 then (j_X12_plans_k3_83 x34_4 S34) else (if (S34.1 19) < x34_4 then (j_X12_plans_k3_83 x34_4 S34) else (some (0, S34)))) FU S zc 0) else (l_X12_plans_k3_130 zb (fun S9 x9_4 x9_5 =>
  l_X12_plans_k3_177 zb x9_4 (fun S27 x27_5 =>
  some (0, S27)) FU S9 (-1)) FU S zc 0))

def l_X12_plans_k2_130 (zb : Int32) (k130 : FS → Int32 → Int32 → Option (Int32 × FS)) : Nat → FS → Int32 → Int32 → Option (Int32 × FS)
  | 0, _, _, _ => none
  | m130 + 1, S3, x3_4, x3_5 => if x3_5 < 6 then (if ((zb >>> (x3_5 &&& 31)) &&& 1) = 1 then (fb (ix 2071 (20 + (3 * x3_5))) (fun j7 =>
      fv (x3_4 + (S3.2 55 j7)) (fun x8 =>
      l_X12_plans_k2_130 zb k130 m130 S3 x8 (x3_5 + 1)))) else (fv (x3_4 + 0) (fun x6 =>
      l_X12_plans_k2_130 zb k130 m130 S3 x6 (x3_5 + 1)))) else (k130 S3 x3_4 x3_5)
def l_X12_plans_k2_177 (zb : Int32) (x9_4 : Int32) (k177 : FS → Int32 → Option (Int32 × FS)) : Nat → FS → Int32 → Option (Int32 × FS)
  | 0, _, _ => none
  | m177 + 1, S10, x10_5 => if x10_5 < 6 then (if x10_5 < 0 then (fb (ix 96 ((24 * (S10.1 18)) + 2)) (fun j13 =>
      fv ((x9_4 - (S10.2 72 j13)) + 0) (fun x14 =>
      if x14 < 0 then (l_X12_plans_k2_177 zb x9_4 k177 m177 S10 (x10_5 + 1)) else (fl (wA S10 67 2 x10_5) (fun S16 =>
       fb (f_X12_plans_k3 S16 zb x14) (fun r18 =>
       l_X12_plans_k2_177 zb x9_4 k177 m177 r18.2 (x10_5 + 1))))))) else (if ((zb >>> (x10_5 &&& 31)) &&& 1) = 0 then (l_X12_plans_k2_177 zb x9_4 k177 m177 S10 (x10_5 + 1)) else (fb (ix 96 ((24 * (S10.1 18)) + 2)) (fun j20 =>
       fb (ix 2071 (20 + (3 * x10_5))) (fun j21 =>
       fv ((x9_4 - (S10.2 72 j20)) + (4 * (S10.2 55 j21))) (fun x22 =>
       if x22 < 0 then (l_X12_plans_k2_177 zb x9_4 k177 m177 S10 (x10_5 + 1)) else (fl (wA S10 67 2 x10_5) (fun S24 =>
        fb (f_X12_plans_k3 S24 (zb &&& (((1 : Int32) <<< (x10_5 &&& 31)) ^^^ (-1))) x22) (fun r26 =>
        l_X12_plans_k2_177 zb x9_4 k177 m177 r26.2 (x10_5 + 1)))))))))) else (k177 S10 x10_5)
def l_X12_plans_k2_19 (zb : Int32) (k19 : FS → Int32 → Int32 → Option (Int32 × FS)) : Nat → FS → Int32 → Int32 → Option (Int32 × FS)
  | 0, _, _, _ => none
  | m19 + 1, S28, x28_4, x28_5 => if x28_5 < 6 then (if ((zb >>> (x28_5 &&& 31)) &&& 1) = 1 then (fb (ix 2071 (20 + (3 * x28_5))) (fun j32 =>
      fv (x28_4 + (8 * (S28.2 55 j32))) (fun x33 =>
      l_X12_plans_k2_19 zb k19 m19 S28 x33 (x28_5 + 1)))) else (fv (x28_4 + 0) (fun x31 =>
      l_X12_plans_k2_19 zb k19 m19 S28 x31 (x28_5 + 1)))) else (k19 S28 x28_4 x28_5)
def l_X12_plans_k2_97 (k97 : FS → Int32 → Option (Int32 × FS)) : Nat → FS → Int32 → Option (Int32 × FS)
  | 0, _, _ => none
  | m97 + 1, S38, x38_5 => if x38_5 < 2 then (fb (ix 8 x38_5) (fun j40 =>
       fl (wA S38 68 j40 (S38.2 67 j40)) (fun S41 =>
       l_X12_plans_k2_97 k97 m97 S41 (x38_5 + 1)))) else (k97 S38 x38_5)
def j_X12_plans_k2_83 (x34_4 : Int32) (S35 : FS) : Option (Int32 × FS) :=
  fl (wI S35 20 1) (fun S36 =>
    fl (wI S36 19 x34_4) (fun S37 =>
    l_X12_plans_k2_97 (fun S42 x42_5 =>
    some (0, S42)) FU S37 0))
def f_X12_plans_k2 (S : FS) (zb : Int32) (zc : Int32) : Option (Int32 × FS) :=
  fb (ix 4 (S.1 18)) (fun j1 =>
 if 2 = (S.2 71 j1) then (l_X12_plans_k2_19 zb (fun S34 x34_4 x34_5 =>
  if (S34.1 20) = 0 then (j_X12_plans_k2_83 x34_4 S34) else (if (S34.1 19) < x34_4 then (j_X12_plans_k2_83 x34_4 S34) else (some (0, S34)))) FU S zc 0) else (l_X12_plans_k2_130 zb (fun S9 x9_4 x9_5 =>
  l_X12_plans_k2_177 zb x9_4 (fun S27 x27_5 =>
  some (0, S27)) FU S9 (-1)) FU S zc 0))

def l_X12_plans_k1_130 (zb : Int32) (k130 : FS → Int32 → Int32 → Option (Int32 × FS)) : Nat → FS → Int32 → Int32 → Option (Int32 × FS)
  | 0, _, _, _ => none
  | m130 + 1, S3, x3_4, x3_5 => if x3_5 < 6 then (if ((zb >>> (x3_5 &&& 31)) &&& 1) = 1 then (fb (ix 2071 (20 + (3 * x3_5))) (fun j7 =>
      fv (x3_4 + (S3.2 55 j7)) (fun x8 =>
      l_X12_plans_k1_130 zb k130 m130 S3 x8 (x3_5 + 1)))) else (fv (x3_4 + 0) (fun x6 =>
      l_X12_plans_k1_130 zb k130 m130 S3 x6 (x3_5 + 1)))) else (k130 S3 x3_4 x3_5)
def l_X12_plans_k1_177 (zb : Int32) (x9_4 : Int32) (k177 : FS → Int32 → Option (Int32 × FS)) : Nat → FS → Int32 → Option (Int32 × FS)
  | 0, _, _ => none
  | m177 + 1, S10, x10_5 => if x10_5 < 6 then (if x10_5 < 0 then (fb (ix 96 ((24 * (S10.1 18)) + 1)) (fun j13 =>
      fv ((x9_4 - (S10.2 72 j13)) + 0) (fun x14 =>
      if x14 < 0 then (l_X12_plans_k1_177 zb x9_4 k177 m177 S10 (x10_5 + 1)) else (fl (wA S10 67 1 x10_5) (fun S16 =>
       fb (f_X12_plans_k2 S16 zb x14) (fun r18 =>
       l_X12_plans_k1_177 zb x9_4 k177 m177 r18.2 (x10_5 + 1))))))) else (if ((zb >>> (x10_5 &&& 31)) &&& 1) = 0 then (l_X12_plans_k1_177 zb x9_4 k177 m177 S10 (x10_5 + 1)) else (fb (ix 96 ((24 * (S10.1 18)) + 1)) (fun j20 =>
       fb (ix 2071 (20 + (3 * x10_5))) (fun j21 =>
       fv ((x9_4 - (S10.2 72 j20)) + (4 * (S10.2 55 j21))) (fun x22 =>
       if x22 < 0 then (l_X12_plans_k1_177 zb x9_4 k177 m177 S10 (x10_5 + 1)) else (fl (wA S10 67 1 x10_5) (fun S24 =>
        fb (f_X12_plans_k2 S24 (zb &&& (((1 : Int32) <<< (x10_5 &&& 31)) ^^^ (-1))) x22) (fun r26 =>
        l_X12_plans_k1_177 zb x9_4 k177 m177 r26.2 (x10_5 + 1)))))))))) else (k177 S10 x10_5)
def l_X12_plans_k1_19 (zb : Int32) (k19 : FS → Int32 → Int32 → Option (Int32 × FS)) : Nat → FS → Int32 → Int32 → Option (Int32 × FS)
  | 0, _, _, _ => none
  | m19 + 1, S28, x28_4, x28_5 => if x28_5 < 6 then (if ((zb >>> (x28_5 &&& 31)) &&& 1) = 1 then (fb (ix 2071 (20 + (3 * x28_5))) (fun j32 =>
      fv (x28_4 + (8 * (S28.2 55 j32))) (fun x33 =>
      l_X12_plans_k1_19 zb k19 m19 S28 x33 (x28_5 + 1)))) else (fv (x28_4 + 0) (fun x31 =>
      l_X12_plans_k1_19 zb k19 m19 S28 x31 (x28_5 + 1)))) else (k19 S28 x28_4 x28_5)
def l_X12_plans_k1_97 (k97 : FS → Int32 → Option (Int32 × FS)) : Nat → FS → Int32 → Option (Int32 × FS)
  | 0, _, _ => none
  | m97 + 1, S38, x38_5 => if x38_5 < 1 then (fb (ix 8 x38_5) (fun j40 =>
       fl (wA S38 68 j40 (S38.2 67 j40)) (fun S41 =>
       l_X12_plans_k1_97 k97 m97 S41 (x38_5 + 1)))) else (k97 S38 x38_5)
def j_X12_plans_k1_83 (x34_4 : Int32) (S35 : FS) : Option (Int32 × FS) :=
  fl (wI S35 20 1) (fun S36 =>
    fl (wI S36 19 x34_4) (fun S37 =>
    l_X12_plans_k1_97 (fun S42 x42_5 =>
    some (0, S42)) FU S37 0))
def f_X12_plans_k1 (S : FS) (zb : Int32) (zc : Int32) : Option (Int32 × FS) :=
  fb (ix 4 (S.1 18)) (fun j1 =>
 if 1 = (S.2 71 j1) then (l_X12_plans_k1_19 zb (fun S34 x34_4 x34_5 =>
  if (S34.1 20) = 0 then (j_X12_plans_k1_83 x34_4 S34) else (if (S34.1 19) < x34_4 then (j_X12_plans_k1_83 x34_4 S34) else (some (0, S34)))) FU S zc 0) else (l_X12_plans_k1_130 zb (fun S9 x9_4 x9_5 =>
  l_X12_plans_k1_177 zb x9_4 (fun S27 x27_5 =>
  some (0, S27)) FU S9 (-1)) FU S zc 0))

def l_X12_plans_k0_130 (zb : Int32) (k130 : FS → Int32 → Int32 → Option (Int32 × FS)) : Nat → FS → Int32 → Int32 → Option (Int32 × FS)
  | 0, _, _, _ => none
  | m130 + 1, S3, x3_4, x3_5 => if x3_5 < 6 then (if ((zb >>> (x3_5 &&& 31)) &&& 1) = 1 then (fb (ix 2071 (20 + (3 * x3_5))) (fun j7 =>
      fv (x3_4 + (S3.2 55 j7)) (fun x8 =>
      l_X12_plans_k0_130 zb k130 m130 S3 x8 (x3_5 + 1)))) else (fv (x3_4 + 0) (fun x6 =>
      l_X12_plans_k0_130 zb k130 m130 S3 x6 (x3_5 + 1)))) else (k130 S3 x3_4 x3_5)
def l_X12_plans_k0_177 (zb : Int32) (x9_4 : Int32) (k177 : FS → Int32 → Option (Int32 × FS)) : Nat → FS → Int32 → Option (Int32 × FS)
  | 0, _, _ => none
  | m177 + 1, S10, x10_5 => if x10_5 < 6 then (if x10_5 < 0 then (fb (ix 96 ((24 * (S10.1 18)) + 0)) (fun j13 =>
      fv ((x9_4 - (S10.2 72 j13)) + 0) (fun x14 =>
      if x14 < 0 then (l_X12_plans_k0_177 zb x9_4 k177 m177 S10 (x10_5 + 1)) else (fl (wA S10 67 0 x10_5) (fun S16 =>
       fb (f_X12_plans_k1 S16 zb x14) (fun r18 =>
       l_X12_plans_k0_177 zb x9_4 k177 m177 r18.2 (x10_5 + 1))))))) else (if ((zb >>> (x10_5 &&& 31)) &&& 1) = 0 then (l_X12_plans_k0_177 zb x9_4 k177 m177 S10 (x10_5 + 1)) else (fb (ix 96 ((24 * (S10.1 18)) + 0)) (fun j20 =>
       fb (ix 2071 (20 + (3 * x10_5))) (fun j21 =>
       fv ((x9_4 - (S10.2 72 j20)) + (4 * (S10.2 55 j21))) (fun x22 =>
       if x22 < 0 then (l_X12_plans_k0_177 zb x9_4 k177 m177 S10 (x10_5 + 1)) else (fl (wA S10 67 0 x10_5) (fun S24 =>
        fb (f_X12_plans_k1 S24 (zb &&& (((1 : Int32) <<< (x10_5 &&& 31)) ^^^ (-1))) x22) (fun r26 =>
        l_X12_plans_k0_177 zb x9_4 k177 m177 r26.2 (x10_5 + 1)))))))))) else (k177 S10 x10_5)
def l_X12_plans_k0_19 (zb : Int32) (k19 : FS → Int32 → Int32 → Option (Int32 × FS)) : Nat → FS → Int32 → Int32 → Option (Int32 × FS)
  | 0, _, _, _ => none
  | m19 + 1, S28, x28_4, x28_5 => if x28_5 < 6 then (if ((zb >>> (x28_5 &&& 31)) &&& 1) = 1 then (fb (ix 2071 (20 + (3 * x28_5))) (fun j32 =>
      fv (x28_4 + (8 * (S28.2 55 j32))) (fun x33 =>
      l_X12_plans_k0_19 zb k19 m19 S28 x33 (x28_5 + 1)))) else (fv (x28_4 + 0) (fun x31 =>
      l_X12_plans_k0_19 zb k19 m19 S28 x31 (x28_5 + 1)))) else (k19 S28 x28_4 x28_5)
def l_X12_plans_k0_97 (k97 : FS → Int32 → Option (Int32 × FS)) : Nat → FS → Int32 → Option (Int32 × FS)
  | 0, _, _ => none
  | m97 + 1, S38, x38_5 => if x38_5 < 0 then (fb (ix 8 x38_5) (fun j40 =>
       fl (wA S38 68 j40 (S38.2 67 j40)) (fun S41 =>
       l_X12_plans_k0_97 k97 m97 S41 (x38_5 + 1)))) else (k97 S38 x38_5)
def j_X12_plans_k0_83 (x34_4 : Int32) (S35 : FS) : Option (Int32 × FS) :=
  fl (wI S35 20 1) (fun S36 =>
    fl (wI S36 19 x34_4) (fun S37 =>
    l_X12_plans_k0_97 (fun S42 x42_5 =>
    some (0, S42)) FU S37 0))
def f_X12_plans_k0 (S : FS) (zb : Int32) (zc : Int32) : Option (Int32 × FS) :=
  fb (ix 4 (S.1 18)) (fun j1 =>
 if 0 = (S.2 71 j1) then (l_X12_plans_k0_19 zb (fun S34 x34_4 x34_5 =>
  if (S34.1 20) = 0 then (j_X12_plans_k0_83 x34_4 S34) else (if (S34.1 19) < x34_4 then (j_X12_plans_k0_83 x34_4 S34) else (some (0, S34)))) FU S zc 0) else (l_X12_plans_k0_130 zb (fun S9 x9_4 x9_5 =>
  l_X12_plans_k0_177 zb x9_4 (fun S27 x27_5 =>
  some (0, S27)) FU S9 (-1)) FU S zc 0))

def l_X12_plan_68 (za : Int32) (k68 : FS → Int32 → Int32 → Option (Int32 × FS)) : Nat → FS → Int32 → Int32 → Option (Int32 × FS)
  | 0, _, _, _ => none
  | m68 + 1, S5, x5_3, x5_4 => fb (ix 4 za) (fun j6 =>
       if x5_4 < (S5.2 71 j6) then (if x5_3 = 0 then (l_X12_plan_68 za k68 m68 S5 0 (x5_4 + 1)) else (fb (ix 96 ((24 * za) + x5_4)) (fun j9 =>
         if (p_X12_in S5 (S5.2 72 j9) 0 9999) = 0 then (l_X12_plan_68 za k68 m68 S5 0 (x5_4 + 1)) else (l_X12_plan_68 za k68 m68 S5 1 (x5_4 + 1))))) else (k68 S5 x5_3 x5_4))
def l_X12_plan_133 (k133 : FS → Int32 → Int32 → Option (Int32 × FS)) : Nat → FS → Int32 → Int32 → Option (Int32 × FS)
  | 0, _, _, _ => none
  | m133 + 1, S13, x13_4, x13_5 => if x13_5 < 6 then (if x13_5 < (S13.2 55 0) then (fb (ix 2071 ((20 + (3 * x13_5)) + 1)) (fun j16 =>
          if (S13.2 55 j16) = (-1) then (fb (ix 2071 ((20 + (3 * x13_5)) + 2)) (fun j19 =>
           if (S13.2 55 j19) = 0 then (fv (x13_4 ||| ((1 : Int32) <<< (x13_5 &&& 31))) (fun x22 =>
            l_X12_plan_133 k133 m133 S13 x22 (x13_5 + 1))) else (fv (x13_4 ||| 0) (fun x21 =>
            l_X12_plan_133 k133 m133 S13 x21 (x13_5 + 1))))) else (fv (x13_4 ||| 0) (fun x18 =>
           l_X12_plan_133 k133 m133 S13 x18 (x13_5 + 1))))) else (k133 S13 x13_4 x13_5)) else (k133 S13 x13_4 x13_5)
def j_X12_plan_65 (za : Int32) (zb : Int32) (S4 : FS) (v4_3 : Int32) : Option (Int32 × FS) :=
  l_X12_plan_68 za (fun S11 x11_3 x11_4 =>
     if x11_3 = 0 then (fb (f_X12_finds S11 1) (fun r34 =>
      some (r34.1, r34.2))) else (l_X12_plan_133 (fun S23 x23_4 x23_5 =>
      fl (wI S23 18 za) (fun S24 =>
      fl (wI S24 20 0) (fun S25 =>
      fb (f_X12_plans_k0 S25 x23_4 (S25.2 55 9)) (fun r27 =>
      if (r27.2.1 20) = 0 then (fb (f_X12_finds r27.2 3) (fun r32 =>
       some (r32.1, r32.2))) else (if zb < 0 then (some (r27.2.1 19, r27.2)) else (fb (ix 8 zb) (fun j30 =>
        some (r27.2.2 68 j30, r27.2)))))))) FU S11 0 0)) FU S4 v4_3 0
def f_X12_plan (S : FS) (za : Int32) (zb : Int32) : Option (Int32 × FS) :=
  if (p_X12_isSheet S za) = 0 then (fb (f_X12_finds S 1) (fun r40 =>
  some (r40.1, r40.2))) else (fb (ix 4 za) (fun j2 =>
  if (S.2 70 j2) = 0 then (fb (f_X12_finds S 2) (fun r38 =>
   some (r38.1, r38.2))) else (if (p_X12_in S (S.2 71 j2) 1 8) = 0 then (j_X12_plan_65 za zb S 0) else (if (p_X12_in S zb (-1) ((S.2 71 j2) - 1)) = 0 then (j_X12_plan_65 za zb S 0) else (j_X12_plan_65 za zb S 1)))))

def f_X12_power (S : FS) (za : Int32) (zb : Int32) (zc : Int32) : Option (Int32 × FS) :=
  if (p_X12_in S za 0 5) = 0 then (fb (f_X12_finds S 1) (fun r3 =>
  some (r3.1, r3.2))) else (if zb = (-1) then (if (p_X12_in S zc 0 99) = 0 then (fb (f_X12_finds S 1) (fun r12 =>
    some (r12.1, r12.2))) else (if (S.2 55 3) = 20 then (fb (f_X12_finds S 4) (fun r10 =>
     some (r10.1, r10.2))) else (fb (f_X12_newPower S za zb zc (-1)) (fun r8 =>
     some (r8.1, r8.2))))) else (if (p_X12_isPerson S zb) = 0 then (fb (f_X12_finds S 1) (fun r15 =>
    some (r15.1, r15.2))) else (fb (q_X12_lives S zb) (fun x17 =>
    if x17 = 0 then (fb (f_X12_finds S 1) (fun r20 =>
     some (r20.1, r20.2))) else (if (p_X12_in S zc 0 99) = 0 then (fb (f_X12_finds S 1) (fun r28 =>
      some (r28.1, r28.2))) else (if (S.2 55 3) = 20 then (fb (f_X12_finds S 4) (fun r26 =>
       some (r26.1, r26.2))) else (fb (f_X12_newPower S za zb zc (-1)) (fun r24 =>
       some (r24.1, r24.2)))))))))

def l_X12_press_94 (x26 : Int32) (k94 : FS → Int32 → Int32 → Option (Int32 × FS)) : Nat → FS → Int32 → Int32 → Option (Int32 × FS)
  | 0, _, _, _ => none
  | m94 + 1, S27, x27_4, x27_5 => if x27_5 < (S27.2 55 3) then (fb (q_X12_its S27 x27_5 0) (fun x30 =>
          if x30 = 2 then (fb (q_X12_its S27 x27_5 5) (fun x34 =>
           if x34 = x26 then (fb (q_X12_whoHas S27 x27_5) (fun x38 =>
            if x38 < 0 then (fv (x27_4 ||| 0) (fun x40 =>
             l_X12_press_94 x26 k94 m94 S27 x40 (x27_5 + 1))) else (fb (q_X12_whoHas S27 x27_5) (fun x42 =>
             fv (x27_4 ||| ((1 : Int32) <<< (x42 &&& 31))) (fun x43 =>
             l_X12_press_94 x26 k94 m94 S27 x43 (x27_5 + 1)))))) else (fv (x27_4 ||| 0) (fun x36 =>
            l_X12_press_94 x26 k94 m94 S27 x36 (x27_5 + 1))))) else (fv (x27_4 ||| 0) (fun x32 =>
           l_X12_press_94 x26 k94 m94 S27 x32 (x27_5 + 1))))) else (k94 S27 x27_4 x27_5)
def f_X12_press (S : FS) (za : Int32) (zb : Int32) : Option (Int32 × FS) :=
  if (p_X12_isLetter S za) = 0 then (fb (f_X12_finds S 1) (fun r3 =>
  some (r3.1, r3.2))) else (if (p_X12_isPower S zb) = 0 then (fb (f_X12_finds S 1) (fun r80 =>
   some (r80.1, r80.2))) else (fb (q_X12_its S zb 0) (fun x6 =>
   if x6 = 2 then (fb (q_X12_of S za 4) (fun x9 =>
    if x9 < 0 then (fb (q_X12_whoHas S zb) (fun x14 =>
     if x14 < 0 then (fb (f_X12_finds S 3) (fun r17 =>
      some (r17.1, r17.2))) else (fb (q_X12_whoHas S zb) (fun x19 =>
      fb (q_X12_man S x19 4) (fun x21 =>
      fb (q_X12_of S za 10) (fun x23 =>
      if x21 = x23 then (fb (q_X12_its S zb 5) (fun x26 =>
       l_X12_press_94 x26 (fun S44 x44_4 x44_5 =>
       fb (q_X12_of S44 za 10) (fun x46 =>
       fb (q_X12_thoseIn S44 x46) (fun x48 =>
       fv (x48 &&& x44_4) (fun x49 =>
       fb (q_X12_of S44 za 3) (fun x51 =>
       if x51 = 0 then (fb (f_X12_writes S44 za 9 x49) (fun r66 =>
        fb (q_X12_of r66.2 za 3) (fun x68 =>
        fb (f_X12_writes r66.2 za 3 (x68 ||| ((1 : Int32) <<< (x26 &&& 31)))) (fun r70 =>
        fb (q_X12_of r70.2 za 3) (fun x72 =>
        fb (q_X12_bits r70.2 x72) (fun x74 =>
        some (x74, r70.2))))))) else (fb (q_X12_of S44 za 9) (fun x54 =>
        fb (f_X12_writes S44 za 9 (x54 &&& x49)) (fun r56 =>
        fb (q_X12_of r56.2 za 3) (fun x58 =>
        fb (f_X12_writes r56.2 za 3 (x58 ||| ((1 : Int32) <<< (x26 &&& 31)))) (fun r60 =>
        fb (q_X12_of r60.2 za 3) (fun x62 =>
        fb (q_X12_bits r60.2 x62) (fun x64 =>
        some (x64, r60.2))))))))))))) FU S 0 0)) else (fb (f_X12_finds S 3) (fun r76 =>
       some (r76.1, r76.2))))))))) else (fb (f_X12_finds S 3) (fun r12 =>
     some (r12.1, r12.2))))) else (fb (f_X12_finds S 5) (fun r78 =>
    some (r78.1, r78.2))))))

def f_X12_price (S : FS) (za : Int32) (zb : Int32) : Option (Int32 × FS) :=
  if (p_X12_isPerson S za) = 0 then (fb (f_X12_finds S 1) (fun r3 =>
  some (r3.1, r3.2))) else (if (p_X12_in S zb 1 999) = 0 then (fb (f_X12_finds S 1) (fun r10 =>
   some (r10.1, r10.2))) else (fb (q_X12_man S za 12) (fun x6 =>
   fb (f_X12_sets S za 12 zb) (fun r8 =>
   some (x6, r8.2)))))

def l_X12_promise_81 (za : Int32) (zb : Int32) (x11 : Int32) (k81 : FS → Int32 → Option (Int32 × FS)) : Nat → FS → Int32 → Option (Int32 × FS)
  | 0, _, _ => none
  | m81 + 1, S13, x13_6 => if x13_6 < x11 then (fb (q_X12_promised S13 x13_6 0) (fun x16 =>
         if x16 = za then (fb (q_X12_promised S13 x13_6 1) (fun x19 =>
          if x19 = zb then (fb (ix 2071 ((1806 + (6 * x13_6)) + 5)) (fun j21 =>
           fl (wA S13 55 j21 1) (fun S22 =>
           l_X12_promise_81 za zb x11 k81 m81 S22 (x13_6 + 1)))) else (l_X12_promise_81 za zb x11 k81 m81 S13 (x13_6 + 1)))) else (l_X12_promise_81 za zb x11 k81 m81 S13 (x13_6 + 1)))) else (k81 S13 x13_6)
def f_X12_promise (S : FS) (za : Int32) (zb : Int32) (zc : Int32) (zd : Int32) : Option (Int32 × FS) :=
  if (p_X12_isPerson S za) = 0 then (fb (f_X12_finds S 1) (fun r3 =>
  some (r3.1, r3.2))) else (if (p_X12_in S zb 0 5) = 0 then (fb (f_X12_finds S 1) (fun r6 =>
   some (r6.1, r6.2))) else (if (p_X12_in S zc (S.2 55 8) 2000) = 0 then (fb (f_X12_finds S 1) (fun r49 =>
    some (r49.1, r49.2))) else (fb (q_X12_man S za 11) (fun x9 =>
    if x9 = 0 then (fb (f_X12_finds S 3) (fun r47 =>
     some (r47.1, r47.2))) else (fv (S.2 55 7) (fun x11 =>
     if x11 = 30 then (fb (f_X12_finds S 4) (fun r45 =>
      some (r45.1, r45.2))) else (l_X12_promise_81 za zb x11 (fun S23 x23_6 =>
      fl (wA S23 55 7 ((S23.2 55 7) + 1)) (fun S24 =>
      fb (ix 2071 (1806 + (6 * x11))) (fun j25 =>
      fl (wA S24 55 j25 za) (fun S26 =>
      fb (ix 2071 ((1806 + (6 * x11)) + 1)) (fun j27 =>
      fl (wA S26 55 j27 zb) (fun S28 =>
      fb (ix 2071 ((1806 + (6 * x11)) + 2)) (fun j29 =>
      fl (wA S28 55 j29 zc) (fun S30 =>
      if zd = 0 then (fb (ix 2071 ((1806 + (6 * x11)) + 3)) (fun j32 =>
       fl (wA S30 55 j32 0) (fun S33 =>
       fb (ix 2071 ((1806 + (6 * x11)) + 4)) (fun j34 =>
       fl (wA S33 55 j34 0) (fun S35 =>
       fb (ix 2071 ((1806 + (6 * x11)) + 5)) (fun j36 =>
       fl (wA S35 55 j36 0) (fun S37 =>
       some (x11, S37)))))))) else (fb (ix 2071 ((1806 + (6 * x11)) + 3)) (fun j38 =>
       fl (wA S30 55 j38 1) (fun S39 =>
       fb (ix 2071 ((1806 + (6 * x11)) + 4)) (fun j40 =>
       fl (wA S39 55 j40 0) (fun S41 =>
       fb (ix 2071 ((1806 + (6 * x11)) + 5)) (fun j42 =>
       fl (wA S41 55 j42 0) (fun S43 =>
       some (x11, S43)))))))))))))))) FU S 0)))))))

def f_X12_put (S : FS) (za : Int32) (zb : Int32) (zc : Int32) : Option (Int32 × FS) :=
  if (p_X12_isSheet S za) = 0 then (fb (f_X12_finds S 1) (fun r18 =>
  some (r18.1, r18.2))) else (fb (ix 4 za) (fun j2 =>
  if (S.2 70 j2) = 0 then (fb (f_X12_finds S 2) (fun r16 =>
   some (r16.1, r16.2))) else (if (p_X12_in S zb 0 ((S.2 71 j2) - 1)) = 0 then (fb (f_X12_finds S 1) (fun r14 =>
    some (r14.1, r14.2))) else (if (S.2 70 j2) = 8 then (fb (ix 96 ((24 * za) + zb)) (fun j11 =>
     fl (wA S 72 j11 zc.toInt8.toInt32) (fun S12 =>
     some (1, S12)))) else (if (S.2 70 j2) = 16 then (fb (ix 96 ((24 * za) + zb)) (fun j9 =>
      fl (wA S 72 j9 zc.toInt16.toInt32) (fun S10 =>
      some (1, S10)))) else (fb (ix 96 ((24 * za) + zb)) (fun j7 =>
      fl (wA S 72 j7 zc) (fun S8 =>
      some (1, S8)))))))))

def f_X12_ranksPower (S : FS) (za : Int32) (zb : Int32) : Option (Int32 × FS) :=
  fb (f_X12_ran S 12) (fun r2 =>
 some (zb - za, r2.2))

def f_X12_ranksOf (S : FS) (za : Int32) (zb : Int32) : Option (Int32 × FS) :=
  fb (q_X12_its S za 0) (fun x2 =>
 if x2 = 2 then (fb (f_X12_ran S 30) (fun r5 =>
  fb (f_X12_ranksPower r5.2 za zb) (fun r7 =>
  some (r7.1 * 3, r7.2)))) else (fb (f_X12_ranksPower S za zb) (fun r9 =>
  some (r9.1, r9.2))))

def f_X12_rent (S : FS) (za : Int32) (zb : Int32) : Option (Int32 × FS) :=
  if (p_X12_isTown S za) = 0 then (fb (f_X12_finds S 1) (fun r3 =>
  some (r3.1, r3.2))) else (if (p_X12_in S zb 0 999) = 0 then (fb (f_X12_finds S 1) (fun r9 =>
   some (r9.1, r9.2))) else (fb (ix 2071 (20 + (3 * za))) (fun j5 =>
   fv (S.2 55 j5) (fun x6 =>
   fl (wA S 55 j5 zb) (fun S7 =>
   some (x6, S7))))))

def l_X12_rents_85 (za : Int32) (j2 : Nat) (k85 : FS → Int32 → Option (Int32 × FS)) : Nat → FS → Int32 → Option (Int32 × FS)
  | 0, _, _ => none
  | m85 + 1, S6, x6_3 => if x6_3 < (S6.2 71 j2) then (fb (ix 96 ((24 * za) + x6_3)) (fun j8 =>
         if (p_X12_in S6 (S6.2 72 j8) (-1) 999) = 0 then (fb (f_X12_finds S6 1) (fun r11 =>
          some (r11.1, r11.2))) else (l_X12_rents_85 za j2 k85 m85 S6 (x6_3 + 1)))) else (k85 S6 x6_3)
def l_X12_rents_133 (za : Int32) (j2 : Nat) (k133 : FS → Int32 → Int32 → Option (Int32 × FS)) : Nat → FS → Int32 → Int32 → Option (Int32 × FS)
  | 0, _, _, _ => none
  | m133 + 1, S13, x13_3, x13_4 => if x13_4 < (S13.2 71 j2) then (fb (ix 96 ((24 * za) + x13_4)) (fun j15 =>
         if (S13.2 72 j15) < 0 then (l_X12_rents_133 za j2 k133 m133 S13 x13_3 (x13_4 + 1)) else (fb (ix 2071 (20 + (3 * x13_4))) (fun j17 =>
          fl (wA S13 55 j17 (S13.2 72 j15)) (fun S18 =>
          l_X12_rents_133 za j2 k133 m133 S18 (x13_3 + 1) (x13_4 + 1)))))) else (k133 S13 x13_3 x13_4)
def j_X12_rents_31 (za : Int32) (zb : Int32) (S1 : FS) : Option (Int32 × FS) :=
  fb (ix 4 za) (fun j2 =>
   if (S1.2 70 j2) = 0 then (fb (f_X12_finds S1 2) (fun r25 =>
    some (r25.1, r25.2))) else (if (S1.2 70 j2) = zb then (if (S1.2 55 0) < (S1.2 71 j2) then (fb (f_X12_finds S1 3) (fun r21 =>
      some (r21.1, r21.2))) else (l_X12_rents_85 za j2 (fun S12 x12_3 =>
      l_X12_rents_133 za j2 (fun S19 x19_3 x19_4 =>
      some (x19_3, S19)) FU S12 0 0) FU S1 0)) else (fb (f_X12_finds S1 5) (fun r23 =>
     some (r23.1, r23.2)))))
def f_X12_rents (S : FS) (za : Int32) (zb : Int32) : Option (Int32 × FS) :=
  if (p_X12_isSheet S za) = 0 then (fb (f_X12_finds S 1) (fun r28 =>
  some (r28.1, r28.2))) else (if zb = 8 then (j_X12_rents_31 za zb S) else (if zb = 16 then (j_X12_rents_31 za zb S) else (if zb = 32 then (j_X12_rents_31 za zb S) else (fb (f_X12_finds S 1) (fun r33 =>
     some (r33.1, r33.2))))))

def l_X12_restore_15 (k15 : FS → Int32 → Option (Int32 × FS)) : Nat → FS → Int32 → Option (Int32 × FS)
  | 0, _, _ => none
  | m15 + 1, S2, x2_1 => if x2_1 < 2071 then (fb (ix 2071 x2_1) (fun j4 =>
     fl (wA S2 55 j4 (S2.2 56 j4)) (fun S5 =>
     l_X12_restore_15 k15 m15 S5 (x2_1 + 1)))) else (k15 S2 x2_1)
def f_X12_restore (S : FS) : Option (Int32 × FS) :=
  if (S.1 3) = 0 then (fb (f_X12_finds S 2) (fun r8 =>
  some (r8.1, r8.2))) else (l_X12_restore_15 (fun S6 x6_1 =>
  some (S6.2 55 8, S6)) FU S 0)

def f_X12_road (S : FS) (za : Int32) (zb : Int32) (zc : Int32) : Option (Int32 × FS) :=
  if (p_X12_isTown S za) = 0 then (fb (f_X12_finds S 1) (fun r3 =>
  some (r3.1, r3.2))) else (if (p_X12_isTown S zb) = 0 then (fb (f_X12_finds S 1) (fun r6 =>
   some (r6.1, r6.2))) else (if za = zb then (fb (f_X12_finds S 1) (fun r9 =>
    some (r9.1, r9.2))) else (if (p_X12_in S zc 1 9) = 0 then (fb (f_X12_finds S 1) (fun r23 =>
     some (r23.1, r23.2))) else (fv (S.2 55 1) (fun x11 =>
     if x11 = 20 then (fb (f_X12_finds S 4) (fun r21 =>
      some (r21.1, r21.2))) else (fl (wA S 55 1 ((S.2 55 1) + 1)) (fun S13 =>
      fb (ix 2071 (50 + (3 * x11))) (fun j14 =>
      fl (wA S13 55 j14 za) (fun S15 =>
      fb (ix 2071 ((50 + (3 * x11)) + 1)) (fun j16 =>
      fl (wA S15 55 j16 zb) (fun S17 =>
      fb (ix 2071 ((50 + (3 * x11)) + 2)) (fun j18 =>
      fl (wA S17 55 j18 zc) (fun S19 =>
      some (x11 + 1, S19))))))))))))))

def f_X12_says (S : FS) (za : Int32) (zb : Int32) (zc : Int32) : Option (Int32 × FS) :=
  if (p_X12_isLaw S za) = 0 then (fb (f_X12_finds S 1) (fun r3 =>
  some (r3.1, r3.2))) else (if zb = (-1) then (if zc = (-1) then (fb (f_X12_comesTo S za zb zc (S.2 55 8)) (fun r7 =>
    some (r7.1, r7.2))) else (if (p_X12_isLetter S zc) = 0 then (fb (f_X12_finds S 1) (fun r12 =>
     some (r12.1, r12.2))) else (fb (f_X12_comesTo S za zb zc (S.2 55 8)) (fun r10 =>
     some (r10.1, r10.2))))) else (if (p_X12_isPerson S zb) = 0 then (fb (f_X12_finds S 1) (fun r15 =>
    some (r15.1, r15.2))) else (if zc = (-1) then (fb (f_X12_comesTo S za zb zc (S.2 55 8)) (fun r18 =>
     some (r18.1, r18.2))) else (if (p_X12_isLetter S zc) = 0 then (fb (f_X12_finds S 1) (fun r23 =>
      some (r23.1, r23.2))) else (fb (f_X12_comesTo S za zb zc (S.2 55 8)) (fun r21 =>
      some (r21.1, r21.2)))))))

def f_X12_seat (S : FS) (za : Int32) (zb : Int32) : Option (Int32 × FS) :=
  if (p_X12_isPerson S za) = 0 then (fb (f_X12_finds S 1) (fun r40 =>
  some (r40.1, r40.2))) else (fb (q_X12_lives S za) (fun x3 =>
  if x3 = 0 then (fb (f_X12_finds S 3) (fun r6 =>
   some (r6.1, r6.2))) else (fb (q_X12_man S za 11) (fun x8 =>
   if x8 = 1 then (if 1 = zb then (fb (f_X12_finds S 3) (fun r38 =>
     some (r38.1, r38.2))) else (if zb = 0 then (fb (f_X12_leaves S za) (fun r25 =>
      fb (q_X12_seatedMany r25.2) (fun x27 =>
      some (x27, r25.2)))) else (fb (q_X12_seatedMany S) (fun x29 =>
      if x29 = 9 then (fb (f_X12_finds S 4) (fun r36 =>
       some (r36.1, r36.2))) else (fb (f_X12_sets S za 11 1) (fun r32 =>
       fb (q_X12_seatedMany r32.2) (fun x34 =>
       some (x34, r32.2)))))))) else (if 0 = zb then (fb (f_X12_finds S 3) (fun r21 =>
     some (r21.1, r21.2))) else (fb (q_X12_seatedMany S) (fun x12 =>
     if x12 = 9 then (fb (f_X12_finds S 4) (fun r19 =>
      some (r19.1, r19.2))) else (fb (f_X12_sets S za 11 1) (fun r15 =>
      fb (q_X12_seatedMany r15.2) (fun x17 =>
      some (x17, r15.2)))))))))))

def f_X12_send (S : FS) (za : Int32) (zb : Int32) : Option (Int32 × FS) :=
  if (p_X12_isLetter S za) = 0 then (fb (f_X12_finds S 1) (fun r3 =>
  some (r3.1, r3.2))) else (if (p_X12_isPerson S zb) = 0 then (fb (f_X12_finds S 1) (fun r38 =>
   some (r38.1, r38.2))) else (fb (q_X12_of S za 4) (fun x6 =>
   if x6 < 0 then (fb (q_X12_lives S zb) (fun x11 =>
    if x11 = 0 then (fb (f_X12_finds S 3) (fun r14 =>
     some (r14.1, r14.2))) else (fb (q_X12_man S zb 4) (fun x16 =>
     if x16 < 0 then (fb (f_X12_finds S 3) (fun r36 =>
      some (r36.1, r36.2))) else (fb (q_X12_of S za 10) (fun x19 =>
      fb (q_X12_man S zb 4) (fun x21 =>
      fb (f_X12_farOf S x19 x21) (fun r23 =>
      if r23.1 < 0 then (fb (f_X12_finds r23.2 2) (fun r34 =>
       some (r34.1, r34.2))) else (fb (f_X12_writes r23.2 za 4 zb) (fun r26 =>
       fb (f_X12_writes r26.2 za 5 ((r26.2.2 55 8) + r23.1)) (fun r28 =>
       fb (q_X12_man r28.2 zb 4) (fun x30 =>
       fb (f_X12_writes r28.2 za 10 x30) (fun r32 =>
       some ((r32.2.2 55 8) + r23.1, r32.2)))))))))))))) else (fb (f_X12_finds S 3) (fun r9 =>
    some (r9.1, r9.2))))))

def l_X12_sheet_90 (za : Int32) (k90 : FS → Int32 → Option (Int32 × FS)) : Nat → FS → Int32 → Option (Int32 × FS)
  | 0, _, _ => none
  | m90 + 1, S3, x3_4 => if x3_4 < 24 then (fb (ix 96 ((24 * za) + x3_4)) (fun j5 =>
        fl (wA S3 72 j5 0) (fun S6 =>
        l_X12_sheet_90 za k90 m90 S6 (x3_4 + 1)))) else (k90 S3 x3_4)
def j_X12_sheet_87 (za : Int32) (S2 : FS) : Option (Int32 × FS) :=
  l_X12_sheet_90 za (fun S7 x7_4 =>
     some (1, S7)) FU S2 0
def j_X12_sheet_65 (za : Int32) (zb : Int32) (zc : Int32) (S1 : FS) : Option (Int32 × FS) :=
  fb (ix 4 za) (fun j8 =>
   fl (wA S1 70 j8 zb) (fun S9 =>
   if zb = 0 then (fl (wA S9 71 j8 0) (fun S12 =>
    j_X12_sheet_87 za S12)) else (fl (wA S9 71 j8 zc) (fun S11 =>
    j_X12_sheet_87 za S11))))
def f_X12_sheet (S : FS) (za : Int32) (zb : Int32) (zc : Int32) : Option (Int32 × FS) :=
  if (p_X12_isSheet S za) = 0 then (fb (f_X12_finds S 1) (fun r15 =>
  some (r15.1, r15.2))) else (if zb = 0 then (j_X12_sheet_65 za zb zc S) else (if zb = 8 then (if zc < 0 then (fb (f_X12_finds S 3) (fun r23 =>
     some (r23.1, r23.2))) else (if 24 < zc then (fb (f_X12_finds S 1) (fun r21 =>
      some (r21.1, r21.2))) else (j_X12_sheet_65 za zb zc S))) else (if zb = 16 then (if zc < 0 then (fb (f_X12_finds S 3) (fun r30 =>
      some (r30.1, r30.2))) else (if 24 < zc then (fb (f_X12_finds S 1) (fun r28 =>
       some (r28.1, r28.2))) else (j_X12_sheet_65 za zb zc S))) else (if zb = 32 then (if zc < 0 then (fb (f_X12_finds S 3) (fun r37 =>
       some (r37.1, r37.2))) else (if 24 < zc then (fb (f_X12_finds S 1) (fun r35 =>
        some (r35.1, r35.2))) else (j_X12_sheet_65 za zb zc S))) else (fb (f_X12_finds S 1) (fun r39 =>
      some (r39.1, r39.2)))))))

def f_X12_strike (S : FS) (za : Int32) : Option (Int32 × FS) :=
  if (p_X12_isLaw S za) = 0 then (fb (f_X12_finds S 1) (fun r8 =>
  some (r8.1, r8.2))) else (fb (ix 2071 ((510 + (65 * za)) + 3)) (fun j2 =>
  if (S.2 55 j2) < 0 then (fl (wA S 55 j2 (S.2 55 8)) (fun S4 =>
   some (1, S4))) else (fb (f_X12_finds S 3) (fun r6 =>
   some (r6.1, r6.2)))))

def f_X12_tell (S : FS) (za : Int32) : Option (Int32 × FS) :=
  if (S.2 55 11) = 20 then (fb (f_X12_finds S 4) (fun r6 =>
  some (r6.1, r6.2))) else (fb (ix 2071 (2051 + (S.2 55 11))) (fun j2 =>
  fl (wA S 55 j2 za) (fun S3 =>
  fl (wA S3 55 11 ((S3.2 55 11) + 1)) (fun S4 =>
  some (S4.2 55 11, S4)))))

def f_X12_tellsPower (S : FS) (za : Int32) (zb : Int32) : Option (Int32 × FS) :=
  fb (f_X12_ran S 13) (fun r2 =>
 fb (f_X12_bindsOf r2.2 za zb) (fun r4 =>
 fb (f_X12_ranksOf r4.2 za zb) (fun r6 =>
 some (r4.1 ^^^ r6.1, r6.2))))

def f_X12_tellsOffice (S : FS) (za : Int32) (zb : Int32) : Option (Int32 × FS) :=
  fb (f_X12_ran S 21) (fun r2 =>
 fb (f_X12_tellsPower r2.2 za (zb + 1)) (fun r4 =>
 some (r4.1, r4.2)))

def f_X12_tellsOf (S : FS) (za : Int32) (zb : Int32) : Option (Int32 × FS) :=
  fb (q_X12_its S za 0) (fun x2 =>
 if x2 = 1 then (fb (f_X12_tellsOffice S za zb) (fun r5 =>
  some (r5.1, r5.2))) else (if x2 = 3 then (fb (f_X12_tellsOffice S za zb) (fun r17 =>
   some (r17.1, r17.2))) else (if x2 = 4 then (fb (f_X12_ran S 51) (fun r9 =>
    fb (f_X12_ranksOf r9.2 za zb) (fun r11 =>
    fb (f_X12_tellsOffice r11.2 za zb) (fun r13 =>
    some (r11.1 - r13.1, r13.2))))) else (fb (f_X12_tellsPower S za zb) (fun r15 =>
    some (r15.1, r15.2))))))

def f_X12_town (S : FS) : Option (Int32 × FS) :=
  fv (S.2 55 0) (fun x1 =>
 if x1 = 10 then (fb (f_X12_finds S 4) (fun r11 =>
  some (r11.1, r11.2))) else (fl (wA S 55 0 ((S.2 55 0) + 1)) (fun S3 =>
  fb (ix 2071 (20 + (3 * x1))) (fun j4 =>
  fl (wA S3 55 j4 0) (fun S5 =>
  fb (ix 2071 ((20 + (3 * x1)) + 1)) (fun j6 =>
  fl (wA S5 55 j6 (-1)) (fun S7 =>
  fb (ix 2071 ((20 + (3 * x1)) + 2)) (fun j8 =>
  fl (wA S7 55 j8 0) (fun S9 =>
  some (x1, S9))))))))))

def f_X12_trace (S : FS) (za : Int32) : Option (Int32 × FS) :=
  if (p_X12_in S za 0 ((S.1 22) - 1)) = 0 then (fb (f_X12_finds S 2) (fun r3 =>
  some (r3.1, r3.2))) else (fb (ix 40 za) (fun j4 =>
  some (S.2 69 j4, S)))

def f_X12_voice (S : FS) (za : Int32) (zb : Int32) (zc : Int32) : Option (Int32 × FS) :=
  if (p_X12_isPower S za) = 0 then (fb (f_X12_finds S 1) (fun r3 =>
  some (r3.1, r3.2))) else (if (p_X12_in S zb 0 3) = 0 then (fb (f_X12_finds S 1) (fun r18 =>
   some (r18.1, r18.2))) else (fl (wI S 22 0) (fun S5 =>
   if zb = 0 then (fb (f_X12_actsOf S5 za zc) (fun r8 =>
    some (r8.1, r8.2))) else if zb = 1 then (fb (f_X12_bindsOf S5 za zc) (fun r11 =>
    some (r11.1, r11.2))) else if zb = 2 then (fb (f_X12_ranksOf S5 za zc) (fun r14 =>
    some (r14.1, r14.2))) else (fb (f_X12_tellsOf S5 za zc) (fun r16 =>
   some (r16.1, r16.2))))))
