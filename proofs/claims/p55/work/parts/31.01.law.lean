set_option maxRecDepth 100000 in
set_option maxHeartbeats 4000000 in
theorem law_force {nm : String} {G : pm_G} {B b cs zs cnt L i w : Nat} {σ : pm_S} {xs : Nat → Int32} (hG : pm_ok (mL_law nm) G B) (hR : pm_rm G 2000 600000 7302250) (hs : pm_scr G B b L xs) (hi : i + 6 ≤ L) (hL : L ≤ 3072) (hc : cs ≤ 590000) (hz : zs ≤ 7200000) (hw : w ≤ 1000) (hl : LI B σ cnt w) (hT : ∀ (σ' : pm_S) (cnt' cs' zs' : Nat), LI B σ' cnt' (w + 1) → cs' ≤ cs + 27 → zs' ≤ zs + 2170 → pm_wp (mL_law nm) G B 2105 [some (.ref b), some (.ref (B + 0)), some (.ref (B + 54)), some (.int (nI i))] [] cs' zs' cnt' σ') : pm_wp (mL_law nm) G B 892 [some (.ref b), some (.ref (B + 0)), some (.ref (B + 54)), some (.int (nI i))] [] cs zs cnt σ := by
  obtain ⟨h74, kp, S, T, lc, lm, ⟨K, h⟩, hx, hk⟩ := hl
  refine pm_weak (pm_sub_two lc) ?_
  refine pm_aloadn hG dL_law_892 rfl ?_
  refine pm_aloadn hG dL_law_893 rfl ?_
  refine pm_iloadn hG dL_law_894 rfl ?_
  refine pm_iconst (v := nI 1) hG dL_law_895 (by decide) ?_
  refine pm_iaddN (c := i + 1) hG dL_law_896 (by omega) ?_
  refine pm_sldN hG hs dL_law_897 (by omega) hL ?_
  refine pm_aloadn hG dL_law_898 rfl ?_
  refine pm_iloadn hG dL_law_899 rfl ?_
  refine pm_iconst (v := nI 2) hG dL_law_900 (by decide) ?_
  refine pm_iaddN (c := i + 2) hG dL_law_901 (by omega) ?_
  refine pm_sldN hG hs dL_law_902 (by omega) hL ?_
  refine pm_aloadn hG dL_law_903 rfl ?_
  refine pm_iloadn hG dL_law_904 rfl ?_
  refine pm_iconst (v := nI 3) hG dL_law_905 (by decide) ?_
  refine pm_iaddN (c := i + 3) hG dL_law_906 (by omega) ?_
  refine pm_sldN hG hs dL_law_907 (by omega) hL ?_
  obtain ⟨v, S1, T1, e1, e2, hr1, hx1, kx⟩ := (op_force (za := xs (i + 1)) (zb := xs (i + 2)) (zc := xs (i + 3)) h).x hx
  refine pm_callV (As := [.int (xs (i + 1)), .int (xs (i + 2)), .int (xs (i + 3))]) (rest := []) hG hR dL_law_908 (lkL_93 _ rfl) okV_X11_force rfl rfl (c_X11_force (d := 1999) (by decide) e1) rfl rfl (by decide) (by omega) (by omega) (by decide) (pm_ki (fun v1 σ1 cnt1 hq => ?_))
  obtain ⟨rfl, rfl, rfl⟩ := hq
  have lm1 : pm_lies (cst B kp S1 σ) 54 (md_F B T.1 T.2) := lm.same (fun j h1 _ => pm_two_hi h1)
  refine pm_weak (pm_sub_mid lm1) ?_
  refine pm_pop hG dL_law_911 rfl ?_
  refine pm_aloadn hG dL_law_912 rfl ?_
  refine pm_aloadn hG dL_law_913 rfl ?_
  refine pm_iloadn hG dL_law_914 rfl ?_
  refine pm_iconst (v := nI 1) hG dL_law_915 (by decide) ?_
  refine pm_iaddN (c := i + 1) hG dL_law_916 (by omega) ?_
  refine pm_sldN hG hs dL_law_917 (by omega) hL ?_
  refine pm_aloadn hG dL_law_918 rfl ?_
  refine pm_iloadn hG dL_law_919 rfl ?_
  refine pm_iconst (v := nI 2) hG dL_law_920 (by decide) ?_
  refine pm_iaddN (c := i + 2) hG dL_law_921 (by omega) ?_
  refine pm_sldN hG hs dL_law_922 (by omega) hL ?_
  refine pm_aloadn hG dL_law_923 rfl ?_
  refine pm_iloadn hG dL_law_924 rfl ?_
  refine pm_iconst (v := nI 3) hG dL_law_925 (by decide) ?_
  refine pm_iaddN (c := i + 3) hG dL_law_926 (by omega) ?_
  refine pm_sldN hG hs dL_law_927 (by omega) hL ?_
  refine pm_callV (As := [.int (xs (i + 1)), .int (xs (i + 2)), .int (xs (i + 3))]) (rest := []) hG hR dL_law_928 (lkL_96 _ rfl) okV_X12_force rfl rfl (c_X12_force (d := 1999) (by decide) e2) rfl rfl (by decide) (by omega) (by omega) (by decide) (pm_ki (fun v2 σ2 cnt2 hq => ?_))
  obtain ⟨rfl, rfl, rfl⟩ := hq
  refine pm_pop hG dL_law_931 rfl ?_
  refine pm_goto (tgt := 2105) hG dL_law_932 rfl ?_
  exact hT _ _ _ _ (LI.nx h74 hk hr1 hx1 kx) (by omega) (by omega)

set_option maxRecDepth 100000 in
set_option maxHeartbeats 4000000 in
theorem law_says {nm : String} {G : pm_G} {B b cs zs cnt L i w : Nat} {σ : pm_S} {xs : Nat → Int32} (hG : pm_ok (mL_law nm) G B) (hR : pm_rm G 2000 600000 7302250) (hs : pm_scr G B b L xs) (hi : i + 6 ≤ L) (hL : L ≤ 3072) (hc : cs ≤ 590000) (hz : zs ≤ 7200000) (hw : w ≤ 1000) (hl : LI B σ cnt w) (hT : ∀ (σ' : pm_S) (cnt' cs' zs' : Nat), LI B σ' cnt' (w + 1) → cs' ≤ cs + 27 → zs' ≤ zs + 2170 → pm_wp (mL_law nm) G B 2105 [some (.ref b), some (.ref (B + 0)), some (.ref (B + 54)), some (.int (nI i))] [] cs' zs' cnt' σ') : pm_wp (mL_law nm) G B 935 [some (.ref b), some (.ref (B + 0)), some (.ref (B + 54)), some (.int (nI i))] [] cs zs cnt σ := by
  obtain ⟨h74, kp, S, T, lc, lm, ⟨K, h⟩, hx, hk⟩ := hl
  refine pm_weak (pm_sub_two lc) ?_
  refine pm_aloadn hG dL_law_935 rfl ?_
  refine pm_aloadn hG dL_law_936 rfl ?_
  refine pm_iloadn hG dL_law_937 rfl ?_
  refine pm_iconst (v := nI 1) hG dL_law_938 (by decide) ?_
  refine pm_iaddN (c := i + 1) hG dL_law_939 (by omega) ?_
  refine pm_sldN hG hs dL_law_940 (by omega) hL ?_
  refine pm_aloadn hG dL_law_941 rfl ?_
  refine pm_iloadn hG dL_law_942 rfl ?_
  refine pm_iconst (v := nI 2) hG dL_law_943 (by decide) ?_
  refine pm_iaddN (c := i + 2) hG dL_law_944 (by omega) ?_
  refine pm_sldN hG hs dL_law_945 (by omega) hL ?_
  refine pm_aloadn hG dL_law_946 rfl ?_
  refine pm_iloadn hG dL_law_947 rfl ?_
  refine pm_iconst (v := nI 3) hG dL_law_948 (by decide) ?_
  refine pm_iaddN (c := i + 3) hG dL_law_949 (by omega) ?_
  refine pm_sldN hG hs dL_law_950 (by omega) hL ?_
  obtain ⟨v, u, S1, T1, e1, e2, hr1, hx1, kx⟩ := (op_says (za := xs (i + 1)) (zb := xs (i + 2)) (zc := xs (i + 3)) h).x hx
  refine pm_callV (As := [.int (xs (i + 1)), .int (xs (i + 2)), .int (xs (i + 3))]) (rest := []) hG hR dL_law_951 (lkL_97 _ rfl) okV_X11_says rfl rfl (c_X11_says (d := 1999) (by decide) e1) rfl rfl (by decide) (by omega) (by omega) (by decide) (pm_ki (fun v1 σ1 cnt1 hq => ?_))
  obtain ⟨rfl, rfl, rfl⟩ := hq
  have lm1 : pm_lies (cst B kp S1 σ) 54 (md_F B T.1 T.2) := lm.same (fun j h1 _ => pm_two_hi h1)
  refine pm_weak (pm_sub_mid lm1) ?_
  refine pm_pop hG dL_law_954 rfl ?_
  refine pm_aloadn hG dL_law_955 rfl ?_
  refine pm_aloadn hG dL_law_956 rfl ?_
  refine pm_iloadn hG dL_law_957 rfl ?_
  refine pm_iconst (v := nI 1) hG dL_law_958 (by decide) ?_
  refine pm_iaddN (c := i + 1) hG dL_law_959 (by omega) ?_
  refine pm_sldN hG hs dL_law_960 (by omega) hL ?_
  refine pm_aloadn hG dL_law_961 rfl ?_
  refine pm_iloadn hG dL_law_962 rfl ?_
  refine pm_iconst (v := nI 2) hG dL_law_963 (by decide) ?_
  refine pm_iaddN (c := i + 2) hG dL_law_964 (by omega) ?_
  refine pm_sldN hG hs dL_law_965 (by omega) hL ?_
  refine pm_aloadn hG dL_law_966 rfl ?_
  refine pm_iloadn hG dL_law_967 rfl ?_
  refine pm_iconst (v := nI 3) hG dL_law_968 (by decide) ?_
  refine pm_iaddN (c := i + 3) hG dL_law_969 (by omega) ?_
  refine pm_sldN hG hs dL_law_970 (by omega) hL ?_
  refine pm_callV (As := [.int (xs (i + 1)), .int (xs (i + 2)), .int (xs (i + 3))]) (rest := []) hG hR dL_law_971 (lkL_100 _ rfl) okV_X12_says rfl rfl (c_X12_says (d := 1999) (by decide) e2) rfl rfl (by decide) (by omega) (by omega) (by decide) (pm_ki (fun v2 σ2 cnt2 hq => ?_))
  obtain ⟨rfl, rfl, rfl⟩ := hq
  refine pm_pop hG dL_law_974 rfl ?_
  refine pm_goto (tgt := 2105) hG dL_law_975 rfl ?_
  exact hT _ _ _ _ (LI.nx h74 hk hr1 hx1 kx) (by omega) (by omega)

set_option maxRecDepth 100000 in
set_option maxHeartbeats 4000000 in
theorem law_draw {nm : String} {G : pm_G} {B b cs zs cnt L i w : Nat} {σ : pm_S} {xs : Nat → Int32} (hG : pm_ok (mL_law nm) G B) (hR : pm_rm G 2000 600000 7302250) (hs : pm_scr G B b L xs) (hi : i + 6 ≤ L) (hL : L ≤ 3072) (hc : cs ≤ 590000) (hz : zs ≤ 7200000) (hw : w ≤ 1000) (hl : LI B σ cnt w) (hT : ∀ (σ' : pm_S) (cnt' cs' zs' : Nat), LI B σ' cnt' (w + 1) → cs' ≤ cs + 27 → zs' ≤ zs + 2170 → pm_wp (mL_law nm) G B 2105 [some (.ref b), some (.ref (B + 0)), some (.ref (B + 54)), some (.int (nI i))] [] cs' zs' cnt' σ') : pm_wp (mL_law nm) G B 978 [some (.ref b), some (.ref (B + 0)), some (.ref (B + 54)), some (.int (nI i))] [] cs zs cnt σ := by
  obtain ⟨h74, kp, S, T, lc, lm, ⟨K, h⟩, hx, hk⟩ := hl
  refine pm_weak (pm_sub_two lc) ?_
  refine pm_aloadn hG dL_law_978 rfl ?_
  refine pm_aloadn hG dL_law_979 rfl ?_
  refine pm_iloadn hG dL_law_980 rfl ?_
  refine pm_iconst (v := nI 1) hG dL_law_981 (by decide) ?_
  refine pm_iaddN (c := i + 1) hG dL_law_982 (by omega) ?_
  refine pm_sldN hG hs dL_law_983 (by omega) hL ?_
  refine pm_aloadn hG dL_law_984 rfl ?_
  refine pm_iloadn hG dL_law_985 rfl ?_
  refine pm_iconst (v := nI 2) hG dL_law_986 (by decide) ?_
  refine pm_iaddN (c := i + 2) hG dL_law_987 (by omega) ?_
  refine pm_sldN hG hs dL_law_988 (by omega) hL ?_
  refine pm_aloadn hG dL_law_989 rfl ?_
  refine pm_iloadn hG dL_law_990 rfl ?_
  refine pm_iconst (v := nI 3) hG dL_law_991 (by decide) ?_
  refine pm_iaddN (c := i + 3) hG dL_law_992 (by omega) ?_
  refine pm_sldN hG hs dL_law_993 (by omega) hL ?_
  obtain ⟨v, S1, T1, e1, e2, hr1, hx1, kx⟩ := (op_draw (za := xs (i + 1)) (zb := xs (i + 2)) (zc := xs (i + 3)) h).x hx
  refine pm_callV (As := [.int (xs (i + 1)), .int (xs (i + 2)), .int (xs (i + 3))]) (rest := []) hG hR dL_law_994 (lkL_101 _ rfl) okV_X11_draw rfl rfl (c_X11_draw (d := 1999) (by decide) e1) rfl rfl (by decide) (by omega) (by omega) (by decide) (pm_ki (fun v1 σ1 cnt1 hq => ?_))
  obtain ⟨rfl, rfl, rfl⟩ := hq
  have lm1 : pm_lies (cst B kp S1 σ) 54 (md_F B T.1 T.2) := lm.same (fun j h1 _ => pm_two_hi h1)
  refine pm_weak (pm_sub_mid lm1) ?_
  refine pm_pop hG dL_law_997 rfl ?_
  refine pm_aloadn hG dL_law_998 rfl ?_
  refine pm_aloadn hG dL_law_999 rfl ?_
  refine pm_iloadn hG dL_law_1000 rfl ?_
  refine pm_iconst (v := nI 1) hG dL_law_1001 (by decide) ?_
  refine pm_iaddN (c := i + 1) hG dL_law_1002 (by omega) ?_
  refine pm_sldN hG hs dL_law_1003 (by omega) hL ?_
  refine pm_aloadn hG dL_law_1004 rfl ?_
  refine pm_iloadn hG dL_law_1005 rfl ?_
  refine pm_iconst (v := nI 2) hG dL_law_1006 (by decide) ?_
  refine pm_iaddN (c := i + 2) hG dL_law_1007 (by omega) ?_
  refine pm_sldN hG hs dL_law_1008 (by omega) hL ?_
  refine pm_aloadn hG dL_law_1009 rfl ?_
  refine pm_iloadn hG dL_law_1010 rfl ?_
  refine pm_iconst (v := nI 3) hG dL_law_1011 (by decide) ?_
  refine pm_iaddN (c := i + 3) hG dL_law_1012 (by omega) ?_
  refine pm_sldN hG hs dL_law_1013 (by omega) hL ?_
  refine pm_callV (As := [.int (xs (i + 1)), .int (xs (i + 2)), .int (xs (i + 3))]) (rest := []) hG hR dL_law_1014 (lkL_104 _ rfl) okV_X12_draw rfl rfl (c_X12_draw (d := 1999) (by decide) e2) rfl rfl (by decide) (by omega) (by omega) (by decide) (pm_ki (fun v2 σ2 cnt2 hq => ?_))
  obtain ⟨rfl, rfl, rfl⟩ := hq
  refine pm_pop hG dL_law_1017 rfl ?_
  refine pm_goto (tgt := 2105) hG dL_law_1018 rfl ?_
  exact hT _ _ _ _ (LI.nx h74 hk hr1 hx1 kx) (by omega) (by omega)

set_option maxRecDepth 100000 in
set_option maxHeartbeats 4000000 in
theorem law_press {nm : String} {G : pm_G} {B b cs zs cnt L i w : Nat} {σ : pm_S} {xs : Nat → Int32} (hG : pm_ok (mL_law nm) G B) (hR : pm_rm G 2000 600000 7302250) (hs : pm_scr G B b L xs) (hi : i + 6 ≤ L) (hL : L ≤ 3072) (hc : cs ≤ 590000) (hz : zs ≤ 7200000) (hw : w ≤ 1000) (hl : LI B σ cnt w) (hT : ∀ (σ' : pm_S) (cnt' cs' zs' : Nat), LI B σ' cnt' (w + 1) → cs' ≤ cs + 27 → zs' ≤ zs + 2170 → pm_wp (mL_law nm) G B 2105 [some (.ref b), some (.ref (B + 0)), some (.ref (B + 54)), some (.int (nI i))] [] cs' zs' cnt' σ') : pm_wp (mL_law nm) G B 1021 [some (.ref b), some (.ref (B + 0)), some (.ref (B + 54)), some (.int (nI i))] [] cs zs cnt σ := by
  obtain ⟨h74, kp, S, T, lc, lm, ⟨K, h⟩, hx, hk⟩ := hl
  refine pm_weak (pm_sub_two lc) ?_
  refine pm_aloadn hG dL_law_1021 rfl ?_
  refine pm_aloadn hG dL_law_1022 rfl ?_
  refine pm_iloadn hG dL_law_1023 rfl ?_
  refine pm_iconst (v := nI 1) hG dL_law_1024 (by decide) ?_
  refine pm_iaddN (c := i + 1) hG dL_law_1025 (by omega) ?_
  refine pm_sldN hG hs dL_law_1026 (by omega) hL ?_
  refine pm_aloadn hG dL_law_1027 rfl ?_
  refine pm_iloadn hG dL_law_1028 rfl ?_
  refine pm_iconst (v := nI 2) hG dL_law_1029 (by decide) ?_
  refine pm_iaddN (c := i + 2) hG dL_law_1030 (by omega) ?_
  refine pm_sldN hG hs dL_law_1031 (by omega) hL ?_
  obtain ⟨v, S1, T1, e1, e2, hr1, hx1, kx⟩ := (op_press (za := xs (i + 1)) (zb := xs (i + 2)) h).x hx
  refine pm_callV (As := [.int (xs (i + 1)), .int (xs (i + 2))]) (rest := []) hG hR dL_law_1032 (lkL_105 _ rfl) okV_X11_press rfl rfl (c_X11_press (d := 1999) (by decide) e1) rfl rfl (by decide) (by omega) (by omega) (by decide) (pm_ki (fun v1 σ1 cnt1 hq => ?_))
  obtain ⟨rfl, rfl, rfl⟩ := hq
  have lm1 : pm_lies (cst B kp S1 σ) 54 (md_F B T.1 T.2) := lm.same (fun j h1 _ => pm_two_hi h1)
  refine pm_weak (pm_sub_mid lm1) ?_
  refine pm_pop hG dL_law_1035 rfl ?_
  refine pm_aloadn hG dL_law_1036 rfl ?_
  refine pm_aloadn hG dL_law_1037 rfl ?_
  refine pm_iloadn hG dL_law_1038 rfl ?_
  refine pm_iconst (v := nI 1) hG dL_law_1039 (by decide) ?_
  refine pm_iaddN (c := i + 1) hG dL_law_1040 (by omega) ?_
  refine pm_sldN hG hs dL_law_1041 (by omega) hL ?_
  refine pm_aloadn hG dL_law_1042 rfl ?_
  refine pm_iloadn hG dL_law_1043 rfl ?_
  refine pm_iconst (v := nI 2) hG dL_law_1044 (by decide) ?_
  refine pm_iaddN (c := i + 2) hG dL_law_1045 (by omega) ?_
  refine pm_sldN hG hs dL_law_1046 (by omega) hL ?_
  refine pm_callV (As := [.int (xs (i + 1)), .int (xs (i + 2))]) (rest := []) hG hR dL_law_1047 (lkL_108 _ rfl) okV_X12_press rfl rfl (c_X12_press (d := 1999) (by decide) e2) rfl rfl (by decide) (by omega) (by omega) (by decide) (pm_ki (fun v2 σ2 cnt2 hq => ?_))
  obtain ⟨rfl, rfl, rfl⟩ := hq
  refine pm_pop hG dL_law_1050 rfl ?_
  refine pm_goto (tgt := 2105) hG dL_law_1051 rfl ?_
  exact hT _ _ _ _ (LI.nx h74 hk hr1 hx1 kx) (by omega) (by omega)

set_option maxRecDepth 100000 in
set_option maxHeartbeats 4000000 in
theorem law_send {nm : String} {G : pm_G} {B b cs zs cnt L i w : Nat} {σ : pm_S} {xs : Nat → Int32} (hG : pm_ok (mL_law nm) G B) (hR : pm_rm G 2000 600000 7302250) (hs : pm_scr G B b L xs) (hi : i + 6 ≤ L) (hL : L ≤ 3072) (hc : cs ≤ 590000) (hz : zs ≤ 7200000) (hw : w ≤ 1000) (hl : LI B σ cnt w) (hT : ∀ (σ' : pm_S) (cnt' cs' zs' : Nat), LI B σ' cnt' (w + 1) → cs' ≤ cs + 27 → zs' ≤ zs + 2170 → pm_wp (mL_law nm) G B 2105 [some (.ref b), some (.ref (B + 0)), some (.ref (B + 54)), some (.int (nI i))] [] cs' zs' cnt' σ') : pm_wp (mL_law nm) G B 1054 [some (.ref b), some (.ref (B + 0)), some (.ref (B + 54)), some (.int (nI i))] [] cs zs cnt σ := by
  obtain ⟨h74, kp, S, T, lc, lm, ⟨K, h⟩, hx, hk⟩ := hl
  refine pm_weak (pm_sub_two lc) ?_
  refine pm_aloadn hG dL_law_1054 rfl ?_
  refine pm_aloadn hG dL_law_1055 rfl ?_
  refine pm_iloadn hG dL_law_1056 rfl ?_
  refine pm_iconst (v := nI 1) hG dL_law_1057 (by decide) ?_
  refine pm_iaddN (c := i + 1) hG dL_law_1058 (by omega) ?_
  refine pm_sldN hG hs dL_law_1059 (by omega) hL ?_
  refine pm_aloadn hG dL_law_1060 rfl ?_
  refine pm_iloadn hG dL_law_1061 rfl ?_
  refine pm_iconst (v := nI 2) hG dL_law_1062 (by decide) ?_
  refine pm_iaddN (c := i + 2) hG dL_law_1063 (by omega) ?_
  refine pm_sldN hG hs dL_law_1064 (by omega) hL ?_
  obtain ⟨v, S1, T1, e1, e2, hr1, hx1, kx⟩ := (op_send (za := xs (i + 1)) (zb := xs (i + 2)) h).x hx
  refine pm_callV (As := [.int (xs (i + 1)), .int (xs (i + 2))]) (rest := []) hG hR dL_law_1065 (lkL_109 _ rfl) okV_X11_send rfl rfl (c_X11_send (d := 1999) (by decide) e1) rfl rfl (by decide) (by omega) (by omega) (by decide) (pm_ki (fun v1 σ1 cnt1 hq => ?_))
  obtain ⟨rfl, rfl, rfl⟩ := hq
  have lm1 : pm_lies (cst B kp S1 σ) 54 (md_F B T.1 T.2) := lm.same (fun j h1 _ => pm_two_hi h1)
  refine pm_weak (pm_sub_mid lm1) ?_
  refine pm_pop hG dL_law_1068 rfl ?_
  refine pm_aloadn hG dL_law_1069 rfl ?_
  refine pm_aloadn hG dL_law_1070 rfl ?_
  refine pm_iloadn hG dL_law_1071 rfl ?_
  refine pm_iconst (v := nI 1) hG dL_law_1072 (by decide) ?_
  refine pm_iaddN (c := i + 1) hG dL_law_1073 (by omega) ?_
  refine pm_sldN hG hs dL_law_1074 (by omega) hL ?_
  refine pm_aloadn hG dL_law_1075 rfl ?_
  refine pm_iloadn hG dL_law_1076 rfl ?_
  refine pm_iconst (v := nI 2) hG dL_law_1077 (by decide) ?_
  refine pm_iaddN (c := i + 2) hG dL_law_1078 (by omega) ?_
  refine pm_sldN hG hs dL_law_1079 (by omega) hL ?_
  refine pm_callV (As := [.int (xs (i + 1)), .int (xs (i + 2))]) (rest := []) hG hR dL_law_1080 (lkL_112 _ rfl) okV_X12_send rfl rfl (c_X12_send (d := 1999) (by decide) e2) rfl rfl (by decide) (by omega) (by omega) (by decide) (pm_ki (fun v2 σ2 cnt2 hq => ?_))
  obtain ⟨rfl, rfl, rfl⟩ := hq
  refine pm_pop hG dL_law_1083 rfl ?_
  refine pm_goto (tgt := 2105) hG dL_law_1084 rfl ?_
  exact hT _ _ _ _ (LI.nx h74 hk hr1 hx1 kx) (by omega) (by omega)

set_option maxRecDepth 100000 in
set_option maxHeartbeats 4000000 in
theorem law_open {nm : String} {G : pm_G} {B b cs zs cnt L i w : Nat} {σ : pm_S} {xs : Nat → Int32} (hG : pm_ok (mL_law nm) G B) (hR : pm_rm G 2000 600000 7302250) (hs : pm_scr G B b L xs) (hi : i + 6 ≤ L) (hL : L ≤ 3072) (hc : cs ≤ 590000) (hz : zs ≤ 7200000) (hw : w ≤ 1000) (hl : LI B σ cnt w) (hT : ∀ (σ' : pm_S) (cnt' cs' zs' : Nat), LI B σ' cnt' (w + 1) → cs' ≤ cs + 27 → zs' ≤ zs + 2170 → pm_wp (mL_law nm) G B 2105 [some (.ref b), some (.ref (B + 0)), some (.ref (B + 54)), some (.int (nI i))] [] cs' zs' cnt' σ') : pm_wp (mL_law nm) G B 1087 [some (.ref b), some (.ref (B + 0)), some (.ref (B + 54)), some (.int (nI i))] [] cs zs cnt σ := by
  obtain ⟨h74, kp, S, T, lc, lm, ⟨K, h⟩, hx, hk⟩ := hl
  refine pm_weak (pm_sub_two lc) ?_
  refine pm_aloadn hG dL_law_1087 rfl ?_
  refine pm_aloadn hG dL_law_1088 rfl ?_
  refine pm_iloadn hG dL_law_1089 rfl ?_
  refine pm_iconst (v := nI 1) hG dL_law_1090 (by decide) ?_
  refine pm_iaddN (c := i + 1) hG dL_law_1091 (by omega) ?_
  refine pm_sldN hG hs dL_law_1092 (by omega) hL ?_
  obtain ⟨v, S1, T1, e1, e2, hr1, hx1, kx⟩ := (op_open (za := xs (i + 1)) h).x hx
  refine pm_callV (As := [.int (xs (i + 1))]) (rest := []) hG hR dL_law_1093 (lkL_113 _ rfl) okV_X11_open rfl rfl (c_X11_open (d := 1999) (by decide) e1) rfl rfl (by decide) (by omega) (by omega) (by decide) (pm_ki (fun v1 σ1 cnt1 hq => ?_))
  obtain ⟨rfl, rfl, rfl⟩ := hq
  have lm1 : pm_lies (cst B kp S1 σ) 54 (md_F B T.1 T.2) := lm.same (fun j h1 _ => pm_two_hi h1)
  refine pm_weak (pm_sub_mid lm1) ?_
  refine pm_pop hG dL_law_1096 rfl ?_
  refine pm_aloadn hG dL_law_1097 rfl ?_
  refine pm_aloadn hG dL_law_1098 rfl ?_
  refine pm_iloadn hG dL_law_1099 rfl ?_
  refine pm_iconst (v := nI 1) hG dL_law_1100 (by decide) ?_
  refine pm_iaddN (c := i + 1) hG dL_law_1101 (by omega) ?_
  refine pm_sldN hG hs dL_law_1102 (by omega) hL ?_
  refine pm_callV (As := [.int (xs (i + 1))]) (rest := []) hG hR dL_law_1103 (lkL_116 _ rfl) okV_X12_open rfl rfl (c_X12_open (d := 1999) (by decide) e2) rfl rfl (by decide) (by omega) (by omega) (by decide) (pm_ki (fun v2 σ2 cnt2 hq => ?_))
  obtain ⟨rfl, rfl, rfl⟩ := hq
  refine pm_pop hG dL_law_1106 rfl ?_
  refine pm_goto (tgt := 2105) hG dL_law_1107 rfl ?_
  exact hT _ _ _ _ (LI.nx h74 hk hr1 hx1 kx) (by omega) (by omega)

set_option maxRecDepth 100000 in
set_option maxHeartbeats 4000000 in
theorem law_obey {nm : String} {G : pm_G} {B b cs zs cnt L i w : Nat} {σ : pm_S} {xs : Nat → Int32} (hG : pm_ok (mL_law nm) G B) (hR : pm_rm G 2000 600000 7302250) (hs : pm_scr G B b L xs) (hi : i + 6 ≤ L) (hL : L ≤ 3072) (hc : cs ≤ 590000) (hz : zs ≤ 7200000) (hw : w ≤ 1000) (hl : LI B σ cnt w) (hT : ∀ (σ' : pm_S) (cnt' cs' zs' : Nat), LI B σ' cnt' (w + 1) → cs' ≤ cs + 27 → zs' ≤ zs + 2170 → pm_wp (mL_law nm) G B 2105 [some (.ref b), some (.ref (B + 0)), some (.ref (B + 54)), some (.int (nI i))] [] cs' zs' cnt' σ') : pm_wp (mL_law nm) G B 1110 [some (.ref b), some (.ref (B + 0)), some (.ref (B + 54)), some (.int (nI i))] [] cs zs cnt σ := by
  obtain ⟨h74, kp, S, T, lc, lm, ⟨K, h⟩, hx, hk⟩ := hl
  refine pm_weak (pm_sub_two lc) ?_
  refine pm_aloadn hG dL_law_1110 rfl ?_
  refine pm_aloadn hG dL_law_1111 rfl ?_
  refine pm_iloadn hG dL_law_1112 rfl ?_
  refine pm_iconst (v := nI 1) hG dL_law_1113 (by decide) ?_
  refine pm_iaddN (c := i + 1) hG dL_law_1114 (by omega) ?_
  refine pm_sldN hG hs dL_law_1115 (by omega) hL ?_
  obtain ⟨v, S1, T1, e1, e2, hr1, hx1, kx⟩ := (op_obey (za := xs (i + 1)) h).x hx
  refine pm_callV (As := [.int (xs (i + 1))]) (rest := []) hG hR dL_law_1116 (lkL_117 _ rfl) okV_X11_obey rfl rfl (c_X11_obey (d := 1999) (by decide) e1) rfl rfl (by decide) (by omega) (by omega) (by decide) (pm_ki (fun v1 σ1 cnt1 hq => ?_))
  obtain ⟨rfl, rfl, rfl⟩ := hq
  have lm1 : pm_lies (cst B kp S1 σ) 54 (md_F B T.1 T.2) := lm.same (fun j h1 _ => pm_two_hi h1)
  refine pm_weak (pm_sub_mid lm1) ?_
  refine pm_pop hG dL_law_1119 rfl ?_
  refine pm_aloadn hG dL_law_1120 rfl ?_
  refine pm_aloadn hG dL_law_1121 rfl ?_
  refine pm_iloadn hG dL_law_1122 rfl ?_
  refine pm_iconst (v := nI 1) hG dL_law_1123 (by decide) ?_
  refine pm_iaddN (c := i + 1) hG dL_law_1124 (by omega) ?_
  refine pm_sldN hG hs dL_law_1125 (by omega) hL ?_
  refine pm_callV (As := [.int (xs (i + 1))]) (rest := []) hG hR dL_law_1126 (lkL_120 _ rfl) okV_X12_obey rfl rfl (c_X12_obey (d := 1999) (by decide) e2) rfl rfl (by decide) (by omega) (by omega) (by decide) (pm_ki (fun v2 σ2 cnt2 hq => ?_))
  obtain ⟨rfl, rfl, rfl⟩ := hq
  refine pm_pop hG dL_law_1129 rfl ?_
  refine pm_goto (tgt := 2105) hG dL_law_1130 rfl ?_
  exact hT _ _ _ _ (LI.nx h74 hk hr1 hx1 kx) (by omega) (by omega)

set_option maxRecDepth 100000 in
set_option maxHeartbeats 4000000 in
theorem law_letter {nm : String} {G : pm_G} {B b cs zs cnt L i w : Nat} {σ : pm_S} {xs : Nat → Int32} (hG : pm_ok (mL_law nm) G B) (hR : pm_rm G 2000 600000 7302250) (hs : pm_scr G B b L xs) (hi : i + 6 ≤ L) (hL : L ≤ 3072) (hc : cs ≤ 590000) (hz : zs ≤ 7200000) (hw : w ≤ 1000) (hl : LI B σ cnt w) (hT : ∀ (σ' : pm_S) (cnt' cs' zs' : Nat), LI B σ' cnt' (w + 1) → cs' ≤ cs + 27 → zs' ≤ zs + 2170 → pm_wp (mL_law nm) G B 2105 [some (.ref b), some (.ref (B + 0)), some (.ref (B + 54)), some (.int (nI i))] [] cs' zs' cnt' σ') : pm_wp (mL_law nm) G B 1133 [some (.ref b), some (.ref (B + 0)), some (.ref (B + 54)), some (.int (nI i))] [] cs zs cnt σ := by
  obtain ⟨h74, kp, S, T, lc, lm, ⟨K, h⟩, hx, hk⟩ := hl
  refine pm_weak (pm_sub_two lc) ?_
  refine pm_aloadn hG dL_law_1133 rfl ?_
  refine pm_aloadn hG dL_law_1134 rfl ?_
  refine pm_iloadn hG dL_law_1135 rfl ?_
  refine pm_iconst (v := nI 1) hG dL_law_1136 (by decide) ?_
  refine pm_iaddN (c := i + 1) hG dL_law_1137 (by omega) ?_
  refine pm_sldN hG hs dL_law_1138 (by omega) hL ?_
  refine pm_aloadn hG dL_law_1139 rfl ?_
  refine pm_iloadn hG dL_law_1140 rfl ?_
  refine pm_iconst (v := nI 2) hG dL_law_1141 (by decide) ?_
  refine pm_iaddN (c := i + 2) hG dL_law_1142 (by omega) ?_
  refine pm_sldN hG hs dL_law_1143 (by omega) hL ?_
  obtain ⟨v, S1, T1, e1, e2, hr1, hx1, kx⟩ := (op_letter (za := xs (i + 1)) (zb := xs (i + 2)) h).x hx
  refine pm_callV (As := [.int (xs (i + 1)), .int (xs (i + 2))]) (rest := []) hG hR dL_law_1144 (lkL_121 _ rfl) okV_X11_letter rfl rfl (c_X11_letter (d := 1999) (by decide) e1) rfl rfl (by decide) (by omega) (by omega) (by decide) (pm_ki (fun v1 σ1 cnt1 hq => ?_))
  obtain ⟨rfl, rfl, rfl⟩ := hq
  have lm1 : pm_lies (cst B kp S1 σ) 54 (md_F B T.1 T.2) := lm.same (fun j h1 _ => pm_two_hi h1)
  refine pm_weak (pm_sub_mid lm1) ?_
  refine pm_pop hG dL_law_1147 rfl ?_
  refine pm_aloadn hG dL_law_1148 rfl ?_
  refine pm_aloadn hG dL_law_1149 rfl ?_
  refine pm_iloadn hG dL_law_1150 rfl ?_
  refine pm_iconst (v := nI 1) hG dL_law_1151 (by decide) ?_
  refine pm_iaddN (c := i + 1) hG dL_law_1152 (by omega) ?_
  refine pm_sldN hG hs dL_law_1153 (by omega) hL ?_
  refine pm_aloadn hG dL_law_1154 rfl ?_
  refine pm_iloadn hG dL_law_1155 rfl ?_
  refine pm_iconst (v := nI 2) hG dL_law_1156 (by decide) ?_
  refine pm_iaddN (c := i + 2) hG dL_law_1157 (by omega) ?_
  refine pm_sldN hG hs dL_law_1158 (by omega) hL ?_
  refine pm_callV (As := [.int (xs (i + 1)), .int (xs (i + 2))]) (rest := []) hG hR dL_law_1159 (lkL_124 _ rfl) okV_X12_letter rfl rfl (c_X12_letter (d := 1999) (by decide) e2) rfl rfl (by decide) (by omega) (by omega) (by decide) (pm_ki (fun v2 σ2 cnt2 hq => ?_))
  obtain ⟨rfl, rfl, rfl⟩ := hq
  refine pm_pop hG dL_law_1162 rfl ?_
  refine pm_goto (tgt := 2105) hG dL_law_1163 rfl ?_
  exact hT _ _ _ _ (LI.nx h74 hk hr1 hx1 kx) (by omega) (by omega)

set_option maxRecDepth 100000 in
set_option maxHeartbeats 4000000 in
theorem law_days {nm : String} {G : pm_G} {B b cs zs cnt L i w : Nat} {σ : pm_S} {xs : Nat → Int32} (hG : pm_ok (mL_law nm) G B) (hR : pm_rm G 2000 600000 7302250) (hs : pm_scr G B b L xs) (hi : i + 6 ≤ L) (hL : L ≤ 3072) (hc : cs ≤ 590000) (hz : zs ≤ 7200000) (hw : w ≤ 1000) (hl : LI B σ cnt w) (hT : ∀ (σ' : pm_S) (cnt' cs' zs' : Nat), LI B σ' cnt' (w + 1) → cs' ≤ cs + 27 → zs' ≤ zs + 2170 → pm_wp (mL_law nm) G B 2105 [some (.ref b), some (.ref (B + 0)), some (.ref (B + 54)), some (.int (nI i))] [] cs' zs' cnt' σ') : pm_wp (mL_law nm) G B 1166 [some (.ref b), some (.ref (B + 0)), some (.ref (B + 54)), some (.int (nI i))] [] cs zs cnt σ := by
  obtain ⟨h74, kp, S, T, lc, lm, ⟨K, h⟩, hx, hk⟩ := hl
  refine pm_weak (pm_sub_two lc) ?_
  refine pm_aloadn hG dL_law_1166 rfl ?_
  refine pm_aloadn hG dL_law_1167 rfl ?_
  refine pm_iloadn hG dL_law_1168 rfl ?_
  refine pm_iconst (v := nI 1) hG dL_law_1169 (by decide) ?_
  refine pm_iaddN (c := i + 1) hG dL_law_1170 (by omega) ?_
  refine pm_sldN hG hs dL_law_1171 (by omega) hL ?_
  obtain ⟨v, S1, T1, e1, e2, hr1, hx1, kx⟩ := (op_days (za := xs (i + 1)) h).x hx
  refine pm_callV (As := [.int (xs (i + 1))]) (rest := []) hG hR dL_law_1172 (lkL_125 _ rfl) okV_X11_days rfl rfl (c_X11_days (d := 1999) (by decide) e1) rfl rfl (by decide) (by omega) (by omega) (by decide) (pm_ki (fun v1 σ1 cnt1 hq => ?_))
  obtain ⟨rfl, rfl, rfl⟩ := hq
  have lm1 : pm_lies (cst B kp S1 σ) 54 (md_F B T.1 T.2) := lm.same (fun j h1 _ => pm_two_hi h1)
  refine pm_weak (pm_sub_mid lm1) ?_
  refine pm_pop hG dL_law_1175 rfl ?_
  refine pm_aloadn hG dL_law_1176 rfl ?_
  refine pm_aloadn hG dL_law_1177 rfl ?_
  refine pm_iloadn hG dL_law_1178 rfl ?_
  refine pm_iconst (v := nI 1) hG dL_law_1179 (by decide) ?_
  refine pm_iaddN (c := i + 1) hG dL_law_1180 (by omega) ?_
  refine pm_sldN hG hs dL_law_1181 (by omega) hL ?_
  refine pm_callV (As := [.int (xs (i + 1))]) (rest := []) hG hR dL_law_1182 (lkL_128 _ rfl) okV_X12_days rfl rfl (c_X12_days (d := 1999) (by decide) e2) rfl rfl (by decide) (by omega) (by omega) (by decide) (pm_ki (fun v2 σ2 cnt2 hq => ?_))
  obtain ⟨rfl, rfl, rfl⟩ := hq
  refine pm_pop hG dL_law_1185 rfl ?_
  refine pm_goto (tgt := 2105) hG dL_law_1186 rfl ?_
  exact hT _ _ _ _ (LI.nx h74 hk hr1 hx1 kx) (by omega) (by omega)

set_option maxRecDepth 100000 in
set_option maxHeartbeats 4000000 in
theorem law_rent {nm : String} {G : pm_G} {B b cs zs cnt L i w : Nat} {σ : pm_S} {xs : Nat → Int32} (hG : pm_ok (mL_law nm) G B) (hR : pm_rm G 2000 600000 7302250) (hs : pm_scr G B b L xs) (hi : i + 6 ≤ L) (hL : L ≤ 3072) (hc : cs ≤ 590000) (hz : zs ≤ 7200000) (hw : w ≤ 1000) (hl : LI B σ cnt w) (hT : ∀ (σ' : pm_S) (cnt' cs' zs' : Nat), LI B σ' cnt' (w + 1) → cs' ≤ cs + 27 → zs' ≤ zs + 2170 → pm_wp (mL_law nm) G B 2105 [some (.ref b), some (.ref (B + 0)), some (.ref (B + 54)), some (.int (nI i))] [] cs' zs' cnt' σ') : pm_wp (mL_law nm) G B 1189 [some (.ref b), some (.ref (B + 0)), some (.ref (B + 54)), some (.int (nI i))] [] cs zs cnt σ := by
  obtain ⟨h74, kp, S, T, lc, lm, ⟨K, h⟩, hx, hk⟩ := hl
  refine pm_weak (pm_sub_two lc) ?_
  refine pm_aloadn hG dL_law_1189 rfl ?_
  refine pm_aloadn hG dL_law_1190 rfl ?_
  refine pm_iloadn hG dL_law_1191 rfl ?_
  refine pm_iconst (v := nI 1) hG dL_law_1192 (by decide) ?_
  refine pm_iaddN (c := i + 1) hG dL_law_1193 (by omega) ?_
  refine pm_sldN hG hs dL_law_1194 (by omega) hL ?_
  refine pm_aloadn hG dL_law_1195 rfl ?_
  refine pm_iloadn hG dL_law_1196 rfl ?_
  refine pm_iconst (v := nI 2) hG dL_law_1197 (by decide) ?_
  refine pm_iaddN (c := i + 2) hG dL_law_1198 (by omega) ?_
  refine pm_sldN hG hs dL_law_1199 (by omega) hL ?_
  obtain ⟨v, S1, T1, e1, e2, hr1, hx1, kx⟩ := (op_rent (za := xs (i + 1)) (zb := xs (i + 2)) h).x hx
  refine pm_callV (As := [.int (xs (i + 1)), .int (xs (i + 2))]) (rest := []) hG hR dL_law_1200 (lkL_129 _ rfl) okV_X11_rent rfl rfl (c_X11_rent (d := 1999) (by decide) e1) rfl rfl (by decide) (by omega) (by omega) (by decide) (pm_ki (fun v1 σ1 cnt1 hq => ?_))
  obtain ⟨rfl, rfl, rfl⟩ := hq
  have lm1 : pm_lies (cst B kp S1 σ) 54 (md_F B T.1 T.2) := lm.same (fun j h1 _ => pm_two_hi h1)
  refine pm_weak (pm_sub_mid lm1) ?_
  refine pm_pop hG dL_law_1203 rfl ?_
  refine pm_aloadn hG dL_law_1204 rfl ?_
  refine pm_aloadn hG dL_law_1205 rfl ?_
  refine pm_iloadn hG dL_law_1206 rfl ?_
  refine pm_iconst (v := nI 1) hG dL_law_1207 (by decide) ?_
  refine pm_iaddN (c := i + 1) hG dL_law_1208 (by omega) ?_
  refine pm_sldN hG hs dL_law_1209 (by omega) hL ?_
  refine pm_aloadn hG dL_law_1210 rfl ?_
  refine pm_iloadn hG dL_law_1211 rfl ?_
  refine pm_iconst (v := nI 2) hG dL_law_1212 (by decide) ?_
  refine pm_iaddN (c := i + 2) hG dL_law_1213 (by omega) ?_
  refine pm_sldN hG hs dL_law_1214 (by omega) hL ?_
  refine pm_callV (As := [.int (xs (i + 1)), .int (xs (i + 2))]) (rest := []) hG hR dL_law_1215 (lkL_132 _ rfl) okV_X12_rent rfl rfl (c_X12_rent (d := 1999) (by decide) e2) rfl rfl (by decide) (by omega) (by omega) (by decide) (pm_ki (fun v2 σ2 cnt2 hq => ?_))
  obtain ⟨rfl, rfl, rfl⟩ := hq
  refine pm_pop hG dL_law_1218 rfl ?_
  refine pm_goto (tgt := 2105) hG dL_law_1219 rfl ?_
  exact hT _ _ _ _ (LI.nx h74 hk hr1 hx1 kx) (by omega) (by omega)

set_option maxRecDepth 100000 in
set_option maxHeartbeats 4000000 in
theorem law_own {nm : String} {G : pm_G} {B b cs zs cnt L i w : Nat} {σ : pm_S} {xs : Nat → Int32} (hG : pm_ok (mL_law nm) G B) (hR : pm_rm G 2000 600000 7302250) (hs : pm_scr G B b L xs) (hi : i + 6 ≤ L) (hL : L ≤ 3072) (hc : cs ≤ 590000) (hz : zs ≤ 7200000) (hw : w ≤ 1000) (hl : LI B σ cnt w) (hT : ∀ (σ' : pm_S) (cnt' cs' zs' : Nat), LI B σ' cnt' (w + 1) → cs' ≤ cs + 27 → zs' ≤ zs + 2170 → pm_wp (mL_law nm) G B 2105 [some (.ref b), some (.ref (B + 0)), some (.ref (B + 54)), some (.int (nI i))] [] cs' zs' cnt' σ') : pm_wp (mL_law nm) G B 1222 [some (.ref b), some (.ref (B + 0)), some (.ref (B + 54)), some (.int (nI i))] [] cs zs cnt σ := by
  obtain ⟨h74, kp, S, T, lc, lm, ⟨K, h⟩, hx, hk⟩ := hl
  refine pm_weak (pm_sub_two lc) ?_
  refine pm_aloadn hG dL_law_1222 rfl ?_
  refine pm_aloadn hG dL_law_1223 rfl ?_
  refine pm_iloadn hG dL_law_1224 rfl ?_
  refine pm_iconst (v := nI 1) hG dL_law_1225 (by decide) ?_
  refine pm_iaddN (c := i + 1) hG dL_law_1226 (by omega) ?_
  refine pm_sldN hG hs dL_law_1227 (by omega) hL ?_
  refine pm_aloadn hG dL_law_1228 rfl ?_
  refine pm_iloadn hG dL_law_1229 rfl ?_
  refine pm_iconst (v := nI 2) hG dL_law_1230 (by decide) ?_
  refine pm_iaddN (c := i + 2) hG dL_law_1231 (by omega) ?_
  refine pm_sldN hG hs dL_law_1232 (by omega) hL ?_
  obtain ⟨v, S1, T1, e1, e2, hr1, hx1, kx⟩ := (op_own (za := xs (i + 1)) (zb := xs (i + 2)) h).x hx
  refine pm_callV (As := [.int (xs (i + 1)), .int (xs (i + 2))]) (rest := []) hG hR dL_law_1233 (lkL_133 _ rfl) okV_X11_own rfl rfl (c_X11_own (d := 1999) (by decide) e1) rfl rfl (by decide) (by omega) (by omega) (by decide) (pm_ki (fun v1 σ1 cnt1 hq => ?_))
  obtain ⟨rfl, rfl, rfl⟩ := hq
  have lm1 : pm_lies (cst B kp S1 σ) 54 (md_F B T.1 T.2) := lm.same (fun j h1 _ => pm_two_hi h1)
  refine pm_weak (pm_sub_mid lm1) ?_
  refine pm_pop hG dL_law_1236 rfl ?_
  refine pm_aloadn hG dL_law_1237 rfl ?_
  refine pm_aloadn hG dL_law_1238 rfl ?_
  refine pm_iloadn hG dL_law_1239 rfl ?_
  refine pm_iconst (v := nI 1) hG dL_law_1240 (by decide) ?_
  refine pm_iaddN (c := i + 1) hG dL_law_1241 (by omega) ?_
  refine pm_sldN hG hs dL_law_1242 (by omega) hL ?_
  refine pm_aloadn hG dL_law_1243 rfl ?_
  refine pm_iloadn hG dL_law_1244 rfl ?_
  refine pm_iconst (v := nI 2) hG dL_law_1245 (by decide) ?_
  refine pm_iaddN (c := i + 2) hG dL_law_1246 (by omega) ?_
  refine pm_sldN hG hs dL_law_1247 (by omega) hL ?_
  refine pm_callV (As := [.int (xs (i + 1)), .int (xs (i + 2))]) (rest := []) hG hR dL_law_1248 (lkL_136 _ rfl) okV_X12_own rfl rfl (c_X12_own (d := 1999) (by decide) e2) rfl rfl (by decide) (by omega) (by omega) (by decide) (pm_ki (fun v2 σ2 cnt2 hq => ?_))
  obtain ⟨rfl, rfl, rfl⟩ := hq
  refine pm_pop hG dL_law_1251 rfl ?_
  refine pm_goto (tgt := 2105) hG dL_law_1252 rfl ?_
  exact hT _ _ _ _ (LI.nx h74 hk hr1 hx1 kx) (by omega) (by omega)

set_option maxRecDepth 100000 in
set_option maxHeartbeats 4000000 in
theorem law_rents {nm : String} {G : pm_G} {B b cs zs cnt L i w : Nat} {σ : pm_S} {xs : Nat → Int32} (hG : pm_ok (mL_law nm) G B) (hR : pm_rm G 2000 600000 7302250) (hs : pm_scr G B b L xs) (hi : i + 6 ≤ L) (hL : L ≤ 3072) (hc : cs ≤ 590000) (hz : zs ≤ 7200000) (hw : w ≤ 1000) (hl : LI B σ cnt w) (hT : ∀ (σ' : pm_S) (cnt' cs' zs' : Nat), LI B σ' cnt' (w + 1) → cs' ≤ cs + 27 → zs' ≤ zs + 2170 → pm_wp (mL_law nm) G B 2105 [some (.ref b), some (.ref (B + 0)), some (.ref (B + 54)), some (.int (nI i))] [] cs' zs' cnt' σ') : pm_wp (mL_law nm) G B 1255 [some (.ref b), some (.ref (B + 0)), some (.ref (B + 54)), some (.int (nI i))] [] cs zs cnt σ := by
  obtain ⟨h74, kp, S, T, lc, lm, ⟨K, h⟩, hx, hk⟩ := hl
  refine pm_weak (pm_sub_two lc) ?_
  refine pm_aloadn hG dL_law_1255 rfl ?_
  refine pm_aloadn hG dL_law_1256 rfl ?_
  refine pm_iloadn hG dL_law_1257 rfl ?_
  refine pm_iconst (v := nI 1) hG dL_law_1258 (by decide) ?_
  refine pm_iaddN (c := i + 1) hG dL_law_1259 (by omega) ?_
  refine pm_sldN hG hs dL_law_1260 (by omega) hL ?_
  refine pm_aloadn hG dL_law_1261 rfl ?_
  refine pm_iloadn hG dL_law_1262 rfl ?_
  refine pm_iconst (v := nI 2) hG dL_law_1263 (by decide) ?_
  refine pm_iaddN (c := i + 2) hG dL_law_1264 (by omega) ?_
  refine pm_sldN hG hs dL_law_1265 (by omega) hL ?_
  obtain ⟨v, S1, T1, e1, e2, hr1, hx1, kx⟩ := op_rents (za := xs (i + 1)) (zb := xs (i + 2)) h hx
  refine pm_callV (As := [.int (xs (i + 1)), .int (xs (i + 2))]) (rest := []) hG hR dL_law_1266 (lkL_137 _ rfl) okV_X11_rents rfl rfl (c_X11_rents (d := 1999) (by decide) e1) rfl rfl (by decide) (by omega) (by omega) (by decide) (pm_ki (fun v1 σ1 cnt1 hq => ?_))
  obtain ⟨rfl, rfl, rfl⟩ := hq
  have lm1 : pm_lies (cst B kp S1 σ) 54 (md_F B T.1 T.2) := lm.same (fun j h1 _ => pm_two_hi h1)
  refine pm_weak (pm_sub_mid lm1) ?_
  refine pm_pop hG dL_law_1269 rfl ?_
  refine pm_aloadn hG dL_law_1270 rfl ?_
  refine pm_aloadn hG dL_law_1271 rfl ?_
  refine pm_iloadn hG dL_law_1272 rfl ?_
  refine pm_iconst (v := nI 1) hG dL_law_1273 (by decide) ?_
  refine pm_iaddN (c := i + 1) hG dL_law_1274 (by omega) ?_
  refine pm_sldN hG hs dL_law_1275 (by omega) hL ?_
  refine pm_aloadn hG dL_law_1276 rfl ?_
  refine pm_iloadn hG dL_law_1277 rfl ?_
  refine pm_iconst (v := nI 2) hG dL_law_1278 (by decide) ?_
  refine pm_iaddN (c := i + 2) hG dL_law_1279 (by omega) ?_
  refine pm_sldN hG hs dL_law_1280 (by omega) hL ?_
  refine pm_callV (As := [.int (xs (i + 1)), .int (xs (i + 2))]) (rest := []) hG hR dL_law_1281 (lkL_140 _ rfl) okV_X12_rents rfl rfl (c_X12_rents (d := 1999) (by decide) e2) rfl rfl (by decide) (by omega) (by omega) (by decide) (pm_ki (fun v2 σ2 cnt2 hq => ?_))
  obtain ⟨rfl, rfl, rfl⟩ := hq
  refine pm_pop hG dL_law_1284 rfl ?_
  refine pm_goto (tgt := 2105) hG dL_law_1285 rfl ?_
  exact hT _ _ _ _ (LI.nx h74 hk hr1 hx1 kx) (by omega) (by omega)

set_option maxRecDepth 100000 in
set_option maxHeartbeats 4000000 in
theorem law_debt {nm : String} {G : pm_G} {B b cs zs cnt L i w : Nat} {σ : pm_S} {xs : Nat → Int32} (hG : pm_ok (mL_law nm) G B) (hR : pm_rm G 2000 600000 7302250) (hs : pm_scr G B b L xs) (hi : i + 6 ≤ L) (hL : L ≤ 3072) (hc : cs ≤ 590000) (hz : zs ≤ 7200000) (hw : w ≤ 1000) (hl : LI B σ cnt w) (hT : ∀ (σ' : pm_S) (cnt' cs' zs' : Nat), LI B σ' cnt' (w + 1) → cs' ≤ cs + 27 → zs' ≤ zs + 2170 → pm_wp (mL_law nm) G B 2105 [some (.ref b), some (.ref (B + 0)), some (.ref (B + 54)), some (.int (nI i))] [] cs' zs' cnt' σ') : pm_wp (mL_law nm) G B 1288 [some (.ref b), some (.ref (B + 0)), some (.ref (B + 54)), some (.int (nI i))] [] cs zs cnt σ := by
  obtain ⟨h74, kp, S, T, lc, lm, ⟨K, h⟩, hx, hk⟩ := hl
  refine pm_weak (pm_sub_two lc) ?_
  refine pm_aloadn hG dL_law_1288 rfl ?_
  refine pm_aloadn hG dL_law_1289 rfl ?_
  refine pm_iloadn hG dL_law_1290 rfl ?_
  refine pm_iconst (v := nI 1) hG dL_law_1291 (by decide) ?_
  refine pm_iaddN (c := i + 1) hG dL_law_1292 (by omega) ?_
  refine pm_sldN hG hs dL_law_1293 (by omega) hL ?_
  refine pm_aloadn hG dL_law_1294 rfl ?_
  refine pm_iloadn hG dL_law_1295 rfl ?_
  refine pm_iconst (v := nI 2) hG dL_law_1296 (by decide) ?_
  refine pm_iaddN (c := i + 2) hG dL_law_1297 (by omega) ?_
  refine pm_sldN hG hs dL_law_1298 (by omega) hL ?_
  refine pm_aloadn hG dL_law_1299 rfl ?_
  refine pm_iloadn hG dL_law_1300 rfl ?_
  refine pm_iconst (v := nI 3) hG dL_law_1301 (by decide) ?_
  refine pm_iaddN (c := i + 3) hG dL_law_1302 (by omega) ?_
  refine pm_sldN hG hs dL_law_1303 (by omega) hL ?_
  obtain ⟨v, S1, T1, e1, e2, hr1, hx1, kx⟩ := (op_debt (za := xs (i + 1)) (zb := xs (i + 2)) (zc := xs (i + 3)) h).x hx
  refine pm_callV (As := [.int (xs (i + 1)), .int (xs (i + 2)), .int (xs (i + 3))]) (rest := []) hG hR dL_law_1304 (lkL_141 _ rfl) okV_X11_debt rfl rfl (c_X11_debt (d := 1999) (by decide) e1) rfl rfl (by decide) (by omega) (by omega) (by decide) (pm_ki (fun v1 σ1 cnt1 hq => ?_))
  obtain ⟨rfl, rfl, rfl⟩ := hq
  have lm1 : pm_lies (cst B kp S1 σ) 54 (md_F B T.1 T.2) := lm.same (fun j h1 _ => pm_two_hi h1)
  refine pm_weak (pm_sub_mid lm1) ?_
  refine pm_pop hG dL_law_1307 rfl ?_
  refine pm_aloadn hG dL_law_1308 rfl ?_
  refine pm_aloadn hG dL_law_1309 rfl ?_
  refine pm_iloadn hG dL_law_1310 rfl ?_
  refine pm_iconst (v := nI 1) hG dL_law_1311 (by decide) ?_
  refine pm_iaddN (c := i + 1) hG dL_law_1312 (by omega) ?_
  refine pm_sldN hG hs dL_law_1313 (by omega) hL ?_
  refine pm_aloadn hG dL_law_1314 rfl ?_
  refine pm_iloadn hG dL_law_1315 rfl ?_
  refine pm_iconst (v := nI 2) hG dL_law_1316 (by decide) ?_
  refine pm_iaddN (c := i + 2) hG dL_law_1317 (by omega) ?_
  refine pm_sldN hG hs dL_law_1318 (by omega) hL ?_
  refine pm_aloadn hG dL_law_1319 rfl ?_
  refine pm_iloadn hG dL_law_1320 rfl ?_
  refine pm_iconst (v := nI 3) hG dL_law_1321 (by decide) ?_
  refine pm_iaddN (c := i + 3) hG dL_law_1322 (by omega) ?_
  refine pm_sldN hG hs dL_law_1323 (by omega) hL ?_
  refine pm_callV (As := [.int (xs (i + 1)), .int (xs (i + 2)), .int (xs (i + 3))]) (rest := []) hG hR dL_law_1324 (lkL_144 _ rfl) okV_X12_debt rfl rfl (c_X12_debt (d := 1999) (by decide) e2) rfl rfl (by decide) (by omega) (by omega) (by decide) (pm_ki (fun v2 σ2 cnt2 hq => ?_))
  obtain ⟨rfl, rfl, rfl⟩ := hq
  refine pm_pop hG dL_law_1327 rfl ?_
  refine pm_goto (tgt := 2105) hG dL_law_1328 rfl ?_
  exact hT _ _ _ _ (LI.nx h74 hk hr1 hx1 kx) (by omega) (by omega)

set_option maxRecDepth 100000 in
set_option maxHeartbeats 4000000 in
theorem law_owed {nm : String} {G : pm_G} {B b cs zs cnt L i w : Nat} {σ : pm_S} {xs : Nat → Int32} (hG : pm_ok (mL_law nm) G B) (hR : pm_rm G 2000 600000 7302250) (hs : pm_scr G B b L xs) (hi : i + 6 ≤ L) (hL : L ≤ 3072) (hc : cs ≤ 590000) (hz : zs ≤ 7200000) (hw : w ≤ 1000) (hl : LI B σ cnt w) (hT : ∀ (σ' : pm_S) (cnt' cs' zs' : Nat), LI B σ' cnt' (w + 1) → cs' ≤ cs + 27 → zs' ≤ zs + 2170 → pm_wp (mL_law nm) G B 2105 [some (.ref b), some (.ref (B + 0)), some (.ref (B + 54)), some (.int (nI i))] [] cs' zs' cnt' σ') : pm_wp (mL_law nm) G B 1331 [some (.ref b), some (.ref (B + 0)), some (.ref (B + 54)), some (.int (nI i))] [] cs zs cnt σ := by
  obtain ⟨h74, kp, S, T, lc, lm, ⟨K, h⟩, hx, hk⟩ := hl
  refine pm_weak (pm_sub_two lc) ?_
  refine pm_aloadn hG dL_law_1331 rfl ?_
  refine pm_aloadn hG dL_law_1332 rfl ?_
  refine pm_iloadn hG dL_law_1333 rfl ?_
  refine pm_iconst (v := nI 1) hG dL_law_1334 (by decide) ?_
  refine pm_iaddN (c := i + 1) hG dL_law_1335 (by omega) ?_
  refine pm_sldN hG hs dL_law_1336 (by omega) hL ?_
  refine pm_aloadn hG dL_law_1337 rfl ?_
  refine pm_iloadn hG dL_law_1338 rfl ?_
  refine pm_iconst (v := nI 2) hG dL_law_1339 (by decide) ?_
  refine pm_iaddN (c := i + 2) hG dL_law_1340 (by omega) ?_
  refine pm_sldN hG hs dL_law_1341 (by omega) hL ?_
  obtain ⟨v, S1, T1, e1, e2, hr1, hx1, kx⟩ := (op_owed (za := xs (i + 1)) (zb := xs (i + 2)) h).x hx
  refine pm_callV (As := [.int (xs (i + 1)), .int (xs (i + 2))]) (rest := []) hG hR dL_law_1342 (lkL_145 _ rfl) okV_X11_owed rfl rfl (c_X11_owed (d := 1999) (by decide) e1) rfl rfl (by decide) (by omega) (by omega) (by decide) (pm_ki (fun v1 σ1 cnt1 hq => ?_))
  obtain ⟨rfl, rfl, rfl⟩ := hq
  have lm1 : pm_lies (cst B kp S1 σ) 54 (md_F B T.1 T.2) := lm.same (fun j h1 _ => pm_two_hi h1)
  refine pm_weak (pm_sub_mid lm1) ?_
  refine pm_pop hG dL_law_1345 rfl ?_
  refine pm_aloadn hG dL_law_1346 rfl ?_
  refine pm_aloadn hG dL_law_1347 rfl ?_
  refine pm_iloadn hG dL_law_1348 rfl ?_
  refine pm_iconst (v := nI 1) hG dL_law_1349 (by decide) ?_
  refine pm_iaddN (c := i + 1) hG dL_law_1350 (by omega) ?_
  refine pm_sldN hG hs dL_law_1351 (by omega) hL ?_
  refine pm_aloadn hG dL_law_1352 rfl ?_
  refine pm_iloadn hG dL_law_1353 rfl ?_
  refine pm_iconst (v := nI 2) hG dL_law_1354 (by decide) ?_
  refine pm_iaddN (c := i + 2) hG dL_law_1355 (by omega) ?_
  refine pm_sldN hG hs dL_law_1356 (by omega) hL ?_
  refine pm_callV (As := [.int (xs (i + 1)), .int (xs (i + 2))]) (rest := []) hG hR dL_law_1357 (lkL_148 _ rfl) okV_X12_owed rfl rfl (c_X12_owed (d := 1999) (by decide) e2) rfl rfl (by decide) (by omega) (by omega) (by decide) (pm_ki (fun v2 σ2 cnt2 hq => ?_))
  obtain ⟨rfl, rfl, rfl⟩ := hq
  refine pm_pop hG dL_law_1360 rfl ?_
  refine pm_goto (tgt := 2105) hG dL_law_1361 rfl ?_
  exact hT _ _ _ _ (LI.nx h74 hk hr1 hx1 kx) (by omega) (by omega)

set_option maxRecDepth 100000 in
set_option maxHeartbeats 4000000 in
theorem law_seat {nm : String} {G : pm_G} {B b cs zs cnt L i w : Nat} {σ : pm_S} {xs : Nat → Int32} (hG : pm_ok (mL_law nm) G B) (hR : pm_rm G 2000 600000 7302250) (hs : pm_scr G B b L xs) (hi : i + 6 ≤ L) (hL : L ≤ 3072) (hc : cs ≤ 590000) (hz : zs ≤ 7200000) (hw : w ≤ 1000) (hl : LI B σ cnt w) (hT : ∀ (σ' : pm_S) (cnt' cs' zs' : Nat), LI B σ' cnt' (w + 1) → cs' ≤ cs + 27 → zs' ≤ zs + 2170 → pm_wp (mL_law nm) G B 2105 [some (.ref b), some (.ref (B + 0)), some (.ref (B + 54)), some (.int (nI i))] [] cs' zs' cnt' σ') : pm_wp (mL_law nm) G B 1364 [some (.ref b), some (.ref (B + 0)), some (.ref (B + 54)), some (.int (nI i))] [] cs zs cnt σ := by
  obtain ⟨h74, kp, S, T, lc, lm, ⟨K, h⟩, hx, hk⟩ := hl
  refine pm_weak (pm_sub_two lc) ?_
  refine pm_aloadn hG dL_law_1364 rfl ?_
  refine pm_aloadn hG dL_law_1365 rfl ?_
  refine pm_iloadn hG dL_law_1366 rfl ?_
  refine pm_iconst (v := nI 1) hG dL_law_1367 (by decide) ?_
  refine pm_iaddN (c := i + 1) hG dL_law_1368 (by omega) ?_
  refine pm_sldN hG hs dL_law_1369 (by omega) hL ?_
  refine pm_aloadn hG dL_law_1370 rfl ?_
  refine pm_iloadn hG dL_law_1371 rfl ?_
  refine pm_iconst (v := nI 2) hG dL_law_1372 (by decide) ?_
  refine pm_iaddN (c := i + 2) hG dL_law_1373 (by omega) ?_
  refine pm_sldN hG hs dL_law_1374 (by omega) hL ?_
  refine pm_if_eq (tgt := 1382) hG dL_law_1375 rfl (fun cb1 => ?_) (fun cb1 => ?_)
  · refine pm_iconst (v := nI 0) hG dL_law_1382 (by decide) ?_
    obtain ⟨v, S1, T1, e1, e2, hr1, hx1, kx⟩ := (op_seat (za := xs (i + 1)) (zb := nI 0) h (by decide)).x hx
    refine pm_callV (As := [.int (xs (i + 1)), .int (nI 0)]) (rest := []) hG hR dL_law_1383 (lkL_149 _ rfl) okV_X11_seat rfl rfl (c_X11_seat (d := 1999) (by decide) e1) rfl rfl (by decide) (by omega) (by omega) (by decide) (pm_ki (fun v1 σ1 cnt1 hq => ?_))
    obtain ⟨rfl, rfl, rfl⟩ := hq
    have lm1 : pm_lies (cst B kp S1 σ) 54 (md_F B T.1 T.2) := lm.same (fun j h1 _ => pm_two_hi h1)
    refine pm_weak (pm_sub_mid lm1) ?_
    refine pm_pop hG dL_law_1386 rfl ?_
    refine pm_aloadn hG dL_law_1387 rfl ?_
    refine pm_aloadn hG dL_law_1388 rfl ?_
    refine pm_iloadn hG dL_law_1389 rfl ?_
    refine pm_iconst (v := nI 1) hG dL_law_1390 (by decide) ?_
    refine pm_iaddN (c := i + 1) hG dL_law_1391 (by omega) ?_
    refine pm_sldN hG hs dL_law_1392 (by omega) hL ?_
    refine pm_aloadn hG dL_law_1393 rfl ?_
    refine pm_iloadn hG dL_law_1394 rfl ?_
    refine pm_iconst (v := nI 2) hG dL_law_1395 (by decide) ?_
    refine pm_iaddN (c := i + 2) hG dL_law_1396 (by omega) ?_
    refine pm_sldN hG hs dL_law_1397 (by omega) hL ?_
    refine pm_if_eq (tgt := 1405) hG dL_law_1398 rfl (fun _ => ?_) (fun q => absurd cb1 q)
    refine pm_iconst (v := nI 0) hG dL_law_1405 (by decide) ?_
    refine pm_callV (As := [.int (xs (i + 1)), .int (nI 0)]) (rest := []) hG hR dL_law_1406 (lkL_153 _ rfl) okV_X12_seat rfl rfl (c_X12_seat (d := 1999) (by decide) e2) rfl rfl (by decide) (by omega) (by omega) (by decide) (pm_ki (fun v2 σ2 cnt2 hq => ?_))
    obtain ⟨rfl, rfl, rfl⟩ := hq
    refine pm_pop hG dL_law_1409 rfl ?_
    refine pm_goto (tgt := 2105) hG dL_law_1410 rfl ?_
    exact hT _ _ _ _ (LI.nx h74 hk hr1 hx1 kx) (by omega) (by omega)
  · refine pm_iconst (v := nI 1) hG dL_law_1378 (by decide) ?_
    refine pm_goto (tgt := 1383) hG dL_law_1379 rfl ?_
    obtain ⟨v, S1, T1, e1, e2, hr1, hx1, kx⟩ := (op_seat (za := xs (i + 1)) (zb := nI 1) h (by decide)).x hx
    refine pm_callV (As := [.int (xs (i + 1)), .int (nI 1)]) (rest := []) hG hR dL_law_1383 (lkL_149 _ rfl) okV_X11_seat rfl rfl (c_X11_seat (d := 1999) (by decide) e1) rfl rfl (by decide) (by omega) (by omega) (by decide) (pm_ki (fun v1 σ1 cnt1 hq => ?_))
    obtain ⟨rfl, rfl, rfl⟩ := hq
    have lm1 : pm_lies (cst B kp S1 σ) 54 (md_F B T.1 T.2) := lm.same (fun j h1 _ => pm_two_hi h1)
    refine pm_weak (pm_sub_mid lm1) ?_
    refine pm_pop hG dL_law_1386 rfl ?_
    refine pm_aloadn hG dL_law_1387 rfl ?_
    refine pm_aloadn hG dL_law_1388 rfl ?_
    refine pm_iloadn hG dL_law_1389 rfl ?_
    refine pm_iconst (v := nI 1) hG dL_law_1390 (by decide) ?_
    refine pm_iaddN (c := i + 1) hG dL_law_1391 (by omega) ?_
    refine pm_sldN hG hs dL_law_1392 (by omega) hL ?_
    refine pm_aloadn hG dL_law_1393 rfl ?_
    refine pm_iloadn hG dL_law_1394 rfl ?_
    refine pm_iconst (v := nI 2) hG dL_law_1395 (by decide) ?_
    refine pm_iaddN (c := i + 2) hG dL_law_1396 (by omega) ?_
    refine pm_sldN hG hs dL_law_1397 (by omega) hL ?_
    refine pm_if_eq (tgt := 1405) hG dL_law_1398 rfl (fun q => absurd q cb1) (fun _ => ?_)
    refine pm_iconst (v := nI 1) hG dL_law_1401 (by decide) ?_
    refine pm_goto (tgt := 1406) hG dL_law_1402 rfl ?_
    refine pm_callV (As := [.int (xs (i + 1)), .int (nI 1)]) (rest := []) hG hR dL_law_1406 (lkL_153 _ rfl) okV_X12_seat rfl rfl (c_X12_seat (d := 1999) (by decide) e2) rfl rfl (by decide) (by omega) (by omega) (by decide) (pm_ki (fun v2 σ2 cnt2 hq => ?_))
    obtain ⟨rfl, rfl, rfl⟩ := hq
    refine pm_pop hG dL_law_1409 rfl ?_
    refine pm_goto (tgt := 2105) hG dL_law_1410 rfl ?_
    exact hT _ _ _ _ (LI.nx h74 hk hr1 hx1 kx) (by omega) (by omega)

set_option maxRecDepth 100000 in
set_option maxHeartbeats 4000000 in
theorem law_promise {nm : String} {G : pm_G} {B b cs zs cnt L i w : Nat} {σ : pm_S} {xs : Nat → Int32} (hG : pm_ok (mL_law nm) G B) (hR : pm_rm G 2000 600000 7302250) (hs : pm_scr G B b L xs) (hi : i + 6 ≤ L) (hL : L ≤ 3072) (hc : cs ≤ 590000) (hz : zs ≤ 7200000) (hw : w ≤ 1000) (hl : LI B σ cnt w) (hT : ∀ (σ' : pm_S) (cnt' cs' zs' : Nat), LI B σ' cnt' (w + 1) → cs' ≤ cs + 27 → zs' ≤ zs + 2170 → pm_wp (mL_law nm) G B 2105 [some (.ref b), some (.ref (B + 0)), some (.ref (B + 54)), some (.int (nI i))] [] cs' zs' cnt' σ') : pm_wp (mL_law nm) G B 1413 [some (.ref b), some (.ref (B + 0)), some (.ref (B + 54)), some (.int (nI i))] [] cs zs cnt σ := by
  obtain ⟨h74, kp, S, T, lc, lm, ⟨K, h⟩, hx, hk⟩ := hl
  refine pm_weak (pm_sub_two lc) ?_
  refine pm_aloadn hG dL_law_1413 rfl ?_
  refine pm_aloadn hG dL_law_1414 rfl ?_
  refine pm_iloadn hG dL_law_1415 rfl ?_
  refine pm_iconst (v := nI 1) hG dL_law_1416 (by decide) ?_
  refine pm_iaddN (c := i + 1) hG dL_law_1417 (by omega) ?_
  refine pm_sldN hG hs dL_law_1418 (by omega) hL ?_
  refine pm_aloadn hG dL_law_1419 rfl ?_
  refine pm_iloadn hG dL_law_1420 rfl ?_
  refine pm_iconst (v := nI 2) hG dL_law_1421 (by decide) ?_
  refine pm_iaddN (c := i + 2) hG dL_law_1422 (by omega) ?_
  refine pm_sldN hG hs dL_law_1423 (by omega) hL ?_
  refine pm_aloadn hG dL_law_1424 rfl ?_
  refine pm_iloadn hG dL_law_1425 rfl ?_
  refine pm_iconst (v := nI 3) hG dL_law_1426 (by decide) ?_
  refine pm_iaddN (c := i + 3) hG dL_law_1427 (by omega) ?_
  refine pm_sldN hG hs dL_law_1428 (by omega) hL ?_
  refine pm_aloadn hG dL_law_1429 rfl ?_
  refine pm_iloadn hG dL_law_1430 rfl ?_
  refine pm_iconst (v := nI 4) hG dL_law_1431 (by decide) ?_
  refine pm_iaddN (c := i + 4) hG dL_law_1432 (by omega) ?_
  refine pm_sldN hG hs dL_law_1433 (by omega) hL ?_
  refine pm_if_eq (tgt := 1441) hG dL_law_1434 rfl (fun cb1 => ?_) (fun cb1 => ?_)
  · refine pm_iconst (v := nI 0) hG dL_law_1441 (by decide) ?_
    obtain ⟨v, S1, T1, e1, e2, hr1, hx1, kx⟩ := (op_promise (za := xs (i + 1)) (zb := xs (i + 2)) (zc := xs (i + 3)) (zd := nI 0) h).x hx
    refine pm_callV (As := [.int (xs (i + 1)), .int (xs (i + 2)), .int (xs (i + 3)), .int (nI 0)]) (rest := []) hG hR dL_law_1442 (lkL_154 _ rfl) okV_X11_promise rfl rfl (c_X11_promise (d := 1999) (by decide) e1) rfl rfl (by decide) (by omega) (by omega) (by decide) (pm_ki (fun v1 σ1 cnt1 hq => ?_))
    obtain ⟨rfl, rfl, rfl⟩ := hq
    have lm1 : pm_lies (cst B kp S1 σ) 54 (md_F B T.1 T.2) := lm.same (fun j h1 _ => pm_two_hi h1)
    refine pm_weak (pm_sub_mid lm1) ?_
    refine pm_pop hG dL_law_1445 rfl ?_
    refine pm_aloadn hG dL_law_1446 rfl ?_
    refine pm_aloadn hG dL_law_1447 rfl ?_
    refine pm_iloadn hG dL_law_1448 rfl ?_
    refine pm_iconst (v := nI 1) hG dL_law_1449 (by decide) ?_
    refine pm_iaddN (c := i + 1) hG dL_law_1450 (by omega) ?_
    refine pm_sldN hG hs dL_law_1451 (by omega) hL ?_
    refine pm_aloadn hG dL_law_1452 rfl ?_
    refine pm_iloadn hG dL_law_1453 rfl ?_
    refine pm_iconst (v := nI 2) hG dL_law_1454 (by decide) ?_
    refine pm_iaddN (c := i + 2) hG dL_law_1455 (by omega) ?_
    refine pm_sldN hG hs dL_law_1456 (by omega) hL ?_
    refine pm_aloadn hG dL_law_1457 rfl ?_
    refine pm_iloadn hG dL_law_1458 rfl ?_
    refine pm_iconst (v := nI 3) hG dL_law_1459 (by decide) ?_
    refine pm_iaddN (c := i + 3) hG dL_law_1460 (by omega) ?_
    refine pm_sldN hG hs dL_law_1461 (by omega) hL ?_
    refine pm_aloadn hG dL_law_1462 rfl ?_
    refine pm_iloadn hG dL_law_1463 rfl ?_
    refine pm_iconst (v := nI 4) hG dL_law_1464 (by decide) ?_
    refine pm_iaddN (c := i + 4) hG dL_law_1465 (by omega) ?_
    refine pm_sldN hG hs dL_law_1466 (by omega) hL ?_
    refine pm_if_eq (tgt := 1474) hG dL_law_1467 rfl (fun _ => ?_) (fun q => absurd cb1 q)
    refine pm_iconst (v := nI 0) hG dL_law_1474 (by decide) ?_
    refine pm_callV (As := [.int (xs (i + 1)), .int (xs (i + 2)), .int (xs (i + 3)), .int (nI 0)]) (rest := []) hG hR dL_law_1475 (lkL_158 _ rfl) okV_X12_promise rfl rfl (c_X12_promise (d := 1999) (by decide) e2) rfl rfl (by decide) (by omega) (by omega) (by decide) (pm_ki (fun v2 σ2 cnt2 hq => ?_))
    obtain ⟨rfl, rfl, rfl⟩ := hq
    refine pm_pop hG dL_law_1478 rfl ?_
    refine pm_goto (tgt := 2105) hG dL_law_1479 rfl ?_
    exact hT _ _ _ _ (LI.nx h74 hk hr1 hx1 kx) (by omega) (by omega)
  · refine pm_iconst (v := nI 1) hG dL_law_1437 (by decide) ?_
    refine pm_goto (tgt := 1442) hG dL_law_1438 rfl ?_
    obtain ⟨v, S1, T1, e1, e2, hr1, hx1, kx⟩ := (op_promise (za := xs (i + 1)) (zb := xs (i + 2)) (zc := xs (i + 3)) (zd := nI 1) h).x hx
    refine pm_callV (As := [.int (xs (i + 1)), .int (xs (i + 2)), .int (xs (i + 3)), .int (nI 1)]) (rest := []) hG hR dL_law_1442 (lkL_154 _ rfl) okV_X11_promise rfl rfl (c_X11_promise (d := 1999) (by decide) e1) rfl rfl (by decide) (by omega) (by omega) (by decide) (pm_ki (fun v1 σ1 cnt1 hq => ?_))
    obtain ⟨rfl, rfl, rfl⟩ := hq
    have lm1 : pm_lies (cst B kp S1 σ) 54 (md_F B T.1 T.2) := lm.same (fun j h1 _ => pm_two_hi h1)
    refine pm_weak (pm_sub_mid lm1) ?_
    refine pm_pop hG dL_law_1445 rfl ?_
    refine pm_aloadn hG dL_law_1446 rfl ?_
    refine pm_aloadn hG dL_law_1447 rfl ?_
    refine pm_iloadn hG dL_law_1448 rfl ?_
    refine pm_iconst (v := nI 1) hG dL_law_1449 (by decide) ?_
    refine pm_iaddN (c := i + 1) hG dL_law_1450 (by omega) ?_
    refine pm_sldN hG hs dL_law_1451 (by omega) hL ?_
    refine pm_aloadn hG dL_law_1452 rfl ?_
    refine pm_iloadn hG dL_law_1453 rfl ?_
    refine pm_iconst (v := nI 2) hG dL_law_1454 (by decide) ?_
    refine pm_iaddN (c := i + 2) hG dL_law_1455 (by omega) ?_
    refine pm_sldN hG hs dL_law_1456 (by omega) hL ?_
    refine pm_aloadn hG dL_law_1457 rfl ?_
    refine pm_iloadn hG dL_law_1458 rfl ?_
    refine pm_iconst (v := nI 3) hG dL_law_1459 (by decide) ?_
    refine pm_iaddN (c := i + 3) hG dL_law_1460 (by omega) ?_
    refine pm_sldN hG hs dL_law_1461 (by omega) hL ?_
    refine pm_aloadn hG dL_law_1462 rfl ?_
    refine pm_iloadn hG dL_law_1463 rfl ?_
    refine pm_iconst (v := nI 4) hG dL_law_1464 (by decide) ?_
    refine pm_iaddN (c := i + 4) hG dL_law_1465 (by omega) ?_
    refine pm_sldN hG hs dL_law_1466 (by omega) hL ?_
    refine pm_if_eq (tgt := 1474) hG dL_law_1467 rfl (fun q => absurd q cb1) (fun _ => ?_)
    refine pm_iconst (v := nI 1) hG dL_law_1470 (by decide) ?_
    refine pm_goto (tgt := 1475) hG dL_law_1471 rfl ?_
    refine pm_callV (As := [.int (xs (i + 1)), .int (xs (i + 2)), .int (xs (i + 3)), .int (nI 1)]) (rest := []) hG hR dL_law_1475 (lkL_158 _ rfl) okV_X12_promise rfl rfl (c_X12_promise (d := 1999) (by decide) e2) rfl rfl (by decide) (by omega) (by omega) (by decide) (pm_ki (fun v2 σ2 cnt2 hq => ?_))
    obtain ⟨rfl, rfl, rfl⟩ := hq
    refine pm_pop hG dL_law_1478 rfl ?_
    refine pm_goto (tgt := 2105) hG dL_law_1479 rfl ?_
    exact hT _ _ _ _ (LI.nx h74 hk hr1 hx1 kx) (by omega) (by omega)
