/-! ===== the String constant of the NAMES: q, its bytes z, both below B ===== -/
def pm_isNm (B q z : Nat) (U : State) : Prop :=
  va_O "java/lang/String" q (fun a => B ≤ a) U U.heap ∧ va_OF "java/lang/String" "coder" "B" (.int 0) q (fun a => B ≤ a) U U.heap ∧ va_OF "java/lang/String" "value" "[B" (.ref z) q (fun a => B ≤ a) U U.heap ∧ va_T .byte z 11 (fun j => .int (pm_nb.getD j 0)) (fun a => B ≤ a) U U.heap
theorem pm_isNm.moved {B q z : Nat} {s U : State} (hW : s.WarmedH U.vm) (hh : ∀ a : Nat, a < B → U.heap[a]? = s.heap[a]?) (h : pm_isNm B q z s) : pm_isNm B q z U := by
  obtain ⟨h1, h2, h3, h4⟩ := h
  have hk : ∀ a : Nat, a < s.heap.size → ¬ (B ≤ a) → U.heap[a]? = s.heap[a]? := fun a _ ha => hh a (by omega)
  exact ⟨(va_O.moved hW.alike h1).kept hk, (va_OF.moved hW.alike h2).kept hk, (va_OF.moved hW.alike h3).kept hk, (va_T.moved hW.alike h4).kept hk⟩
/-- a method's contract where q and z are the String and its bytes -/
def pm_metN (q z : Nat) (M : pm_M) (d mc ms B : Nat) (av : List Value) (cnt : Nat) (σ : pm_S) (Q : Option Value → pm_S → Nat → Prop) : Prop :=
  ∀ (l : Launch) (D : va_G) (cI : ClassId), Met l M.1 (pm_ws M) (pm_room d mc ms) (va_Pc av (fun U => ((pm_env D cI U ∧ pm_ow B U) ∧ pm_isNm B q z U) ∧ pm_H D cI B σ cnt U.heap)) (pm_Q D cI B Q) mc ms (fun a => B ≤ a)
theorem pm_blindN {D : va_G} {cI : ClassId} {B q z cnt : Nat} {σ : pm_S} {av : List Value} : FrameBlind (va_Pc av (fun U => ((pm_env D cI U ∧ pm_ow B U) ∧ pm_isNm B q z U) ∧ pm_H D cI B σ cnt U.heap)) := by
  intro a U g mk h
  obtain ⟨h1, ⟨h2, h4⟩, h3⟩ := h
  exact ⟨h1, ⟨⟨h2.1.moved (U := U.calling g mk a) (State.WarmedH.refl U), h2.2.moved (U := U.calling g mk a) (State.WarmedH.refl U) (fun _ _ => rfl)⟩, h4.moved (U := U.calling g mk a) (State.WarmedH.refl U) (fun _ _ => rfl)⟩, h3⟩
section PMN
variable {M : pm_M} {G : pm_G} {B pc pc' q z : Nat} {loc : List (Option Value)} {st : List Value} {cs zs cnt : Nat} {σ : pm_S}
theorem pm_enterN {d mc ms : Nat} {av : List Value} {Q : Option Value → pm_S → Nat → Prop} (k : Nat) (hpl : plainName M.1.cls = true) (hlen : (lg_sl av).length ≤ M.2.2.1) (hloc : pm_args av ++ List.replicate k none = loc)
    (body : ∀ G : pm_G, pm_ok M G B → pm_rm G d mc ms → pm_fin G B mc ms Q → pm_isNm B q z (pm_s G) → pm_wp M G B 0 loc [] 0 0 cnt σ) : pm_metN q z M d mc ms B av cnt σ Q := by
  intro l D cI
  refine Met.ofW (cc := M.2.1) (maxL := M.2.2.1) (ret := M.2.2.2) hpl rfl ?_
  intro p e s m args below meth c s₁ Bd hml hv
  obtain ⟨rfl, ⟨⟨henv, how⟩, hN⟩, hH⟩ := hv
  have hts := atoms_spec (ws := pm_ws M) Bd.pre
  have hG : pm_ok M ((p, l, e, pm_room d mc ms, s, m, av.toArray, below, meth, c), (D, cI), MQ below (pm_Q D cI B Q) av.toArray s mc ms (fun a => B ≤ a)) B :=
    ⟨⟨Bd.exec, Bd.bytes, hml, findClass_of_methodNamed Bd.named, how⟩, fun w hw => hts w (List.mem_cons_of_mem _ hw), henv, by show B ≤ s.heap.size; rw [hH.1]; exact Nat.le_add_right _ _, Bd.notSynchronized, Bd.returns, (name_of_methodNamed Bd.named Bd.method).1⟩
  have h := body _ hG ⟨Nat.le_refl _, Nat.le_refl _, Nat.le_refl _, Nat.le_refl _⟩ rfl hN
  rw [lg_entry_eq]
  have hl := lv_entry av (n := M.2.2.1) hlen
  refine h s.heap _ [] hH (fun q _ => rfl) ?_ (fun q hq => by cases hq)
  unfold pm_L
  rw [← hloc, pm_args_lv]
  exact hl
theorem pm_callVN {M2 : pm_M} {i n d d2 mc mc2 ms ms2 : Nat} {As rest : List Value} {Q2 : Option Value → pm_S → Nat → Prop} (hN : pm_isNm B q z (pm_s G)) (hG : pm_ok M G B) (hR : pm_rm G d mc ms) (hd : pm_dec M pc (.invokevirtual i, 3) pc') (hl : Cond.methodLink M.1.cls i M2.1 ∈ pm_tbl) (hm : pm_mokV M2 n) (hc : M2.1.cls = "java/lang/String")
    (hM : pm_metN q z M2 d2 mc2 ms2 B (.ref q :: As) cnt σ Q2) (hst : st = As.reverse ++ .ref q :: rest) (hn : As.length = n) (hd2 : d2 + 1 ≤ d) (hcs : cs + mc2 ≤ mc) (hzs : zs + ms2 ≤ ms) (hw : (rest.map fun v => v.category).sum ≤ 8)
    (kk : ∀ (r : Option Value) (σ' : pm_S) (cnt' : Nat), Q2 r σ' cnt' → pm_wp M G B pc' loc (r.toList ++ rest) (cs + mc2) (zs + ms2) cnt' σ') : pm_wp M G B pc loc st cs zs cnt σ := by
  obtain ⟨hd, rfl⟩ := hd
  subst hst
  intro H ls locs h1 h2 h3 h4
  have hp : PreV (pm_s G) H M2.1.cls q (va_Pc (.ref q :: As) (fun U => ((pm_env G.2.1.1 G.2.1.2 U ∧ pm_ow B U) ∧ pm_isNm B q z U) ∧ pm_H G.2.1.1 G.2.1.2 B σ cnt U.heap)) As := by
    refine ⟨pm_blindN, ?_, fun U hU hW => ⟨rfl, ⟨⟨hG.env.moved hW, hG.ow.moved hW (fun a ha => by rw [hU]; exact h2 a ha)⟩, hN.moved hW (fun a ha => by rw [hU]; exact h2 a ha)⟩, by rw [hU]; exact h1⟩⟩
    obtain ⟨cell, e1, e2, e3, e4⟩ := hN.1
    exact ⟨cell, by rw [h2 q (Nat.lt_of_not_le e4)]; exact e1, e2, by rw [hc]; exact e3⟩
  refine pm_run (av := .ref q :: As) h2 h3 h4 ?_ kk
  exact va_runV (As := As) (rest := rest) ⟨hG.x, hG.b, hG.ml, hG.own, hG.ts⟩ (hM _ _ _) ⟨pm_cb hG hR hm.1 hl hd2, hG.ts _ hm.2.1, hG.ts _ hm.2.2⟩ hp rfl hn h3.1 rfl (lv_room hw) hd ⟨Nat.le_trans hcs hR.2.2.1, Nat.le_trans hzs hR.2.2.2⟩
theorem pm_callSN {M2 : pm_M} {i n d d2 mc mc2 ms ms2 : Nat} {As rest : List Value} {Q2 : Option Value → pm_S → Nat → Prop} (hN : pm_isNm B q z (pm_s G)) (hG : pm_ok M G B) (hR : pm_rm G d mc ms) (hd : pm_dec M pc (.invokestatic i, 3) pc') (hl : Cond.methodLink M.1.cls i M2.1 ∈ pm_tbl) (hm : pm_mokS M2 n)
    (hM : pm_metN q z M2 d2 mc2 ms2 B As cnt σ Q2) (hst : st = As.reverse ++ rest) (hn : As.length = n) (hd2 : d2 + 1 ≤ d) (hcs : cs + mc2 ≤ mc) (hzs : zs + ms2 ≤ ms) (hw : (rest.map fun v => v.category).sum ≤ 8)
    (kk : ∀ (r : Option Value) (σ' : pm_S) (cnt' : Nat), Q2 r σ' cnt' → pm_wp M G B pc' loc (r.toList ++ rest) (cs + mc2) (zs + ms2) cnt' σ') : pm_wp M G B pc loc st cs zs cnt σ := by
  obtain ⟨hd, rfl⟩ := hd
  subst hst
  intro H ls locs h1 h2 h3 h4
  have hp : PreS (pm_s G) H (va_Pc As (fun U => ((pm_env G.2.1.1 G.2.1.2 U ∧ pm_ow B U) ∧ pm_isNm B q z U) ∧ pm_H G.2.1.1 G.2.1.2 B σ cnt U.heap)) As := ⟨pm_blindN, fun U hU hW => ⟨rfl, ⟨⟨hG.env.moved hW, hG.ow.moved hW (fun a ha => by rw [hU]; exact h2 a ha)⟩, hN.moved hW (fun a ha => by rw [hU]; exact h2 a ha)⟩, by rw [hU]; exact h1⟩⟩
  refine pm_run (av := As) h2 h3 h4 ?_ kk
  exact va_runS (As := As) (rest := rest) ⟨hG.x, hG.b, hG.ml, hG.own, hG.ts⟩ (hM _ _ _) ⟨pm_cb hG hR hm.1 hl hd2, hG.ts _ hm.2⟩ hp rfl hn h3.1 rfl (lv_room hw) hd ⟨Nat.le_trans hcs hR.2.2.1, Nat.le_trans hzs hR.2.2.2⟩
theorem pm_ldcN (hG : pm_ok M G B) (hc : M.1.cls = "SealCouncil$Reader") (hd : pm_dec M pc (.ldc 63, 2) pc') (kk : ∀ q z : Nat, pm_isNm B q z (pm_s G) → pm_wp M G B pc' loc (.ref q :: st) cs zs cnt σ) : pm_wp M G B pc loc st cs zs cnt σ := by
  obtain ⟨hd, rfl⟩ := hd
  obtain ⟨-, -, adK, adV, hS, hR⟩ := hG.ow
  obtain ⟨g1, g2, g3, g4⟩ := hS.1 0 (by decide)
  intro H ls locs h1 h2 h3 h4
  exact va_ldcS hG.x hG.b hG.own (by rw [hc]; exact hR) hd (kk (adK 0) (adV 0) ⟨g1, g2, g3, g4⟩ H ls locs h1 h2 h3 h4)
theorem pm_ngetC {i : Nat} (hN : pm_isNm B q z (pm_s G)) (hG : pm_ok M G B) (hd : pm_dec M pc (.getfield i, 3) pc') (hl : Cond.fieldLink M.1.cls i "java/lang/String" "coder" "B" ∈ pm_tbl) (kk : pm_wp M G B pc' loc (.int 0 :: st) cs zs cnt σ) : pm_wp M G B pc loc (.ref q :: st) cs zs cnt σ := by
  obtain ⟨hd, rfl⟩ := hd
  obtain ⟨cf, k, fi, f, cell, e1, e2, e3, e4, e5, e6⟩ := hN.2.1
  intro H ls locs h1 h2 h3 h4
  exact W.getf hG.x hG.b hG.own (hG.ts _ hl) e1 e2 (by rw [h2 q (Nat.lt_of_not_le e6)]; exact e3) e4 (v := .int 0) e5 rfl rfl hd (kk H ls locs h1 h2 h3 h4)
theorem pm_ngetV {i : Nat} (hN : pm_isNm B q z (pm_s G)) (hG : pm_ok M G B) (hd : pm_dec M pc (.getfield i, 3) pc') (hl : Cond.fieldLink M.1.cls i "java/lang/String" "value" "[B" ∈ pm_tbl) (kk : pm_wp M G B pc' loc (.ref z :: st) cs zs cnt σ) : pm_wp M G B pc loc (.ref q :: st) cs zs cnt σ := by
  obtain ⟨hd, rfl⟩ := hd
  obtain ⟨cf, k, fi, f, cell, e1, e2, e3, e4, e5, e6⟩ := hN.2.2.1
  intro H ls locs h1 h2 h3 h4
  exact W.getf hG.x hG.b hG.own (hG.ts _ hl) e1 e2 (by rw [h2 q (Nat.lt_of_not_le e6)]; exact e3) e4 (v := .ref z) e5 rfl rfl hd (kk H ls locs h1 h2 h3 h4)
theorem pm_gsCS {i : Nat} (hG : pm_ok M G B) (hd : pm_dec M pc (.getstatic i, 3) pc') (hl : Cond.fieldLink M.1.cls i "java/lang/String" "COMPACT_STRINGS" "Z" ∈ pm_tbl) (kk : pm_wp M G B pc' loc (.int 1 :: st) cs zs cnt σ) : pm_wp M G B pc loc st cs zs cnt σ := by
  obtain ⟨hd, rfl⟩ := hd
  obtain ⟨-, ⟨cf, kf, fi, f, a, cell, e1, e2, e3, e4, e5, e6, e7, e8⟩, -⟩ := hG.ow
  intro H ls locs h1 h2 h3 h4
  exact W.gets hG.x hG.b hG.own (hG.ts _ hl) e1 e2 e3 e4 (by rw [h2 a (Nat.lt_of_not_le e8)]; exact e5) (fun e => by rw [e] at e6; cases e6) e7 rfl hd (kk H ls locs h1 h2 h3 h4)
theorem pm_nbLen (hN : pm_isNm B q z (pm_s G)) (hG : pm_ok M G B) (hd : pm_dec M pc (.arraylength, 1) pc') (kk : pm_wp M G B pc' loc (.int 11 :: st) cs zs cnt σ) : pm_wp M G B pc loc (.ref z :: st) cs zs cnt σ := by
  obtain ⟨hd, rfl⟩ := hd
  obtain ⟨cell, e1, e2, e3, e4, e5, e6, e7⟩ := hN.2.2.2
  intro H ls locs h1 h2 h3 h4
  exact W.alen (n := Int32.ofNat 11) hG.x hG.b (by rw [h2 z (Nat.lt_of_not_le e7)]; exact e1) e2 e5 rfl rfl hd (kk H ls locs h1 h2 h3 h4)
theorem pm_nbLd {i : Int32} (hN : pm_isNm B q z (pm_s G)) (hG : pm_ok M G B) (hd : pm_dec M pc (.baload, 1) pc') (hin : vp_in i 11) (kk : ∀ v : Int32, pm_wp M G B pc' loc (.int v :: st) cs zs cnt σ) : pm_wp M G B pc loc (.int i :: .ref z :: st) cs zs cnt σ := by
  obtain ⟨hd, rfl⟩ := hd
  obtain ⟨cell, e1, e2, e3, e4, e5, e6, e7⟩ := hN.2.2.2
  intro H ls locs h1 h2 h3 h4
  have hlt : i.toNatClampNeg < 11 := Nat.not_le.mp fun a => hin (Or.inr a)
  have hin' : ¬ (i < 0 ∨ cell.slots.size ≤ i.toNatClampNeg) := by
    intro a
    rcases a with a | a
    · exact hin (Or.inl a)
    · omega
  exact W.bald (v := .int (pm_nb.getD i.toNatClampNeg 0)) hG.x hG.b (by rw [h2 z (Nat.lt_of_not_le e7)]; exact e1) e2 e3 hin' (by rw [e6 _ hlt]) rfl rfl hd (kk _ H ls locs h1 h2 h3 h4)
theorem pm_i2c {x : Int32} (hG : pm_ok M G B) (hd : pm_dec M pc (.i2c, 1) pc') (kk : ∀ v : Int32, pm_wp M G B pc' loc (.int v :: st) cs zs cnt σ) : pm_wp M G B pc loc (.int x :: st) cs zs cnt σ := by
  obtain ⟨hd, rfl⟩ := hd
  intro H ls locs h1 h2 h3 h4
  exact lv_i2c hG.x hG.b hd rfl (kk _ H ls locs h1 h2 h3 h4)
theorem pm_bret {v : Int32} {mc ms : Nat} {Q : Option Value → pm_S → Nat → Prop} (hG : pm_ok M G B) (hp : pm_fin G B mc ms Q) (hd : pm_dec M pc (.ireturn, 1) pc') (hret : M.2.2.2 = some .byte) (hv : narrow .byte (.int v) = .int v) (hcs : cs ≤ mc) (hzs : zs ≤ ms) (hq : Q (some (.int v)) σ cnt) : pm_wp M G B pc loc [.int v] cs zs cnt σ := by
  intro H ls locs h1 h2 h3 h4
  unfold pm_Wg
  rw [hp]
  refine W.widen hcs hzs (W.zret hG.x hG.b (hG.2.2.2.2.2.1.trans hret) hv (fun t ht hW => ⟨_, σ, cnt, rfl, hq, by rw [ht]; exact h1, fun q hq => by rw [ht]; exact h2 q hq⟩) h4 hd.1 hG.2.2.2.2.1)
end PMN
set_option maxRecDepth 100000 in
theorem gj_canEncode {d B cnt : Nat} {σ : pm_S} {x : Int32} : pm_met mJ1_canEncode_9a6ad d 0 0 B [.int x] cnt σ (pm_Qi (fun _ σ' cnt' => σ' = σ ∧ cnt' = cnt)) := by
  refine pm_enter 0 (by decide) (Nat.le_of_ble_eq_true rfl) rfl (fun G hG hR hF => ?_)
  refine pm_iloadn hG dJ1_canEncode_9a6ad_0 rfl ?_
  refine pm_if_lt (tgt := 15) hG dJ1_canEncode_9a6ad_1 rfl (fun c1 => ?_) (fun c1 => ?_)
  · refine pm_iconst (v := 0) hG dJ1_canEncode_9a6ad_15 (by decide) ?_
    exact pm_zret hG hF dJ1_canEncode_9a6ad_16 rfl (by rfl) (by decide) (by decide) ⟨_, rfl, rfl, rfl⟩
  · refine pm_iloadn hG dJ1_canEncode_9a6ad_4 rfl ?_
    refine pm_sipush (v := 255) hG dJ1_canEncode_9a6ad_5 (by decide) ?_
    refine pm_icmp_gt (tgt := 15) hG dJ1_canEncode_9a6ad_8 rfl (fun c2 => ?_) (fun c2 => ?_)
    · refine pm_iconst (v := 0) hG dJ1_canEncode_9a6ad_15 (by decide) ?_
      exact pm_zret hG hF dJ1_canEncode_9a6ad_16 rfl (by rfl) (by decide) (by decide) ⟨_, rfl, rfl, rfl⟩
    · refine pm_iconst (v := 1) hG dJ1_canEncode_9a6ad_11 (by decide) ?_
      refine pm_goto (tgt := 16) hG dJ1_canEncode_9a6ad_12 rfl ?_
      exact pm_zret hG hF dJ1_canEncode_9a6ad_16 rfl (by rfl) (by decide) (by decide) ⟨_, rfl, rfl, rfl⟩
set_option maxRecDepth 100000 in
theorem gj_ioc {d B cnt q z : Nat} {σ : pm_S} {x : Int32} : pm_metN q z mJ1_indexOfChar_4cfef d 0 0 B [.ref z, .int x, .int 0, .int 11] cnt σ (pm_Qi (fun _ σ' cnt' => σ' = σ ∧ cnt' = cnt)) := by
  refine pm_enterN 2 (by decide) (Nat.le_of_ble_eq_true rfl) rfl (fun G hG hR hF hN => ?_)
  refine pm_iloadn hG dJ1_indexOfChar_4cfef_0 rfl ?_
  refine pm_i2b hG dJ1_indexOfChar_4cfef_1 rfl ?_
  refine pm_istoreXi (loc' := [some (.ref z), some (.int x), some (.int 0), some (.int 11), some (.int x.toInt8.toInt32), none]) hG dJ1_indexOfChar_4cfef_2 (by decide) (pm_c1b rfl) rfl ?_
  refine pm_iloadn hG dJ1_indexOfChar_4cfef_4 rfl ?_
  refine pm_istoreXi (loc' := [some (.ref z), some (.int x), some (.int 0), some (.int 11), some (.int x.toInt8.toInt32), some (.int 0)]) hG dJ1_indexOfChar_4cfef_5 (by decide) (pm_c1b rfl) rfl ?_
  refine pm_iloadi hG dJ1_indexOfChar_4cfef_7 rfl ?_
  refine pm_iloadn hG dJ1_indexOfChar_4cfef_9 rfl ?_
  refine pm_icmp_ge (tgt := 31) hG dJ1_indexOfChar_4cfef_10 rfl (fun q => absurd q (by decide)) (fun _ => ?_)
  refine pm_aloadn hG dJ1_indexOfChar_4cfef_13 rfl ?_
  refine pm_iloadi hG dJ1_indexOfChar_4cfef_14 rfl ?_
  refine pm_nbLd hN hG dJ1_indexOfChar_4cfef_16 (pm_inb (by decide)) (fun v1 => ?_)
  refine pm_iloadi hG dJ1_indexOfChar_4cfef_17 rfl ?_
  refine pm_icmp_ne (tgt := 25) hG dJ1_indexOfChar_4cfef_19 rfl (fun c2 => ?_) (fun c2 => ?_)
  · refine pm_iincX (v := 1) (loc' := [some (.ref z), some (.int x), some (.int 0), some (.int 11), some (.int x.toInt8.toInt32), some (.int 1)]) hG dJ1_indexOfChar_4cfef_25 rfl (by rfl) (by decide) (pm_c1b rfl) rfl ?_
    refine pm_goto (tgt := 7) hG dJ1_indexOfChar_4cfef_28 rfl ?_
    refine pm_iloadi hG dJ1_indexOfChar_4cfef_7 rfl ?_
    refine pm_iloadn hG dJ1_indexOfChar_4cfef_9 rfl ?_
    refine pm_icmp_ge (tgt := 31) hG dJ1_indexOfChar_4cfef_10 rfl (fun q => absurd q (by decide)) (fun _ => ?_)
    refine pm_aloadn hG dJ1_indexOfChar_4cfef_13 rfl ?_
    refine pm_iloadi hG dJ1_indexOfChar_4cfef_14 rfl ?_
    refine pm_nbLd hN hG dJ1_indexOfChar_4cfef_16 (pm_inb (by decide)) (fun v3 => ?_)
    refine pm_iloadi hG dJ1_indexOfChar_4cfef_17 rfl ?_
    refine pm_icmp_ne (tgt := 25) hG dJ1_indexOfChar_4cfef_19 rfl (fun c4 => ?_) (fun c4 => ?_)
    · refine pm_iincX (v := 2) (loc' := [some (.ref z), some (.int x), some (.int 0), some (.int 11), some (.int x.toInt8.toInt32), some (.int 2)]) hG dJ1_indexOfChar_4cfef_25 rfl (by rfl) (by decide) (pm_c1b rfl) rfl ?_
      refine pm_goto (tgt := 7) hG dJ1_indexOfChar_4cfef_28 rfl ?_
      refine pm_iloadi hG dJ1_indexOfChar_4cfef_7 rfl ?_
      refine pm_iloadn hG dJ1_indexOfChar_4cfef_9 rfl ?_
      refine pm_icmp_ge (tgt := 31) hG dJ1_indexOfChar_4cfef_10 rfl (fun q => absurd q (by decide)) (fun _ => ?_)
      refine pm_aloadn hG dJ1_indexOfChar_4cfef_13 rfl ?_
      refine pm_iloadi hG dJ1_indexOfChar_4cfef_14 rfl ?_
      refine pm_nbLd hN hG dJ1_indexOfChar_4cfef_16 (pm_inb (by decide)) (fun v5 => ?_)
      refine pm_iloadi hG dJ1_indexOfChar_4cfef_17 rfl ?_
      refine pm_icmp_ne (tgt := 25) hG dJ1_indexOfChar_4cfef_19 rfl (fun c6 => ?_) (fun c6 => ?_)
      · refine pm_iincX (v := 3) (loc' := [some (.ref z), some (.int x), some (.int 0), some (.int 11), some (.int x.toInt8.toInt32), some (.int 3)]) hG dJ1_indexOfChar_4cfef_25 rfl (by rfl) (by decide) (pm_c1b rfl) rfl ?_
        refine pm_goto (tgt := 7) hG dJ1_indexOfChar_4cfef_28 rfl ?_
        refine pm_iloadi hG dJ1_indexOfChar_4cfef_7 rfl ?_
        refine pm_iloadn hG dJ1_indexOfChar_4cfef_9 rfl ?_
        refine pm_icmp_ge (tgt := 31) hG dJ1_indexOfChar_4cfef_10 rfl (fun q => absurd q (by decide)) (fun _ => ?_)
        refine pm_aloadn hG dJ1_indexOfChar_4cfef_13 rfl ?_
        refine pm_iloadi hG dJ1_indexOfChar_4cfef_14 rfl ?_
        refine pm_nbLd hN hG dJ1_indexOfChar_4cfef_16 (pm_inb (by decide)) (fun v7 => ?_)
        refine pm_iloadi hG dJ1_indexOfChar_4cfef_17 rfl ?_
        refine pm_icmp_ne (tgt := 25) hG dJ1_indexOfChar_4cfef_19 rfl (fun c8 => ?_) (fun c8 => ?_)
        · refine pm_iincX (v := 4) (loc' := [some (.ref z), some (.int x), some (.int 0), some (.int 11), some (.int x.toInt8.toInt32), some (.int 4)]) hG dJ1_indexOfChar_4cfef_25 rfl (by rfl) (by decide) (pm_c1b rfl) rfl ?_
          refine pm_goto (tgt := 7) hG dJ1_indexOfChar_4cfef_28 rfl ?_
          refine pm_iloadi hG dJ1_indexOfChar_4cfef_7 rfl ?_
          refine pm_iloadn hG dJ1_indexOfChar_4cfef_9 rfl ?_
          refine pm_icmp_ge (tgt := 31) hG dJ1_indexOfChar_4cfef_10 rfl (fun q => absurd q (by decide)) (fun _ => ?_)
          refine pm_aloadn hG dJ1_indexOfChar_4cfef_13 rfl ?_
          refine pm_iloadi hG dJ1_indexOfChar_4cfef_14 rfl ?_
          refine pm_nbLd hN hG dJ1_indexOfChar_4cfef_16 (pm_inb (by decide)) (fun v9 => ?_)
          refine pm_iloadi hG dJ1_indexOfChar_4cfef_17 rfl ?_
          refine pm_icmp_ne (tgt := 25) hG dJ1_indexOfChar_4cfef_19 rfl (fun c10 => ?_) (fun c10 => ?_)
          · refine pm_iincX (v := 5) (loc' := [some (.ref z), some (.int x), some (.int 0), some (.int 11), some (.int x.toInt8.toInt32), some (.int 5)]) hG dJ1_indexOfChar_4cfef_25 rfl (by rfl) (by decide) (pm_c1b rfl) rfl ?_
            refine pm_goto (tgt := 7) hG dJ1_indexOfChar_4cfef_28 rfl ?_
            refine pm_iloadi hG dJ1_indexOfChar_4cfef_7 rfl ?_
            refine pm_iloadn hG dJ1_indexOfChar_4cfef_9 rfl ?_
            refine pm_icmp_ge (tgt := 31) hG dJ1_indexOfChar_4cfef_10 rfl (fun q => absurd q (by decide)) (fun _ => ?_)
            refine pm_aloadn hG dJ1_indexOfChar_4cfef_13 rfl ?_
            refine pm_iloadi hG dJ1_indexOfChar_4cfef_14 rfl ?_
            refine pm_nbLd hN hG dJ1_indexOfChar_4cfef_16 (pm_inb (by decide)) (fun v11 => ?_)
            refine pm_iloadi hG dJ1_indexOfChar_4cfef_17 rfl ?_
            refine pm_icmp_ne (tgt := 25) hG dJ1_indexOfChar_4cfef_19 rfl (fun c12 => ?_) (fun c12 => ?_)
            · refine pm_iincX (v := 6) (loc' := [some (.ref z), some (.int x), some (.int 0), some (.int 11), some (.int x.toInt8.toInt32), some (.int 6)]) hG dJ1_indexOfChar_4cfef_25 rfl (by rfl) (by decide) (pm_c1b rfl) rfl ?_
              refine pm_goto (tgt := 7) hG dJ1_indexOfChar_4cfef_28 rfl ?_
              refine pm_iloadi hG dJ1_indexOfChar_4cfef_7 rfl ?_
              refine pm_iloadn hG dJ1_indexOfChar_4cfef_9 rfl ?_
              refine pm_icmp_ge (tgt := 31) hG dJ1_indexOfChar_4cfef_10 rfl (fun q => absurd q (by decide)) (fun _ => ?_)
              refine pm_aloadn hG dJ1_indexOfChar_4cfef_13 rfl ?_
              refine pm_iloadi hG dJ1_indexOfChar_4cfef_14 rfl ?_
              refine pm_nbLd hN hG dJ1_indexOfChar_4cfef_16 (pm_inb (by decide)) (fun v13 => ?_)
              refine pm_iloadi hG dJ1_indexOfChar_4cfef_17 rfl ?_
              refine pm_icmp_ne (tgt := 25) hG dJ1_indexOfChar_4cfef_19 rfl (fun c14 => ?_) (fun c14 => ?_)
              · refine pm_iincX (v := 7) (loc' := [some (.ref z), some (.int x), some (.int 0), some (.int 11), some (.int x.toInt8.toInt32), some (.int 7)]) hG dJ1_indexOfChar_4cfef_25 rfl (by rfl) (by decide) (pm_c1b rfl) rfl ?_
                refine pm_goto (tgt := 7) hG dJ1_indexOfChar_4cfef_28 rfl ?_
                refine pm_iloadi hG dJ1_indexOfChar_4cfef_7 rfl ?_
                refine pm_iloadn hG dJ1_indexOfChar_4cfef_9 rfl ?_
                refine pm_icmp_ge (tgt := 31) hG dJ1_indexOfChar_4cfef_10 rfl (fun q => absurd q (by decide)) (fun _ => ?_)
                refine pm_aloadn hG dJ1_indexOfChar_4cfef_13 rfl ?_
                refine pm_iloadi hG dJ1_indexOfChar_4cfef_14 rfl ?_
                refine pm_nbLd hN hG dJ1_indexOfChar_4cfef_16 (pm_inb (by decide)) (fun v15 => ?_)
                refine pm_iloadi hG dJ1_indexOfChar_4cfef_17 rfl ?_
                refine pm_icmp_ne (tgt := 25) hG dJ1_indexOfChar_4cfef_19 rfl (fun c16 => ?_) (fun c16 => ?_)
                · refine pm_iincX (v := 8) (loc' := [some (.ref z), some (.int x), some (.int 0), some (.int 11), some (.int x.toInt8.toInt32), some (.int 8)]) hG dJ1_indexOfChar_4cfef_25 rfl (by rfl) (by decide) (pm_c1b rfl) rfl ?_
                  refine pm_goto (tgt := 7) hG dJ1_indexOfChar_4cfef_28 rfl ?_
                  refine pm_iloadi hG dJ1_indexOfChar_4cfef_7 rfl ?_
                  refine pm_iloadn hG dJ1_indexOfChar_4cfef_9 rfl ?_
                  refine pm_icmp_ge (tgt := 31) hG dJ1_indexOfChar_4cfef_10 rfl (fun q => absurd q (by decide)) (fun _ => ?_)
                  refine pm_aloadn hG dJ1_indexOfChar_4cfef_13 rfl ?_
                  refine pm_iloadi hG dJ1_indexOfChar_4cfef_14 rfl ?_
                  refine pm_nbLd hN hG dJ1_indexOfChar_4cfef_16 (pm_inb (by decide)) (fun v17 => ?_)
                  refine pm_iloadi hG dJ1_indexOfChar_4cfef_17 rfl ?_
                  refine pm_icmp_ne (tgt := 25) hG dJ1_indexOfChar_4cfef_19 rfl (fun c18 => ?_) (fun c18 => ?_)
                  · refine pm_iincX (v := 9) (loc' := [some (.ref z), some (.int x), some (.int 0), some (.int 11), some (.int x.toInt8.toInt32), some (.int 9)]) hG dJ1_indexOfChar_4cfef_25 rfl (by rfl) (by decide) (pm_c1b rfl) rfl ?_
                    refine pm_goto (tgt := 7) hG dJ1_indexOfChar_4cfef_28 rfl ?_
                    refine pm_iloadi hG dJ1_indexOfChar_4cfef_7 rfl ?_
                    refine pm_iloadn hG dJ1_indexOfChar_4cfef_9 rfl ?_
                    refine pm_icmp_ge (tgt := 31) hG dJ1_indexOfChar_4cfef_10 rfl (fun q => absurd q (by decide)) (fun _ => ?_)
                    refine pm_aloadn hG dJ1_indexOfChar_4cfef_13 rfl ?_
                    refine pm_iloadi hG dJ1_indexOfChar_4cfef_14 rfl ?_
                    refine pm_nbLd hN hG dJ1_indexOfChar_4cfef_16 (pm_inb (by decide)) (fun v19 => ?_)
                    refine pm_iloadi hG dJ1_indexOfChar_4cfef_17 rfl ?_
                    refine pm_icmp_ne (tgt := 25) hG dJ1_indexOfChar_4cfef_19 rfl (fun c20 => ?_) (fun c20 => ?_)
                    · refine pm_iincX (v := 10) (loc' := [some (.ref z), some (.int x), some (.int 0), some (.int 11), some (.int x.toInt8.toInt32), some (.int 10)]) hG dJ1_indexOfChar_4cfef_25 rfl (by rfl) (by decide) (pm_c1b rfl) rfl ?_
                      refine pm_goto (tgt := 7) hG dJ1_indexOfChar_4cfef_28 rfl ?_
                      refine pm_iloadi hG dJ1_indexOfChar_4cfef_7 rfl ?_
                      refine pm_iloadn hG dJ1_indexOfChar_4cfef_9 rfl ?_
                      refine pm_icmp_ge (tgt := 31) hG dJ1_indexOfChar_4cfef_10 rfl (fun q => absurd q (by decide)) (fun _ => ?_)
                      refine pm_aloadn hG dJ1_indexOfChar_4cfef_13 rfl ?_
                      refine pm_iloadi hG dJ1_indexOfChar_4cfef_14 rfl ?_
                      refine pm_nbLd hN hG dJ1_indexOfChar_4cfef_16 (pm_inb (by decide)) (fun v21 => ?_)
                      refine pm_iloadi hG dJ1_indexOfChar_4cfef_17 rfl ?_
                      refine pm_icmp_ne (tgt := 25) hG dJ1_indexOfChar_4cfef_19 rfl (fun c22 => ?_) (fun c22 => ?_)
                      · refine pm_iincX (v := 11) (loc' := [some (.ref z), some (.int x), some (.int 0), some (.int 11), some (.int x.toInt8.toInt32), some (.int 11)]) hG dJ1_indexOfChar_4cfef_25 rfl (by rfl) (by decide) (pm_c1b rfl) rfl ?_
                        refine pm_goto (tgt := 7) hG dJ1_indexOfChar_4cfef_28 rfl ?_
                        refine pm_iloadi hG dJ1_indexOfChar_4cfef_7 rfl ?_
                        refine pm_iloadn hG dJ1_indexOfChar_4cfef_9 rfl ?_
                        refine pm_icmp_ge (tgt := 31) hG dJ1_indexOfChar_4cfef_10 rfl (fun _ => ?_) (fun q => absurd q (by decide))
                        refine pm_iconst (v := (-1)) hG dJ1_indexOfChar_4cfef_31 (by decide) ?_
                        exact pm_iret hG hF dJ1_indexOfChar_4cfef_32 rfl (Nat.le_refl _) (Nat.le_refl _) ⟨_, rfl, rfl, rfl⟩
                      · refine pm_iloadi hG dJ1_indexOfChar_4cfef_22 rfl ?_
                        exact pm_iret hG hF dJ1_indexOfChar_4cfef_24 rfl (Nat.le_refl _) (Nat.le_refl _) ⟨_, rfl, rfl, rfl⟩
                    · refine pm_iloadi hG dJ1_indexOfChar_4cfef_22 rfl ?_
                      exact pm_iret hG hF dJ1_indexOfChar_4cfef_24 rfl (Nat.le_refl _) (Nat.le_refl _) ⟨_, rfl, rfl, rfl⟩
                  · refine pm_iloadi hG dJ1_indexOfChar_4cfef_22 rfl ?_
                    exact pm_iret hG hF dJ1_indexOfChar_4cfef_24 rfl (Nat.le_refl _) (Nat.le_refl _) ⟨_, rfl, rfl, rfl⟩
                · refine pm_iloadi hG dJ1_indexOfChar_4cfef_22 rfl ?_
                  exact pm_iret hG hF dJ1_indexOfChar_4cfef_24 rfl (Nat.le_refl _) (Nat.le_refl _) ⟨_, rfl, rfl, rfl⟩
              · refine pm_iloadi hG dJ1_indexOfChar_4cfef_22 rfl ?_
                exact pm_iret hG hF dJ1_indexOfChar_4cfef_24 rfl (Nat.le_refl _) (Nat.le_refl _) ⟨_, rfl, rfl, rfl⟩
            · refine pm_iloadi hG dJ1_indexOfChar_4cfef_22 rfl ?_
              exact pm_iret hG hF dJ1_indexOfChar_4cfef_24 rfl (Nat.le_refl _) (Nat.le_refl _) ⟨_, rfl, rfl, rfl⟩
          · refine pm_iloadi hG dJ1_indexOfChar_4cfef_22 rfl ?_
            exact pm_iret hG hF dJ1_indexOfChar_4cfef_24 rfl (Nat.le_refl _) (Nat.le_refl _) ⟨_, rfl, rfl, rfl⟩
        · refine pm_iloadi hG dJ1_indexOfChar_4cfef_22 rfl ?_
          exact pm_iret hG hF dJ1_indexOfChar_4cfef_24 rfl (Nat.le_refl _) (Nat.le_refl _) ⟨_, rfl, rfl, rfl⟩
      · refine pm_iloadi hG dJ1_indexOfChar_4cfef_22 rfl ?_
        exact pm_iret hG hF dJ1_indexOfChar_4cfef_24 rfl (Nat.le_refl _) (Nat.le_refl _) ⟨_, rfl, rfl, rfl⟩
    · refine pm_iloadi hG dJ1_indexOfChar_4cfef_22 rfl ?_
      exact pm_iret hG hF dJ1_indexOfChar_4cfef_24 rfl (Nat.le_refl _) (Nat.le_refl _) ⟨_, rfl, rfl, rfl⟩
  · refine pm_iloadi hG dJ1_indexOfChar_4cfef_22 rfl ?_
    exact pm_iret hG hF dJ1_indexOfChar_4cfef_24 rfl (Nat.le_refl _) (Nat.le_refl _) ⟨_, rfl, rfl, rfl⟩
set_option maxRecDepth 100000 in
theorem gj_iofL {d B cnt q z : Nat} {σ : pm_S} {x : Int32} (hdd : 1 ≤ d) : pm_metN q z mJ1_indexOf_4cfef d 0 0 B [.ref z, .int x, .int 0, .int 11] cnt σ (pm_Qi (fun _ σ' cnt' => σ' = σ ∧ cnt' = cnt)) := by
  refine pm_enterN 0 (by decide) (Nat.le_of_ble_eq_true rfl) rfl (fun G hG hR hF hN => ?_)
  refine pm_iloadn hG dJ1_indexOf_4cfef_0 rfl ?_
  refine pm_callS (As := [.int x]) (rest := []) hG hR dJ1_indexOf_4cfef_1 (lkJ1_88 _ rfl) okS_J1_canEncode_9a6ad (gj_canEncode (d := 0)) rfl rfl hdd (Nat.le_refl _) (Nat.le_refl _) (by decide) (pm_ki (fun v1 σ' cnt' hq => ?_))
  obtain ⟨rfl, rfl⟩ := hq
  refine pm_if_ne (tgt := 9) hG dJ1_indexOf_4cfef_4 rfl (fun c2 => ?_) (fun c2 => ?_)
  · refine pm_iloadn hG dJ1_indexOf_4cfef_9 rfl ?_
    refine pm_iconst (v := 0) hG dJ1_indexOf_4cfef_10 (by decide) ?_
    refine pm_mmax hG hR dJ1_indexOf_4cfef_11 (mmJ1_92 _ rfl) pm_mwmax (by omega) (by first | decide | exact Nat.le_of_ble_eq_true rfl) (Nat.le_refl _) (Nat.le_refl _) ?_
    refine pm_top (v := 0) (by decide) ?_
    refine pm_istoreXn (loc' := [some (.ref z), some (.int x), some (.int 0), some (.int 11)]) hG dJ1_indexOf_4cfef_14 (by decide) (pm_c1b rfl) rfl ?_
    refine pm_iloadn hG dJ1_indexOf_4cfef_15 rfl ?_
    refine pm_aloadn hG dJ1_indexOf_4cfef_16 rfl ?_
    refine pm_nbLen hN hG dJ1_indexOf_4cfef_17 ?_
    refine pm_mmin hG hR dJ1_indexOf_4cfef_18 (mmJ1_38 _ rfl) pm_mwmin (by omega) (by first | decide | exact Nat.le_of_ble_eq_true rfl) (Nat.le_refl _) (Nat.le_refl _) ?_
    refine pm_top (v := 11) (by decide) ?_
    refine pm_istoreXn (loc' := [some (.ref z), some (.int x), some (.int 0), some (.int 11)]) hG dJ1_indexOf_4cfef_21 (by decide) (pm_c1b rfl) rfl ?_
    refine pm_iloadn hG dJ1_indexOf_4cfef_22 rfl ?_
    refine pm_iloadn hG dJ1_indexOf_4cfef_23 rfl ?_
    refine pm_icmp_lt (tgt := 29) hG dJ1_indexOf_4cfef_24 rfl (fun _ => ?_) (fun q => absurd q (by decide))
    refine pm_aloadn hG dJ1_indexOf_4cfef_29 rfl ?_
    refine pm_iloadn hG dJ1_indexOf_4cfef_30 rfl ?_
    refine pm_iloadn hG dJ1_indexOf_4cfef_31 rfl ?_
    refine pm_iloadn hG dJ1_indexOf_4cfef_32 rfl ?_
    refine pm_callSN (As := [.ref z, .int x, .int 0, .int 11]) (rest := []) hN hG hR dJ1_indexOf_4cfef_33 (lpJ1_95 _ rfl) okS_J1_indexOfChar_4cfef (gj_ioc (d := 0)) rfl rfl hdd (Nat.le_refl _) (Nat.le_refl _) (by decide) (pm_ki (fun v3 σ' cnt' hq => ?_))
    obtain ⟨rfl, rfl⟩ := hq
    exact pm_iret hG hF dJ1_indexOf_4cfef_36 rfl (Nat.le_refl _) (Nat.le_refl _) ⟨_, rfl, rfl, rfl⟩
  · refine pm_iconst (v := (-1)) hG dJ1_indexOf_4cfef_7 (by decide) ?_
    exact pm_iret hG hF dJ1_indexOf_4cfef_8 rfl (Nat.le_refl _) (Nat.le_refl _) ⟨_, rfl, rfl, rfl⟩
set_option maxRecDepth 100000 in
theorem gj_coder {d B cnt q z : Nat} {σ : pm_S}  : pm_metN q z mJ0_coder_7d493 d 0 0 B [.ref q] cnt σ (pm_Qi (fun v σ' cnt' => v = 0 ∧ σ' = σ ∧ cnt' = cnt)) := by
  refine pm_enterN 0 (by decide) (Nat.le_of_ble_eq_true rfl) rfl (fun G hG hR hF hN => ?_)
  refine pm_gsCS hG dJ0_coder_7d493_0 (foJ0_38 _ rfl) ?_
  refine pm_if_eq (tgt := 13) hG dJ0_coder_7d493_3 rfl (fun q => absurd q (by decide)) (fun _ => ?_)
  refine pm_aloadn hG dJ0_coder_7d493_6 rfl ?_
  refine pm_ngetC hN hG dJ0_coder_7d493_7 (foJ0_15 _ rfl) ?_
  refine pm_goto (tgt := 14) hG dJ0_coder_7d493_10 rfl ?_
  exact pm_bret hG hF dJ0_coder_7d493_14 rfl (by rfl) (Nat.le_refl _) (Nat.le_refl _) ⟨_, rfl, rfl, rfl, rfl⟩
set_option maxRecDepth 100000 in
theorem gj_isLatin1 {d B cnt q z : Nat} {σ : pm_S}  : pm_metN q z mJ0_isLatin1_aae02 d 0 0 B [.ref q] cnt σ (pm_Qi (fun v σ' cnt' => v = 1 ∧ σ' = σ ∧ cnt' = cnt)) := by
  refine pm_enterN 0 (by decide) (Nat.le_of_ble_eq_true rfl) rfl (fun G hG hR hF hN => ?_)
  refine pm_gsCS hG dJ0_isLatin1_aae02_0 (foJ0_38 _ rfl) ?_
  refine pm_if_eq (tgt := 17) hG dJ0_isLatin1_aae02_3 rfl (fun q => absurd q (by decide)) (fun _ => ?_)
  refine pm_aloadn hG dJ0_isLatin1_aae02_6 rfl ?_
  refine pm_ngetC hN hG dJ0_isLatin1_aae02_7 (foJ0_15 _ rfl) ?_
  refine pm_if_ne (tgt := 17) hG dJ0_isLatin1_aae02_10 rfl (fun q => absurd q (by decide)) (fun _ => ?_)
  refine pm_iconst (v := 1) hG dJ0_isLatin1_aae02_13 (by decide) ?_
  refine pm_goto (tgt := 18) hG dJ0_isLatin1_aae02_14 rfl ?_
  exact pm_zret hG hF dJ0_isLatin1_aae02_18 rfl (by rfl) (Nat.le_refl _) (Nat.le_refl _) ⟨_, rfl, rfl, rfl, rfl⟩
set_option maxRecDepth 100000 in
theorem gj_length {d B cnt q z : Nat} {σ : pm_S} (hdd : 1 ≤ d) : pm_metN q z mJ0_length_8abf5 d 0 0 B [.ref q] cnt σ (pm_Qi (fun v σ' cnt' => v = 11 ∧ σ' = σ ∧ cnt' = cnt)) := by
  refine pm_enterN 0 (by decide) (Nat.le_of_ble_eq_true rfl) rfl (fun G hG hR hF hN => ?_)
  refine pm_aloadn hG dJ0_length_8abf5_0 rfl ?_
  refine pm_ngetV hN hG dJ0_length_8abf5_1 (foJ0_9 _ rfl) ?_
  refine pm_nbLen hN hG dJ0_length_8abf5_4 ?_
  refine pm_aloadn hG dJ0_length_8abf5_5 rfl ?_
  refine pm_callVN (As := []) (rest := [.int 11]) hN hG hR dJ0_length_8abf5_6 (lpJ0_335 _ rfl) okV_J0_coder_7d493 rfl (gj_coder (d := 0)) rfl rfl hdd (Nat.le_refl _) (Nat.le_refl _) (by first | decide | exact Nat.le_of_ble_eq_true rfl) (pm_ki (fun v1 σ' cnt' hq => ?_))
  obtain ⟨rfl, rfl, rfl⟩ := hq
  refine pm_ishr hG dJ0_length_8abf5_9 ?_
  refine pm_top (v := 11) (by decide) ?_
  exact pm_iret hG hF dJ0_length_8abf5_10 rfl (Nat.le_refl _) (Nat.le_refl _) ⟨_, rfl, rfl, rfl, rfl⟩
set_option maxRecDepth 100000 in
theorem gj_iof2 {d B cnt q z : Nat} {σ : pm_S} {x : Int32} (hdd : 2 ≤ d) : pm_metN q z mJ0_indexOf_7cf53 d 0 0 B [.ref q, .int x, .int 0] cnt σ (pm_Qi (fun _ σ' cnt' => σ' = σ ∧ cnt' = cnt)) := by
  refine pm_enterN 0 (by decide) (Nat.le_of_ble_eq_true rfl) rfl (fun G hG hR hF hN => ?_)
  refine pm_aloadn hG dJ0_indexOf_7cf53_0 rfl ?_
  refine pm_callVN (As := []) (rest := []) hN hG hR dJ0_indexOf_7cf53_1 (lpJ0_492 _ rfl) okV_J0_isLatin1_aae02 rfl (gj_isLatin1 (d := 1)) rfl rfl hdd (Nat.le_refl _) (Nat.le_refl _) (by decide) (pm_ki (fun v1 σ' cnt' hq => ?_))
  obtain ⟨rfl, rfl, rfl⟩ := hq
  refine pm_if_eq (tgt := 23) hG dJ0_indexOf_7cf53_4 rfl (fun q => absurd q (by decide)) (fun _ => ?_)
  refine pm_aloadn hG dJ0_indexOf_7cf53_7 rfl ?_
  refine pm_ngetV hN hG dJ0_indexOf_7cf53_8 (foJ0_9 _ rfl) ?_
  refine pm_iloadn hG dJ0_indexOf_7cf53_11 rfl ?_
  refine pm_iloadn hG dJ0_indexOf_7cf53_12 rfl ?_
  refine pm_aloadn hG dJ0_indexOf_7cf53_13 rfl ?_
  refine pm_callVN (As := []) (rest := [.int 0, .int x, .ref z]) hN hG hR dJ0_indexOf_7cf53_14 (lpJ0_505 _ rfl) okV_J0_length_8abf5 rfl (gj_length (d := 1) (by decide)) rfl rfl hdd (Nat.le_refl _) (Nat.le_refl _) (by first | decide | exact Nat.le_of_ble_eq_true rfl) (pm_ki (fun v2 σ' cnt' hq => ?_))
  obtain ⟨rfl, rfl, rfl⟩ := hq
  refine pm_callSN (As := [.ref z, .int x, .int 0, .int 11]) (rest := []) hN hG hR dJ0_indexOf_7cf53_17 (lpJ0_637 _ rfl) okS_J1_indexOf_4cfef (gj_iofL (d := 1) (by decide)) rfl rfl hdd (Nat.le_refl _) (Nat.le_refl _) (by decide) (pm_ki (fun v3 σ' cnt' hq => ?_))
  obtain ⟨rfl, rfl⟩ := hq
  refine pm_goto (tgt := 36) hG dJ0_indexOf_7cf53_20 rfl ?_
  exact pm_iret hG hF dJ0_indexOf_7cf53_36 rfl (Nat.le_refl _) (Nat.le_refl _) ⟨_, rfl, rfl, rfl⟩
set_option maxRecDepth 100000 in
theorem gj_iof {d B cnt q z : Nat} {σ : pm_S} {x : Int32} (hdd : 3 ≤ d) : pm_metN q z mJ0_indexOf_0f7a4 d 0 0 B [.ref q, .int x] cnt σ (pm_Qi (fun _ σ' cnt' => σ' = σ ∧ cnt' = cnt)) := by
  refine pm_enterN 0 (by decide) (Nat.le_of_ble_eq_true rfl) rfl (fun G hG hR hF hN => ?_)
  refine pm_aloadn hG dJ0_indexOf_0f7a4_0 rfl ?_
  refine pm_iloadn hG dJ0_indexOf_0f7a4_1 rfl ?_
  refine pm_iconst (v := 0) hG dJ0_indexOf_0f7a4_2 (by decide) ?_
  refine pm_callVN (As := [.int x, .int 0]) (rest := []) hN hG hR dJ0_indexOf_0f7a4_3 (lpJ0_633 _ rfl) okV_J0_indexOf_7cf53 rfl (gj_iof2 (d := 2) (by decide)) rfl rfl hdd (Nat.le_refl _) (Nat.le_refl _) (by decide) (pm_ki (fun v1 σ' cnt' hq => ?_))
  obtain ⟨rfl, rfl⟩ := hq
  exact pm_iret hG hF dJ0_indexOf_0f7a4_6 rfl (Nat.le_refl _) (Nat.le_refl _) ⟨_, rfl, rfl, rfl⟩
