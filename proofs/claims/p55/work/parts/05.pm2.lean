/-! ===== pm: fields, arrays, new things, calls, ends ===== -/
def pm_fl (M : pm_M) (i ci k : Nat) : Prop := ∃ (C : String) (T : u_T) (N : Nat), pm_cl[ci]? = some (C, T, N) ∧ k < N ∧ (Cond.fieldLink M.1.cls i (T k).1 (T k).2.1 (T k).2.2.1 ∈ pm_tbl ∨ ∃ host : String, Cond.fieldLinkNest M.1.cls i (T k).1 (T k).2.1 (T k).2.2.1 host ∈ pm_nest)
def pm_flw (M : pm_M) (i ci k : Nat) (ty : FieldType) : Prop := ∃ (C : String) (T : u_T) (N : Nat), pm_cl[ci]? = some (C, T, N) ∧ k < N ∧ Cond.fieldLink M.1.cls i (T k).1 (T k).2.1 (T k).2.2.1 ∈ pm_tbl ∧ (T k).2.2.2 = false ∧ parseFieldDescriptor (T k).2.2.1 = some ty
def pm_flf (M : pm_M) (i ci k : Nat) (ty : FieldType) : Prop := ∃ (C : String) (T : u_T) (N : Nat), pm_cl[ci]? = some (C, T, N) ∧ k < N ∧ Cond.fieldLink M.1.cls i (T k).1 (T k).2.1 (T k).2.2.1 ∈ pm_tbl ∧ (T k).2.2.2 = true ∧ parseFieldDescriptor (T k).2.2.1 = some ty ∧ M.1.name = "<init>" ∧ (T k).1 = M.1.cls
def pm_room (d mc ms : Nat) : Room := { frames := d, cells := mc, slots := ms, locals := 40 * d }
def pm_Q (D : va_G) (cI : ClassId) (B : Nat) (Q : Option Value → pm_S → Nat → Prop) : Array Value → State → Outcome → State → Prop := fun _ st o t => ∃ (r : Option Value) (σ' : pm_S) (cnt' : Nat), o = .returned r ∧ Q r σ' cnt' ∧ pm_H D cI B σ' cnt' t.heap ∧ ∀ q : Nat, q < B → t.heap[q]? = st.heap[q]?
def pm_met (M : pm_M) (d mc ms B : Nat) (av : List Value) (cnt : Nat) (σ : pm_S) (Q : Option Value → pm_S → Nat → Prop) : Prop :=
  ∀ (l : Launch) (D : va_G) (cI : ClassId), Met l M.1 (pm_ws M) (pm_room d mc ms) (va_Pc av (fun U => (pm_env D cI U ∧ pm_ow B U) ∧ pm_H D cI B σ cnt U.heap)) (pm_Q D cI B Q) mc ms (fun q => B ≤ q)
def pm_rm (G : pm_G) (d mc ms : Nat) : Prop := d ≤ (pm_R G).frames ∧ 40 * d ≤ (pm_R G).locals ∧ mc ≤ (pm_R G).cells ∧ ms ≤ (pm_R G).slots
def pm_fin (G : pm_G) (B mc ms : Nat) (Q : Option Value → pm_S → Nat → Prop) : Prop := G.2.2 = MQ (pm_b G) (pm_Q G.2.1.1 G.2.1.2 B Q) (pm_a G) (pm_s G) mc ms (fun q => B ≤ q)
theorem pm_blind {D : va_G} {cI : ClassId} {B cnt : Nat} {σ : pm_S} {av : List Value} : FrameBlind (va_Pc av (fun U => (pm_env D cI U ∧ pm_ow B U) ∧ pm_H D cI B σ cnt U.heap)) := by
  intro a U g mk h
  obtain ⟨h1, h2, h3⟩ := h
  exact ⟨h1, ⟨h2.1.moved (U := U.calling g mk a) (State.WarmedH.refl U), h2.2.moved (U := U.calling g mk a) (State.WarmedH.refl U) (fun _ _ => rfl)⟩, h3⟩
/-- what holds of a method: instance (0), static (1), constructor (2) -/
def pm_mok (M : pm_M) (n : Nat) : Prop := (Cond.code M.1 M.2.1 M.2.2.1 M.2.2.2 ∈ pm_tbl ∧ Cond.initialized M.1.cls ∈ pm_tbl) ∧ (M.1.cls ≠ "java/lang/invoke/MethodHandle" ∧ M.1.cls ≠ "java/lang/invoke/VarHandle" ∧ (parseMethodDescriptor M.1.desc).map (fun d => d.parameters.length) = some n) ∧ M.2.2.1 + 19 ≤ 40
def pm_mokV (M : pm_M) (n : Nat) : Prop := pm_mok M n ∧ Cond.instanceMethod M.1 ∈ pm_tbl ∧ Cond.selects M.1.cls M.1 M.1 ∈ pm_tbl
def pm_mokS (M : pm_M) (n : Nat) : Prop := pm_mok M n ∧ Cond.static M.1 ∈ pm_tbl
def pm_mokI (M : pm_M) (n : Nat) : Prop := pm_mok M n ∧ M.1.name = "<init>" ∧ Cond.instanceMethod M.1 ∈ pm_tbl ∧ M.2.2.2 = none
/-- the link of a call: plain or of a nest mate -/
def pm_lk (M : pm_M) (i : Nat) (M2 : pm_M) : Prop := Cond.methodLink M.1.cls i M2.1 ∈ pm_tbl ∨ ∃ host : String, Cond.methodLinkNest M.1.cls i M2.1 host ∈ pm_nest
section PM4
variable {M : pm_M} {G : pm_G} {B pc pc' : Nat} {loc : List (Option Value)} {st : List Value} {cs zs cnt : Nat} {σ : pm_S}
theorem pm_getf {a ci k i : Nat} {fs : List Value} {v : Value} (hG : pm_ok M G B) (hd : pm_dec M pc (.getfield i, 3) pc') (hf : pm_fl M i ci k) (ha : σ a = some (.inr (ci, fs))) (hv : fs[k]? = some v) (kk : pm_wp M G B pc' loc (v :: st) cs zs cnt σ) : pm_wp M G B pc loc (.ref (B + a) :: st) cs zs cnt σ := by
  obtain ⟨hd, rfl⟩ := hd
  obtain ⟨C, T, N, hc, hk, hl⟩ := hf
  intro H ls locs h1 h2 h3 h4
  obtain ⟨r, g1, g2, g3⟩ := h1.2 a _ ha
  have hP : va_P G.2.1.1 pm_cl [(B + a, .inr (ci, fs))] H := by
    intro j q hq
    cases j with
    | zero => cases hq; exact ⟨r, g1, g3⟩
    | succ j => simp at hq
  rcases hl with hl | ⟨host, hl⟩
  · exact va_get (ci := ci) (v := v) (C := C) (T := T) (N := N) hG.x hG.b hG.ts (pm_clok ci C T N hc).1 hG.own hG.env.1 hP 0 rfl hc k hk (hG.ts _ hl) (fun _ h => h) hv hd (kk H ls locs h1 h2 h3 h4)
  · exact va_getN (ci := ci) (v := v) (C := C) (T := T) (N := N) hG.x hG.b hG.ts (pm_clok ci C T N hc).1 hG.own hG.env.1 hP 0 rfl hc k hk (va_Nw.use rfl (hG.env.2 _ hl)) (fun _ h => h) hv hd (kk H ls locs h1 h2 h3 h4)
theorem pm_putf {a ci k i : Nat} {fs : List Value} {v : Value} {ty : FieldType} (hG : pm_ok M G B) (hd : pm_dec M pc (.putfield i, 3) pc') (hf : pm_flw M i ci k ty) (ha : σ a = some (.inr (ci, fs))) (hn : narrow ty v = v) (hfit : fits ty v = true) (kk : pm_wp M G B pc' loc st cs zs cnt (pm_up σ a (.inr (ci, fs.set k v)))) : pm_wp M G B pc loc (v :: .ref (B + a) :: st) cs zs cnt σ := by
  obtain ⟨hd, rfl⟩ := hd
  obtain ⟨C, T, N, hc, hk, hl, hfin, hdd⟩ := hf
  intro H ls locs h1 h2 h3 h4
  have cok := pm_clok ci C T N hc
  obtain ⟨ty0, hty⟩ := cok.2.1
  have hap := va_apart (own := M.1.cls) hG.ts cok.1 ty0 hty cok.2.2 hG.env.1 hc
  obtain ⟨r, g1, g2, cell, q1, q2, q3, q4⟩ := h1.2 a _ ha
  have hr : r = (C, T, N) := Option.some.inj (g1.symm.trans hc)
  subst hr
  obtain ⟨hS, hfc, kC, hkC, hkind⟩ := hG.env.1.1 ci _ hc
  obtain ⟨cf, kf, fi, f, hi, hsl⟩ := hS k hk
  have hlay := hG.ts _ (cok.1 _ (u_in_lay hk))
  unfold u_lay at hlay
  rw [if_neg (by rw [hfin]; decide)] at hlay
  have hst := (u_facts hfc hkC (u_lays hG.ts cok.1 hk) hi).1
  have h6 := u_store hfc hkC hkind hlay hi hdd hn hfit
  refine W.putK hG.x hG.b (f := f) ⟨hG.own, hG.ts _ hl, ⟨_, _, _, hi⟩, hst⟩ (by rw [q2]; exact h6) q1 q3 (by rw [hsl]; exact k2_hasslot (q4 k hk)) rfl rfl hd fun H' e1 e2 e3 => ?_
  rw [hsl] at e1 ⊢
  refine kk H' ls _ (h1.put (x := .inr (ci, fs.set k v)) ⟨(C, T, N), hc, by rw [List.length_set]; exact g2, t_OB.to (V := updV (vp_V fs) k v) ⟨_, e1, q2, q3, t_set q4 hap hk v⟩ (fun j _ => vp_updV_set (by rw [g2]; exact hk) v j)⟩ e2 e3) (fun q hq => (e3 q (Nat.ne_of_lt (Nat.lt_of_lt_of_le hq (Nat.le_add_right B a)))).trans (h2 q hq)) h3 (fun q hq => ?_)
  rcases List.mem_append.mp hq with hq | hq
  · exact h4 q hq
  · rw [List.mem_singleton.mp hq]; exact Nat.le_add_right B a
theorem pm_putF {a ci k i : Nat} {fs : List Value} {v : Value} {ty : FieldType} (hG : pm_ok M G B) (hd : pm_dec M pc (.putfield i, 3) pc') (hf : pm_flf M i ci k ty) (ha : σ a = some (.inr (ci, fs))) (hn : narrow ty v = v) (hfit : fits ty v = true) (kk : pm_wp M G B pc' loc st cs zs cnt (pm_up σ a (.inr (ci, fs.set k v)))) : pm_wp M G B pc loc (v :: .ref (B + a) :: st) cs zs cnt σ := by
  obtain ⟨hd, rfl⟩ := hd
  obtain ⟨C, T, N, hc, hk, hl, hfin, hdd, hini, hdecl⟩ := hf
  intro H ls locs h1 h2 h3 h4
  have cok := pm_clok ci C T N hc
  obtain ⟨ty0, hty⟩ := cok.2.1
  have hap := va_apart (own := M.1.cls) hG.ts cok.1 ty0 hty cok.2.2 hG.env.1 hc
  obtain ⟨r, g1, g2, cell, q1, q2, q3, q4⟩ := h1.2 a _ ha
  have hr : r = (C, T, N) := Option.some.inj (g1.symm.trans hc)
  subst hr
  obtain ⟨hS, hfc, kC, hkC, hkind⟩ := hG.env.1.1 ci _ hc
  obtain ⟨cf, kf, fi, f, hi, hsl⟩ := hS k hk
  have hlay := hG.ts _ (cok.1 _ (u_in_lay hk))
  unfold u_lay at hlay
  rw [if_pos hfin] at hlay
  have hst := (u_facts hfc hkC (u_lays hG.ts cok.1 hk) hi).1
  have hown := hG.own
  have hcf : (pm_m G).cls = cf := by
    obtain ⟨_, _, c', _, _, _, -, -, hf', -, -, -, hown2, -⟩ := Cond.laysFinal_spec hlay
    have e1 : c' = cf := by have := hi.symm.trans hf'; simp at this; exact this.1.symm
    rw [hdecl] at hown2
    rw [← e1]; exact Option.some.inj (hown.symm.trans hown2)
  have h6 := u_fits hfc hkC hkind (Or.inr hlay) hi hdd hn hfit
  have hnm : (pm_t G).name = "<init>" := hG.2.2.2.2.2.2.trans hini
  refine W.putFinK hG.x hG.b hG.own (hG.ts _ hl) hi hst hcf hnm (by rw [q2]; exact h6) q1 q3 (by rw [hsl]; exact k2_hasslot (q4 k hk)) rfl rfl hd fun H' e1 e2 e3 => ?_
  rw [hsl] at e1 ⊢
  refine kk H' ls _ (h1.put (x := .inr (ci, fs.set k v)) ⟨(C, T, N), hc, by rw [List.length_set]; exact g2, t_OB.to (V := updV (vp_V fs) k v) ⟨_, e1, q2, q3, t_set q4 hap hk v⟩ (fun j _ => vp_updV_set (by rw [g2]; exact hk) v j)⟩ e2 e3) (fun q hq => (e3 q (Nat.ne_of_lt (Nat.lt_of_lt_of_le hq (Nat.le_add_right B a)))).trans (h2 q hq)) h3 (fun q hq => ?_)
  rcases List.mem_append.mp hq with hq | hq
  · exact h4 q hq
  · rw [List.mem_singleton.mp hq]; exact Nat.le_add_right B a
theorem pm_iald {a n : Nat} {f : Nat → Int32} {i : Int32} (hG : pm_ok M G B) (hd : pm_dec M pc (.iaload, 1) pc') (ha : σ a = some (.inl (n, f))) (hi : vp_in i n) (kk : pm_wp M G B pc' loc (.int (f i.toNatClampNeg) :: st) cs zs cnt σ) : pm_wp M G B pc loc (.int i :: .ref (B + a) :: st) cs zs cnt σ := by
  obtain ⟨hd, rfl⟩ := hd
  intro H ls locs h1 h2 h3 h4
  have hP : va_P G.2.1.1 pm_cl [(B + a, .inl (G.2.1.2, n, .inl f))] H := by
    intro j q hq
    cases j with
    | zero => cases hq; exact h1.2 a _ ha
    | succ j => simp at hq
  exact va_iald hG.x hG.b hG.env.1 hP 0 0 rfl rfl hi hd (kk H ls locs h1 h2 h3 h4)
theorem pm_alen {a n : Nat} {f : Nat → Int32} {v : Int32} (hG : pm_ok M G B) (hd : pm_dec M pc (.arraylength, 1) pc') (ha : σ a = some (.inl (n, f))) (hv : Int32.ofNat n = v) (kk : pm_wp M G B pc' loc (.int v :: st) cs zs cnt σ) : pm_wp M G B pc loc (.ref (B + a) :: st) cs zs cnt σ := by
  obtain ⟨hd, rfl⟩ := hd
  intro H ls locs h1 h2 h3 h4
  have hP : va_P G.2.1.1 pm_cl [(B + a, .inl (G.2.1.2, n, .inl f))] H := by
    intro j q hq
    cases j with
    | zero => cases hq; exact h1.2 a _ ha
    | succ j => simp at hq
  exact va_alen hG.x hG.b hG.env.1 hP 0 0 rfl (ty := .int) rfl hv hd (kk H ls locs h1 h2 h3 h4)
theorem pm_iast {a n : Nat} {f : Nat → Int32} {i x : Int32} (hG : pm_ok M G B) (hd : pm_dec M pc (.iastore, 1) pc') (ha : σ a = some (.inl (n, f))) (hi : vp_in i n) (kk : pm_wp M G B pc' loc st cs zs cnt (pm_up σ a (.inl (n, upd f i.toNatClampNeg x)))) : pm_wp M G B pc loc (.int x :: .int i :: .ref (B + a) :: st) cs zs cnt σ := by
  obtain ⟨hd, rfl⟩ := hd
  intro H ls locs h1 h2 h3 h4
  refine W.iast hG.x hG.b (h1.2 a _ ha) ((hG.env.1.2 0 _ rfl).1 n (fun j => .int (f j))) (fun q => by cases q) (by show ¬ (i < 0 ∨ (arrV _ _ _).slots.size ≤ _); rw [arrV_size]; exact hi) rfl rfl hd fun H1 e z oq => ?_
  refine kk H1 ls _ (h1.put (x := .inl (n, upd f i.toNatClampNeg x)) ?_ z oq) (fun q hq => (oq q (Nat.ne_of_lt (Nat.lt_of_lt_of_le hq (Nat.le_add_right B a)))).trans (h2 q hq)) h3 (fun q hq => ?_)
  · show H1[B + a]? = some (arrV _ _ _)
    rw [e, arrV_store]
    congr 2
    funext q
    by_cases hq : q = i.toNatClampNeg
    · subst hq
      simp [updV, upd]
    · simp [updV, upd, hq]
  · rcases List.mem_append.mp hq with hq | hq
    · exact h4 q hq
    · rw [List.mem_singleton.mp hq]; exact Nat.le_add_right B a
theorem pm_newi {n : Int32} {N d mc ms : Nat} (hG : pm_ok M G B) (hR : pm_rm G d mc ms) (hd : pm_dec M pc (.newarray .int, 2) pc') (hn : ¬ n < 0) (hN : n.toNatClampNeg = N) (hb : N * 4 ≤ 536870912) (hcs : cs + 1 ≤ mc) (hzs : zs + N ≤ ms)
    (kk : pm_wp M G B pc' loc (.ref (B + cnt) :: st) (cs + 1) (zs + N) (cnt + 1) (pm_up σ cnt (.inl (N, fun _ => 0)))) : pm_wp M G B pc loc (.int n :: st) cs zs cnt σ := by
  obtain ⟨hd, rfl⟩ := hd
  intro H ls locs h1 h2 h3 h4
  have harr : (Cond.arrayClass (newarray.typeOf ArrayType.int)).before (pm_a G) (pm_s G) = true := hG.ts _ pm_inA
  have hbb : N * componentBytes (newarray.typeOf ArrayType.int) ≤ 536870912 := hb
  refine va_newaK hG.x hG.b harr rfl hd rfl hn hN hbb (Nat.le_trans hcs hR.2.2.1) (Nat.le_trans hzs hR.2.2.2) h1.1 fun H1 cA e1 z1 o1 hAr hNm => ?_
  have hcI : cA = G.2.1.2 := by
    have h5 := (hG.env.1.2 0 _ rfl).2
    exact Option.some.inj (hNm.symm.trans h5)
  subst hcI
  refine kk H1 ls locs (h1.push ?_ z1 o1) (fun q hq => (o1 q (Nat.lt_of_lt_of_le hq (Nat.le_add_right B cnt))).trans (h2 q hq)) h3 h4
  exact e1
/-- the fields of a new object -/
def pm_nw (M : pm_M) (i ci : Nat) (fs : List Value) : Prop := ∃ (C : String) (T : u_T) (N : Nat) (ty : Nat → FieldType), pm_cl[ci]? = some (C, T, N) ∧ fs.length = N ∧ (∀ k, k < N → parseFieldDescriptor (T k).2.2.1 = some (ty k)) ∧ (∀ k, k < N → defaultValue (ty k) = vp_V fs k) ∧ Cond.classLink M.1.cls i C ∈ pm_tbl ∧ Cond.instantiable C N ∈ pm_tbl ∧ Cond.initialized C ∈ pm_tbl
theorem pm_new {i ci d mc ms : Nat} {fs : List Value} (hG : pm_ok M G B) (hR : pm_rm G d mc ms) (hd : pm_dec M pc (.new i, 3) pc') (hw : pm_nw M i ci fs) (hcs : cs + 1 ≤ mc) (hzs : zs + fs.length ≤ ms)
    (kk : pm_wp M G B pc' loc (.ref (B + cnt) :: st) (cs + 1) (zs + fs.length) (cnt + 1) (pm_up σ cnt (.inr (ci, fs)))) : pm_wp M G B pc loc st cs zs cnt σ := by
  obtain ⟨hd, rfl⟩ := hd
  obtain ⟨C, T, N, ty, hc, hl, hty, hdv, w1, w2, w3⟩ := hw
  subst hl
  intro H ls locs h1 h2 h3 h4
  have hKn := hG.env.1.1 ci _ hc
  have cok := pm_clok ci C T fs.length hc
  refine W.newcK hG.x hG.b hG.own (hG.ts _ w1) (hG.ts _ w2) (hG.ts _ w3) rfl hd (Nat.le_trans hcs hR.2.2.1) (Nat.le_trans hzs hR.2.2.2) hKn.2.1 h1.1 fun H1 kC hkC e1 z1 o1 => ?_
  refine kk H1 ls locs (h1.push ?_ z1 o1) (fun q hq => (o1 q (Nat.lt_of_lt_of_le hq (Nat.le_add_right B cnt))).trans (h2 q hq)) h3 h4
  exact ⟨_, hc, rfl, (u_born ty hG.ts cok.1 hKn hkC e1 hty).to hdv⟩
-- ends
theorem pm_iret {v : Int32} {mc ms : Nat} {Q : Option Value → pm_S → Nat → Prop} (hG : pm_ok M G B) (hp : pm_fin G B mc ms Q) (hd : pm_dec M pc (.ireturn, 1) pc') (hret : M.2.2.2 = some .int) (hcs : cs ≤ mc) (hzs : zs ≤ ms) (hq : Q (some (.int v)) σ cnt) : pm_wp M G B pc loc [.int v] cs zs cnt σ := by
  intro H ls locs h1 h2 h3 h4
  unfold pm_Wg
  rw [hp]
  refine W.widen hcs hzs (W.iret hG.x hG.b (hG.2.2.2.2.2.1.trans hret) (fun t ht hW => ⟨_, σ, cnt, rfl, hq, by rw [ht]; exact h1, fun q hq => by rw [ht]; exact h2 q hq⟩) h4 hd.1 hG.2.2.2.2.1)
theorem pm_zret {v : Int32} {mc ms : Nat} {Q : Option Value → pm_S → Nat → Prop} (hG : pm_ok M G B) (hp : pm_fin G B mc ms Q) (hd : pm_dec M pc (.ireturn, 1) pc') (hret : M.2.2.2 = some .boolean) (hv : narrow .boolean (.int v) = .int v) (hcs : cs ≤ mc) (hzs : zs ≤ ms) (hq : Q (some (.int v)) σ cnt) : pm_wp M G B pc loc [.int v] cs zs cnt σ := by
  intro H ls locs h1 h2 h3 h4
  unfold pm_Wg
  rw [hp]
  refine W.widen hcs hzs (W.zret hG.x hG.b (hG.2.2.2.2.2.1.trans hret) hv (fun t ht hW => ⟨_, σ, cnt, rfl, hq, by rw [ht]; exact h1, fun q hq => by rw [ht]; exact h2 q hq⟩) h4 hd.1 hG.2.2.2.2.1)
theorem pm_vret {mc ms : Nat} {Q : Option Value → pm_S → Nat → Prop} (hG : pm_ok M G B) (hp : pm_fin G B mc ms Q) (hd : pm_dec M pc (.return_, 1) pc') (hret : M.2.2.2 = none) (hcs : cs ≤ mc) (hzs : zs ≤ ms) (hq : Q none σ cnt) : pm_wp M G B pc loc [] cs zs cnt σ := by
  intro H ls locs h1 h2 h3 h4
  unfold pm_Wg
  rw [hp]
  refine W.widen hcs hzs (W.vret hG.x hG.b (hG.2.2.2.2.2.1.trans hret) (fun t ht hW => ⟨_, σ, cnt, rfl, hq, by rw [ht]; exact h1, fun q hq => by rw [ht]; exact h2 q hq⟩) h4 hd.1 hG.2.2.2.2.1)
-- the start of a body
def pm_args : List Value → List (Option Value)
  | [] => []
  | v :: vs => if v.category = 2 then some v :: none :: pm_args vs else some v :: pm_args vs
theorem pm_args_lv : ∀ (vs : List Value) (n k : Nat), pm_lv n (pm_args vs ++ List.replicate k none) = lv_args n vs
  | [], n, 0 => rfl
  | [], n, k + 1 => by
    show pm_lv (n + 1) (List.replicate k none) = []
    exact pm_args_lv [] (n + 1) k
  | v :: vs, n, k => by
    unfold pm_args lv_args
    by_cases h : v.category = 2
    · simp only [if_pos h, List.cons_append, pm_lv]
      rw [pm_args_lv vs (n + 2) k]
    · simp only [if_neg h, List.cons_append, pm_lv]
      rw [pm_args_lv vs (n + 1) k]
theorem pm_enter {d mc ms : Nat} {av : List Value} {Q : Option Value → pm_S → Nat → Prop} (k : Nat) (hpl : plainName M.1.cls = true) (hlen : (lg_sl av).length ≤ M.2.2.1) (hloc : pm_args av ++ List.replicate k none = loc)
    (body : ∀ G : pm_G, pm_ok M G B → pm_rm G d mc ms → pm_fin G B mc ms Q → pm_wp M G B 0 loc [] 0 0 cnt σ) : pm_met M d mc ms B av cnt σ Q := by
  intro l D cI
  refine Met.ofW (cc := M.2.1) (maxL := M.2.2.1) (ret := M.2.2.2) hpl rfl ?_
  intro p e s m args below meth c s₁ Bd hml hv
  obtain ⟨rfl, ⟨henv, how⟩, hH⟩ := hv
  have hts := atoms_spec (ws := pm_ws M) Bd.pre
  have hG : pm_ok M ((p, l, e, pm_room d mc ms, s, m, av.toArray, below, meth, c), (D, cI), MQ below (pm_Q D cI B Q) av.toArray s mc ms (fun q => B ≤ q)) B :=
    ⟨⟨Bd.exec, Bd.bytes, hml, findClass_of_methodNamed Bd.named, how⟩, fun w hw => hts w (List.mem_cons_of_mem _ hw), henv, by show B ≤ s.heap.size; rw [hH.1]; exact Nat.le_add_right _ _, Bd.notSynchronized, Bd.returns, (name_of_methodNamed Bd.named Bd.method).1⟩
  have h := body _ hG ⟨Nat.le_refl _, Nat.le_refl _, Nat.le_refl _, Nat.le_refl _⟩ rfl
  rw [lg_entry_eq]
  have hl := lv_entry av (n := M.2.2.1) hlen
  refine h s.heap _ [] hH (fun q _ => rfl) ?_ (fun q hq => by cases hq)
  unfold pm_L
  rw [← hloc, pm_args_lv]
  exact hl
-- calls
theorem pm_run {mc2 ms2 : Nat} {av rest : List Value} {Q2 : Option Value → pm_S → Nat → Prop} {H : Heap} {ls : Array Slot} {locs : List Loc} {st0 : List Value}
    (h2 : ∀ q : Nat, q < B → H[q]? = (pm_s G).heap[q]?) (h3 : pm_L ls M.2.2.1 loc) (h4 : ∀ q ∈ locs, B ≤ q.base)
    (hr : va_Run G.1.1 G.1.2.1 G.1.2.2.1 (pm_R G) (pm_s G) (pm_m G) (pm_a G) (pm_b G) (pm_t G) (pm_c G) H locs cs zs mc2 ms2 (F0 (pm_m G) pc ls st0) rest (pm_Q G.2.1.1 G.2.1.2 B Q2 av.toArray) (fun q => B ≤ q))
    (kk : ∀ (r : Option Value) (σ' : pm_S) (cnt' : Nat), Q2 r σ' cnt' → pm_wp M G B (pc + 3) loc (r.toList ++ rest) (cs + mc2) (zs + ms2) cnt' σ') : pm_Wg G H locs cs zs (F0 (pm_m G) pc ls st0) := by
  intro T hT X
  obtain ⟨v, st₀, t, T', L, e0, X', hL, e1, e2, ⟨r, σ', cnt', hv, hq, hH, hfr⟩, go⟩ := hr T hT X
  cases hv
  obtain ⟨t2, a1, b1⟩ := kk v σ' cnt' hq T'.heap ls (locs ++ L) (by rw [e1]; exact hH) (fun q hq => by rw [e1, hfr q hq, e0]; exact h2 q hq) h3 (fun q hq => by
    rcases List.mem_append.mp hq with hq | hq
    · exact h4 q hq
    · exact hL q hq) T' rfl X'
  exact ⟨t2, go t2 a1, b1⟩
theorem pm_cb {M2 : pm_M} {n i d d2 mc2 ms2 mc ms : Nat} (hG : pm_ok M G B) (hR : pm_rm G d mc ms) (hm : pm_mok M2 n) (hl : Cond.methodLink M.1.cls i M2.1 ∈ pm_tbl) (hd2 : d2 + 1 ≤ d) :
    CallB (pm_R G) (pm_s G) (pm_a G) M.1.cls i M2.1 M2.2.1 M2.2.2.1 M2.2.2.2 (pm_ws M2) (pm_room d2 mc2 ms2) mc2 ms2 n :=
  callB_of (ws' := pm_tbl) n hG.ts (pm_good hm.1.1) rfl rfl rfl (hG.ts _ hm.1.2) (hG.ts _ hl) hm.2.1 ⟨Nat.le_trans hd2 hR.1, by
    have h1 := hm.2.2
    have h2 := hR.2.1
    show 8 + (M2.2.2.1 + 11) + 40 * d2 ≤ (pm_R G).locals
    omega⟩
theorem pm_cn {M2 : pm_M} {n i d d2 mc2 ms2 mc ms : Nat} {host : String} (hG : pm_ok M G B) (hR : pm_rm G d mc ms) (hm : pm_mok M2 n) (hl : Cond.methodLinkNest M.1.cls i M2.1 host ∈ pm_nest) (hd2 : d2 + 1 ≤ d) :
    va_CN (pm_R G) (pm_s G) (pm_a G) M.1.cls i M2.1 host M2.2.1 M2.2.2.1 M2.2.2.2 (pm_ws M2) (pm_room d2 mc2 ms2) mc2 ms2 n :=
  va_cnB (ws' := pm_tbl) n hG.ts (pm_good hm.1.1) rfl rfl rfl (hG.env.2 _ hl) (hG.ts _ hm.1.2) hm.2.1 ⟨Nat.le_trans hd2 hR.1, by
    have h1 := hm.2.2
    have h2 := hR.2.1
    show 8 + (M2.2.2.1 + 11) + 40 * d2 ≤ (pm_R G).locals
    omega⟩
theorem pm_callV {M2 : pm_M} {i n d d2 mc mc2 ms ms2 k ci : Nat} {fs As rest : List Value} {Q2 : Option Value → pm_S → Nat → Prop} (hG : pm_ok M G B) (hR : pm_rm G d mc ms) (hd : pm_dec M pc (.invokevirtual i, 3) pc') (hl : pm_lk M i M2) (hm : pm_mokV M2 n) (hk : σ k = some (.inr (ci, fs))) (hc : (pm_cl[ci]?).map (·.1) = some M2.1.cls)
    (hM : pm_met M2 d2 mc2 ms2 B (.ref (B + k) :: As) cnt σ Q2) (hst : st = As.reverse ++ .ref (B + k) :: rest) (hn : As.length = n) (hd2 : d2 + 1 ≤ d) (hcs : cs + mc2 ≤ mc) (hzs : zs + ms2 ≤ ms) (hw : (rest.map fun v => v.category).sum ≤ 8)
    (kk : ∀ (r : Option Value) (σ' : pm_S) (cnt' : Nat), Q2 r σ' cnt' → pm_wp M G B pc' loc (r.toList ++ rest) (cs + mc2) (zs + ms2) cnt' σ') : pm_wp M G B pc loc st cs zs cnt σ := by
  obtain ⟨hd, rfl⟩ := hd
  subst hst
  intro H ls locs h1 h2 h3 h4
  have hp : PreV (pm_s G) H M2.1.cls (B + k) (va_Pc (.ref (B + k) :: As) (fun U => (pm_env G.2.1.1 G.2.1.2 U ∧ pm_ow B U) ∧ pm_H G.2.1.1 G.2.1.2 B σ cnt U.heap)) As := by
    refine ⟨pm_blind, ?_, fun U hU hW => ⟨rfl, ⟨hG.env.moved hW, hG.ow.moved hW (fun q hq => by rw [hU]; exact h2 q hq)⟩, by rw [hU]; exact h1⟩⟩
    obtain ⟨r, g1, g2, cell, q1, q2, q3, q4⟩ := h1.2 k _ hk
    refine ⟨cell, q1, by rw [q3]; rfl, ?_⟩
    have h5 : r.1 = M2.1.cls := by rw [g1] at hc; exact Option.some.inj hc
    rw [← h5, q2]
    exact (hG.env.1.1 ci r g1).2.1
  refine pm_run (av := .ref (B + k) :: As) h2 h3 h4 ?_ kk
  rcases hl with hl | ⟨host, hl⟩
  · exact va_runV (As := As) (rest := rest) ⟨hG.x, hG.b, hG.ml, hG.own, hG.ts⟩ (hM _ _ _) ⟨pm_cb hG hR hm.1 hl hd2, hG.ts _ hm.2.1, hG.ts _ hm.2.2⟩ hp rfl hn h3.1 rfl (lv_room hw) hd ⟨Nat.le_trans hcs hR.2.2.1, Nat.le_trans hzs hR.2.2.2⟩
  · exact va_runVN (As := As) (rest := rest) ⟨hG.x, hG.b, hG.ml, hG.own, hG.ts⟩ (hM _ _ _) ⟨pm_cn hG hR hm.1 hl hd2, hG.ts _ hm.2.1, hG.ts _ hm.2.2⟩ hp rfl hn h3.1 rfl (lv_room hw) hd ⟨Nat.le_trans hcs hR.2.2.1, Nat.le_trans hzs hR.2.2.2⟩
theorem pm_callS {M2 : pm_M} {i n d d2 mc mc2 ms ms2 : Nat} {As rest : List Value} {Q2 : Option Value → pm_S → Nat → Prop} (hG : pm_ok M G B) (hR : pm_rm G d mc ms) (hd : pm_dec M pc (.invokestatic i, 3) pc') (hl : pm_lk M i M2) (hm : pm_mokS M2 n)
    (hM : pm_met M2 d2 mc2 ms2 B As cnt σ Q2) (hst : st = As.reverse ++ rest) (hn : As.length = n) (hd2 : d2 + 1 ≤ d) (hcs : cs + mc2 ≤ mc) (hzs : zs + ms2 ≤ ms) (hw : (rest.map fun v => v.category).sum ≤ 8)
    (kk : ∀ (r : Option Value) (σ' : pm_S) (cnt' : Nat), Q2 r σ' cnt' → pm_wp M G B pc' loc (r.toList ++ rest) (cs + mc2) (zs + ms2) cnt' σ') : pm_wp M G B pc loc st cs zs cnt σ := by
  obtain ⟨hd, rfl⟩ := hd
  subst hst
  intro H ls locs h1 h2 h3 h4
  have hp : PreS (pm_s G) H (va_Pc As (fun U => (pm_env G.2.1.1 G.2.1.2 U ∧ pm_ow B U) ∧ pm_H G.2.1.1 G.2.1.2 B σ cnt U.heap)) As := ⟨pm_blind, fun U hU hW => ⟨rfl, ⟨hG.env.moved hW, hG.ow.moved hW (fun q hq => by rw [hU]; exact h2 q hq)⟩, by rw [hU]; exact h1⟩⟩
  refine pm_run (av := As) h2 h3 h4 ?_ kk
  rcases hl with hl | ⟨host, hl⟩
  · exact va_runS (As := As) (rest := rest) ⟨hG.x, hG.b, hG.ml, hG.own, hG.ts⟩ (hM _ _ _) ⟨pm_cb hG hR hm.1 hl hd2, hG.ts _ hm.2⟩ hp rfl hn h3.1 rfl (lv_room hw) hd ⟨Nat.le_trans hcs hR.2.2.1, Nat.le_trans hzs hR.2.2.2⟩
  · exact va_runSN (As := As) (rest := rest) ⟨hG.x, hG.b, hG.ml, hG.own, hG.ts⟩ (hM _ _ _) ⟨pm_cn hG hR hm.1 hl hd2, hG.ts _ hm.2, trivial⟩ hp rfl hn h3.1 rfl (lv_room hw) hd ⟨Nat.le_trans hcs hR.2.2.1, Nat.le_trans hzs hR.2.2.2⟩
theorem pm_callI {M2 : pm_M} {i n d d2 mc mc2 ms ms2 b : Nat} {As rest : List Value} {Q2 : Option Value → pm_S → Nat → Prop} (hG : pm_ok M G B) (hR : pm_rm G d mc ms) (hd : pm_dec M pc (.invokespecial i, 3) pc') (hl : pm_lk M i M2) (hm : pm_mokI M2 n)
    (hM : pm_met M2 d2 mc2 ms2 B (.ref b :: As) cnt σ Q2) (hst : st = As.reverse ++ .ref b :: rest) (hn : As.length = n) (hd2 : d2 + 1 ≤ d) (hcs : cs + mc2 ≤ mc) (hzs : zs + ms2 ≤ ms) (hw : (rest.map fun v => v.category).sum ≤ 8)
    (kk : ∀ (r : Option Value) (σ' : pm_S) (cnt' : Nat), Q2 r σ' cnt' → pm_wp M G B pc' loc (r.toList ++ rest) (cs + mc2) (zs + ms2) cnt' σ') : pm_wp M G B pc loc st cs zs cnt σ := by
  obtain ⟨hd, rfl⟩ := hd
  subst hst
  intro H ls locs h1 h2 h3 h4
  have hp : PreS (pm_s G) H (va_Pc (.ref b :: As) (fun U => (pm_env G.2.1.1 G.2.1.2 U ∧ pm_ow B U) ∧ pm_H G.2.1.1 G.2.1.2 B σ cnt U.heap)) (.ref b :: As) := ⟨pm_blind, fun U hU hW => ⟨rfl, ⟨hG.env.moved hW, hG.ow.moved hW (fun q hq => by rw [hU]; exact h2 q hq)⟩, by rw [hU]; exact h1⟩⟩
  refine pm_run (av := .ref b :: As) h2 h3 h4 ?_ kk
  obtain ⟨hm1, hm2, hm3, hm4⟩ := hm
  rcases hl with hl | ⟨host, hl⟩
  · have h5 := pm_cb (mc2 := mc2) (ms2 := ms2) hG hR hm1 hl hd2
    rw [hm4] at h5
    exact va_runI (As := As) (rest := rest) ⟨hG.x, hG.b, hG.ml, hG.own, hG.ts⟩ (hM _ _ _) ⟨h5, hm2, hG.ts _ hm3⟩ hp rfl hn h3.1 rfl (lv_room hw) hd ⟨Nat.le_trans hcs hR.2.2.1, Nat.le_trans hzs hR.2.2.2⟩
  · have h5 := pm_cn (mc2 := mc2) (ms2 := ms2) hG hR hm1 hl hd2
    rw [hm4] at h5
    exact va_runIN (As := As) (rest := rest) ⟨hG.x, hG.b, hG.ml, hG.own, hG.ts⟩ (hM _ _ _) ⟨h5, hm2, hG.ts _ hm3⟩ hp rfl hn h3.1 rfl (lv_room hw) hd ⟨Nat.le_trans hcs hR.2.2.1, Nat.le_trans hzs hR.2.2.2⟩
theorem pm_objInit {i d mc ms a : Nat} (hG : pm_ok M G B) (hR : pm_rm G d mc ms) (hd : pm_dec M pc (.invokespecial i, 3) pc') (hl : Cond.methodLink M.1.cls i Lib.objectInit ∈ pm_tbl) (h0 : Cond.instanceMethod Lib.objectInit ∈ pm_tbl ∧ Cond.code Lib.objectInit ⟨#[0xb1]⟩ 1 none ∈ pm_tbl) (hd1 : 1 ≤ d) (hw : (st.map fun v => v.category).sum ≤ 8) (kk : pm_wp M G B pc' loc st cs zs cnt σ) : pm_wp M G B pc loc (.ref a :: st) cs zs cnt σ := by
  obtain ⟨hd, rfl⟩ := hd
  intro H ls locs h1 h2 h3 h4
  refine W.objInit hG.x hG.b hG.own (hG.ts _ hl) (hG.ts _ h0.1) (hG.ts _ h0.2) rfl (by rw [hG.ml]; exact h3.1) rfl hd (Nat.le_trans hd1 hR.1) ?_ (kk H ls locs h1 h2 h3 h4)
  have h5 := lv_room (m := pm_m G) (pc := pc) (ls := ls) (rest := .ref a :: st) hw
  have h6 := hR.2.1
  omega
-- results of a kind
def pm_Qi (P : Int32 → pm_S → Nat → Prop) : Option Value → pm_S → Nat → Prop := fun r σ' cnt' => ∃ v : Int32, r = some (.int v) ∧ P v σ' cnt'
def pm_Qv (P : pm_S → Nat → Prop) : Option Value → pm_S → Nat → Prop := fun r σ' cnt' => r = none ∧ P σ' cnt'
theorem pm_ki {P : Int32 → pm_S → Nat → Prop} {rest : List Value} (h : ∀ (v : Int32) (σ' : pm_S) (cnt' : Nat), P v σ' cnt' → pm_wp M G B pc' loc (.int v :: rest) cs zs cnt' σ') : ∀ (r : Option Value) (σ' : pm_S) (cnt' : Nat), pm_Qi P r σ' cnt' → pm_wp M G B pc' loc (r.toList ++ rest) cs zs cnt' σ' := by
  rintro r σ' cnt' ⟨v, rfl, hP⟩
  exact h v σ' cnt' hP
theorem pm_kv {P : pm_S → Nat → Prop} {rest : List Value} (h : ∀ (σ' : pm_S) (cnt' : Nat), P σ' cnt' → pm_wp M G B pc' loc rest cs zs cnt' σ') : ∀ (r : Option Value) (σ' : pm_S) (cnt' : Nat), pm_Qv P r σ' cnt' → pm_wp M G B pc' loc (r.toList ++ rest) cs zs cnt' σ' := by
  rintro r σ' cnt' ⟨rfl, hP⟩
  exact h σ' cnt' hP
end PM4
