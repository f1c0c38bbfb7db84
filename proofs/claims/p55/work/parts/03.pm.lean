/-! ===== pm: a pure store by relative addresses, and weakest preconditions over it ===== -/
abbrev pm_C : Type := (Nat × (Nat → Int32)) ⊕ (Nat × List Value)
abbrev pm_S : Type := Nat → Option pm_C
def pm_up (σ : pm_S) (k : Nat) (x : pm_C) : pm_S := fun j => if j = k then some x else σ j
theorem pm_up_same (σ : pm_S) (k : Nat) (x : pm_C) : pm_up σ k x k = some x := if_pos rfl
theorem pm_up_ne (σ : pm_S) {k j : Nat} (x : pm_C) (h : j ≠ k) : pm_up σ k x j = σ j := if_neg h
def pm_tbl : List Cond := lw_tbl.filter goodWord
def pm_isNest : Cond → Bool
  | .fieldLinkNest _ _ _ _ _ _ => true
  | .methodLinkNest _ _ _ _ => true
  | _ => false
def pm_nest : List Cond := lw_tbl.filter pm_isNest
def pm_ws (M : pm_M) : List Cond := .code M.1 M.2.1 M.2.2.1 M.2.2.2 :: pm_tbl
theorem pm_in {w : Cond} (i : Nat) (h : lw_tbl[i]? = some w) (hg : goodWord w = true) : w ∈ pm_tbl := List.mem_filter.mpr ⟨List.mem_of_getElem? h, hg⟩
theorem pm_inN {w : Cond} (i : Nat) (h : lw_tbl[i]? = some w) (hg : pm_isNest w = true) : w ∈ pm_nest := List.mem_filter.mpr ⟨List.mem_of_getElem? h, hg⟩
theorem pm_good {M : pm_M} (h : Cond.code M.1 M.2.1 M.2.2.1 M.2.2.2 ∈ pm_tbl) : GoodIn pm_tbl (pm_ws M) := by
  intro w hw
  rcases List.mem_cons.mp hw with rfl | hw
  · exact ⟨h, good_of_word (List.mem_filter.mp h).2⟩
  · exact ⟨hw, good_of_word (List.mem_filter.mp hw).2⟩
def pm_env (D : va_G) (cI : ClassId) (U : State) : Prop := va_K D pm_cl [(cI, .int)] U ∧ ∀ w ∈ pm_nest, va_Nw w U
theorem pm_env.moved {D : va_G} {cI : ClassId} {s U : State} (hW : s.WarmedH U.vm) (h : pm_env D cI s) : pm_env D cI U := by
  refine ⟨va_K.moved hW.alike h.1, fun w hw => ?_⟩
  have h1 := h.2 w hw
  have h2 := (List.mem_filter.mp hw).2
  cases w <;> first | exact va_Nw.warmF hW h1 | exact va_Nw.warmM hW h1 | (simp [pm_isNest] at h2)
def pm_ab : List Int32 := [-1, 0, 0, 1, 3, 0]
def pm_nb : List Int32 := [97, 115, 107, 99, 109, 116, 98, 121, 111, 119, 100]
/-- what lies below B: the static array ABOVE, COMPACT_STRINGS, the String constant of the NAMES -/
def pm_ow (B : Nat) (U : State) : Prop :=
  (∃ z : Nat, va_Z "SealCouncil" "ABOVE" "[I" (.ref z) (fun q => B ≤ q) U U.heap ∧ va_T .int z 6 (fun j => .int (pm_ab.getD j 0)) (fun q => B ≤ q) U U.heap) ∧ va_Z "java/lang/String" "COMPACT_STRINGS" "Z" (.int 1) (fun q => B ≤ q) U U.heap ∧ ∃ adK adV : Nat → Nat, vk_S 1 [11] [pm_nb] adK adV (fun q => B ≤ q) U U.heap ∧ vk_R "SealCouncil$Reader" 63 "askcmtbyowd" (adK 0) U
theorem pm_ow.moved {B : Nat} {s U : State} (hW : s.WarmedH U.vm) (hh : ∀ q : Nat, q < B → U.heap[q]? = s.heap[q]?) (h : pm_ow B s) : pm_ow B U := by
  obtain ⟨⟨z, h1, h2⟩, h3, adK, adV, h4, h5⟩ := h
  have hk : ∀ a : Nat, a < s.heap.size → ¬ (B ≤ a) → U.heap[a]? = s.heap[a]? := fun a _ ha => hh a (by omega)
  exact ⟨⟨z, (va_Z.moved hW.alike h1).kept hk, (va_T.moved hW.alike h2).kept hk⟩, (va_Z.moved hW.alike h3).kept hk, adK, adV, (vk_S.moved hW.alike h4).kept hk, h5.warm hW⟩
def pm_at (D : va_G) (cI : ClassId) (a : Nat) (x : pm_C) (H : Heap) : Prop := match x with
  | .inl q => H[a]? = some (arrV cI q.1 (fun j => .int (q.2 j)))
  | .inr q => ∃ r : vw_C, pm_cl[q.1]? = some r ∧ q.2.length = r.2.2 ∧ t_OB a (D.1 q.1) r.2.2 (D.2 q.1) H (vp_V q.2)
theorem pm_at.kept {D : va_G} {cI : ClassId} {a : Nat} {x : pm_C} {H H1 : Heap} (h : pm_at D cI a x H) (e : H1[a]? = H[a]?) : pm_at D cI a x H1 := by
  cases x with
  | inl q => exact e.trans h
  | inr q =>
    obtain ⟨r, h1, h2, h3⟩ := h
    exact ⟨r, h1, h2, h3.kept e⟩
theorem pm_at.lt {D : va_G} {cI : ClassId} {a : Nat} {x : pm_C} {H : Heap} (h : pm_at D cI a x H) : a < H.size := by
  cases x with
  | inl q => exact (Array.getElem?_eq_some_iff.mp h).1
  | inr q =>
    obtain ⟨r, h1, h2, cell, h3, -⟩ := h
    exact (Array.getElem?_eq_some_iff.mp h3).1
def pm_H (D : va_G) (cI : ClassId) (B : Nat) (σ : pm_S) (cnt : Nat) (H : Heap) : Prop := H.size = B + cnt ∧ ∀ (k : Nat) (x : pm_C), σ k = some x → pm_at D cI (B + k) x H
theorem pm_H.put {D : va_G} {cI : ClassId} {B : Nat} {σ : pm_S} {cnt : Nat} {H H1 : Heap} (h : pm_H D cI B σ cnt H) {k : Nat} {x : pm_C} (hx : pm_at D cI (B + k) x H1) (z : H1.size = H.size) (oq : ∀ q : Nat, q ≠ B + k → H1[q]? = H[q]?) : pm_H D cI B (pm_up σ k x) cnt H1 := by
  refine ⟨z.trans h.1, fun j y hj => ?_⟩
  by_cases e : j = k
  · subst e
    rw [pm_up_same] at hj
    cases hj
    exact hx
  · rw [pm_up_ne _ _ e] at hj
    exact (h.2 j y hj).kept (oq _ (by omega))
theorem pm_H.push {D : va_G} {cI : ClassId} {B : Nat} {σ : pm_S} {cnt : Nat} {H H1 : Heap} (h : pm_H D cI B σ cnt H) {x : pm_C} (hx : pm_at D cI (B + cnt) x H1) (z : H1.size = B + cnt + 1) (oq : ∀ q : Nat, q < B + cnt → H1[q]? = H[q]?) : pm_H D cI B (pm_up σ cnt x) (cnt + 1) H1 := by
  refine ⟨z, fun j y hj => ?_⟩
  by_cases e : j = cnt
  · subst e
    rw [pm_up_same] at hj
    cases hj
    exact hx
  · rw [pm_up_ne _ _ e] at hj
    have h1 := h.2 j y hj
    have h2 := h1.lt
    rw [h.1] at h2
    exact h1.kept (oq _ h2)
/-- the locals, dense -/
def pm_lv : Nat → List (Option Value) → List (Nat × Value)
  | _, [] => []
  | i, none :: r => pm_lv (i + 1) r
  | i, some v :: r => (i, v) :: pm_lv (i + 1) r
theorem pm_lv_mem (q : Nat × Value) : ∀ (loc : List (Option Value)) (n : Nat), q ∈ pm_lv n loc ↔ ∃ j, q.1 = n + j ∧ loc[j]? = some (some q.2)
  | [], n => by simp [pm_lv]
  | none :: r, n => by
    rw [pm_lv, pm_lv_mem q r (n + 1)]
    constructor
    · rintro ⟨j, h1, h2⟩
      exact ⟨j + 1, by omega, by simpa using h2⟩
    · rintro ⟨j, h1, h2⟩
      cases j with
      | zero => simp at h2
      | succ j => exact ⟨j, by omega, by simpa using h2⟩
  | some v :: r, n => by
    rw [pm_lv, List.mem_cons, pm_lv_mem q r (n + 1)]
    constructor
    · rintro (h | ⟨j, h1, h2⟩)
      · subst h
        exact ⟨0, rfl, rfl⟩
      · exact ⟨j + 1, by omega, by simpa using h2⟩
    · rintro ⟨j, h1, h2⟩
      cases j with
      | zero =>
        left
        have h3 : v = q.2 := by simpa using h2
        rw [h3, ← (show q.1 = n by omega)]
      | succ j => exact Or.inr ⟨j, by omega, by simpa using h2⟩
def pm_L (ls : Array Slot) (nL : Nat) (loc : List (Option Value)) : Prop := lv_has ls nL (pm_lv 0 loc)
theorem pm_L.at {ls : Array Slot} {nL : Nat} {loc : List (Option Value)} (h : pm_L ls nL loc) {i : Nat} {v : Value} (hi : loc[i]? = some (some v)) : ls[i]? = some (.val v) :=
  h.2.2 (i, v) ((pm_lv_mem (i, v) loc 0).mpr ⟨i, by simp, hi⟩)
theorem pm_L.set1 {ls' : Array Slot} {nL : Nat} {loc : List (Option Value)} {i : Nat} {v : Value} (h' : lv_has ls' nL ((i, v) :: (pm_lv 0 loc).filter (fun q => !(q.1 == i) && !(q.1 + 1 == i && q.2.category == 2))))
    (hc : ∀ (j : Nat) (u : Value), i = j + 1 → loc[j]? = some (some u) → u.category = 1) : pm_L ls' nL (loc.set i (some v)) := by
  refine ⟨h'.1, h'.2.1, fun q hq => ?_⟩
  obtain ⟨j, h1, h2⟩ := (pm_lv_mem q _ 0).mp hq
  have h1 : q.1 = j := by omega
  by_cases e : j = i
  · subst e
    rw [List.getElem?_set] at h2
    simp only [if_true] at h2
    split at h2
    · have h3 : v = q.2 := by simpa using h2
      refine h'.2.2 q ?_
      rw [List.mem_cons]
      exact Or.inl (Prod.ext h1 h3.symm)
    · cases h2
  · rw [List.getElem?_set_ne (fun z => e z.symm)] at h2
    refine h'.2.2 q (List.mem_cons_of_mem _ (List.mem_filter.mpr ⟨(pm_lv_mem q _ 0).mpr ⟨j, by omega, h2⟩, ?_⟩))
    rw [h1]
    by_cases e2 : i = j + 1
    · have h3 := hc j q.2 e2 h2
      simp [e, h3]
    · simp [e]
      exact Or.inl (fun h4 => e2 h4.symm)
theorem pm_L.set2 {ls' : Array Slot} {nL : Nat} {loc : List (Option Value)} {i : Nat} {v : Value} (h' : lv_has ls' nL ((i, v) :: (pm_lv 0 loc).filter (fun q => !(q.1 == i) && (!(q.1 == i + 1) && !(q.1 + 1 == i && q.2.category == 2)))))
    (hc : ∀ (j : Nat) (u : Value), i = j + 1 → loc[j]? = some (some u) → u.category = 1) : pm_L ls' nL ((loc.set i (some v)).set (i + 1) none) := by
  refine ⟨h'.1, h'.2.1, fun q hq => ?_⟩
  obtain ⟨j, h1, h2⟩ := (pm_lv_mem q _ 0).mp hq
  have h1 : q.1 = j := by omega
  by_cases e1 : j = i + 1
  · subst e1
    rw [List.getElem?_set] at h2
    simp only [if_true] at h2
    split at h2 <;> cases h2
  · rw [List.getElem?_set_ne (fun z => e1 z.symm)] at h2
    by_cases e : j = i
    · subst e
      rw [List.getElem?_set] at h2
      simp only [if_true] at h2
      split at h2
      · have h3 : v = q.2 := by simpa using h2
        refine h'.2.2 q ?_
        rw [List.mem_cons]
        exact Or.inl (Prod.ext h1 h3.symm)
      · cases h2
    · rw [List.getElem?_set_ne (fun z => e z.symm)] at h2
      refine h'.2.2 q (List.mem_cons_of_mem _ (List.mem_filter.mpr ⟨(pm_lv_mem q _ 0).mpr ⟨j, by omega, h2⟩, ?_⟩))
      rw [h1]
      by_cases e2 : i = j + 1
      · have h3 := hc j q.2 e2 h2
        simp [e, e1, h3]
      · simp [e, e1]
        exact Or.inl (fun h4 => e2 h4.symm)
/-- the machine's own things along one body: program, launch, env, room, start, method, arguments, below, method, code; the classes' numbers; the aim -/
abbrev pm_G : Type := (Program × Launch × Env × Room × State × MethodId × Array Value × List Frame × Method × Code) × (va_G × ClassId) × (State → Prop)
abbrev pm_s (G : pm_G) : State := G.1.2.2.2.2.1
abbrev pm_R (G : pm_G) : Room := G.1.2.2.2.1
abbrev pm_c (G : pm_G) : Code := G.1.2.2.2.2.2.2.2.2.2
abbrev pm_m (G : pm_G) : MethodId := G.1.2.2.2.2.2.1
abbrev pm_a (G : pm_G) : Array Value := G.1.2.2.2.2.2.2.1
abbrev pm_b (G : pm_G) : List Frame := G.1.2.2.2.2.2.2.2.1
abbrev pm_t (G : pm_G) : Method := G.1.2.2.2.2.2.2.2.2.1
def pm_Wg (G : pm_G) (H : Heap) (locs : List Loc) (cs zs : Nat) (g : JFrame) : Prop := W G.1.1 G.1.2.1 G.1.2.2.1 (pm_R G) (pm_s G) (pm_m G) (pm_a G) (pm_b G) (pm_t G) (pm_c G) H locs cs zs G.2.2 g
def pm_ok (M : pm_M) (G : pm_G) (B : Nat) : Prop :=
  (G.1.1.tables.exec = Jvm.exec ∧ (pm_c G).code = M.2.1 ∧ (pm_c G).maxLocals = M.2.2.1 ∧ (pm_s G).vm.findClass M.1.cls = some (pm_m G).cls ∧ pm_ow B (pm_s G)) ∧ (∀ w ∈ pm_tbl, w.before (pm_a G) (pm_s G) = true) ∧ pm_env G.2.1.1 G.2.1.2 (pm_s G) ∧ B ≤ (pm_s G).heap.size ∧ (pm_t G).locks = false ∧ (pm_t G).sig.returnType = M.2.2.2 ∧ (pm_t G).name = M.1.name
theorem pm_ok.x {M : pm_M} {G : pm_G} {B : Nat} (h : pm_ok M G B) : G.1.1.tables.exec = Jvm.exec := h.1.1
theorem pm_ok.b {M : pm_M} {G : pm_G} {B : Nat} (h : pm_ok M G B) : (pm_c G).code = M.2.1 := h.1.2.1
theorem pm_ok.ml {M : pm_M} {G : pm_G} {B : Nat} (h : pm_ok M G B) : (pm_c G).maxLocals = M.2.2.1 := h.1.2.2.1
theorem pm_ok.own {M : pm_M} {G : pm_G} {B : Nat} (h : pm_ok M G B) : (pm_s G).vm.findClass M.1.cls = some (pm_m G).cls := h.1.2.2.2.1
theorem pm_ok.ow {M : pm_M} {G : pm_G} {B : Nat} (h : pm_ok M G B) : pm_ow B (pm_s G) := h.1.2.2.2.2
theorem pm_ok.ts {M : pm_M} {G : pm_G} {B : Nat} (h : pm_ok M G B) : ∀ w ∈ pm_tbl, w.before (pm_a G) (pm_s G) = true := h.2.1
theorem pm_ok.env {M : pm_M} {G : pm_G} {B : Nat} (h : pm_ok M G B) : pm_env G.2.1.1 G.2.1.2 (pm_s G) := h.2.2.1
def pm_wp (M : pm_M) (G : pm_G) (B : Nat) (pc : Nat) (loc : List (Option Value)) (st : List Value) (cs zs cnt : Nat) (σ : pm_S) : Prop :=
  ∀ (H : Heap) (ls : Array Slot) (locs : List Loc), pm_H G.2.1.1 G.2.1.2 B σ cnt H → (∀ q : Nat, q < B → H[q]? = (pm_s G).heap[q]?) → pm_L ls M.2.2.1 loc → (∀ q ∈ locs, B ≤ q.base) → pm_Wg G H locs cs zs (F0 (pm_m G) pc ls st)
def pm_dec (M : pm_M) (pc : Nat) (i : Instr × Nat) (pc' : Nat) : Prop := decode M.2.1 pc = .ok i ∧ pc + i.2 = pc'
/-- a branch's place -/
def pm_br (pc : Nat) (off : Int) (tgt : Nat) : Prop := (pc : Int) + off = (tgt : Int)
section PM
variable {M : pm_M} {G : pm_G} {B pc pc' : Nat} {loc : List (Option Value)} {st : List Value} {cs zs cnt : Nat} {σ : pm_S}

theorem pm_iconst {n : Int} {v : Int32} (hG : pm_ok M G B) (hd : pm_dec M pc (.iconst n, 1) pc') (hv : Int32.ofInt n = v) (k : pm_wp M G B pc' loc (.int v :: st) cs zs cnt σ) : pm_wp M G B pc loc (st) cs zs cnt σ := by
  obtain ⟨hd, rfl⟩ := hd
  exact fun H ls locs h1 h2 h3 h4 => lv_iconst hG.x hG.b hd hv (k H ls locs h1 h2 h3 h4)
theorem pm_bipush {n : Int} {v : Int32} (hG : pm_ok M G B) (hd : pm_dec M pc (.bipush n, 2) pc') (hv : (Int8.ofInt n).toInt32 = v) (k : pm_wp M G B pc' loc (.int v :: st) cs zs cnt σ) : pm_wp M G B pc loc (st) cs zs cnt σ := by
  obtain ⟨hd, rfl⟩ := hd
  exact fun H ls locs h1 h2 h3 h4 => lv_bipush hG.x hG.b hd hv (k H ls locs h1 h2 h3 h4)
theorem pm_sipush {n : Int} {v : Int32} (hG : pm_ok M G B) (hd : pm_dec M pc (.sipush n, 3) pc') (hv : (Int16.ofInt n).toInt32 = v) (k : pm_wp M G B pc' loc (.int v :: st) cs zs cnt σ) : pm_wp M G B pc loc (st) cs zs cnt σ := by
  obtain ⟨hd, rfl⟩ := hd
  exact fun H ls locs h1 h2 h3 h4 => lv_sipush hG.x hG.b hd hv (k H ls locs h1 h2 h3 h4)
theorem pm_lconst {n : Fin 2} {v : Int64} (hG : pm_ok M G B) (hd : pm_dec M pc (.lconst n, 1) pc') (hv : Int64.ofNat (n : Nat) = v) (k : pm_wp M G B pc' loc (.long v :: st) cs zs cnt σ) : pm_wp M G B pc loc (st) cs zs cnt σ := by
  obtain ⟨hd, rfl⟩ := hd
  exact fun H ls locs h1 h2 h3 h4 => lv_lconst hG.x hG.b hd hv (k H ls locs h1 h2 h3 h4)
theorem pm_ldc {i : Nat} {v : Int32} (hG : pm_ok M G B) (hd : pm_dec M pc (.ldc i, 2) pc') (hw : Cond.constant M.1.cls i v ∈ pm_tbl) (k : pm_wp M G B pc' loc (.int v :: st) cs zs cnt σ) : pm_wp M G B pc loc st cs zs cnt σ := by
  obtain ⟨hd, rfl⟩ := hd
  exact fun H ls locs h1 h2 h3 h4 => lv_ldc hG.x hG.b hG.own (hG.ts _ hw) hd (k H ls locs h1 h2 h3 h4)
theorem pm_ldcw {i : Nat} {v : Int32} (hG : pm_ok M G B) (hd : pm_dec M pc (.ldc_w i, 3) pc') (hw : Cond.constant M.1.cls i v ∈ pm_tbl) (k : pm_wp M G B pc' loc (.int v :: st) cs zs cnt σ) : pm_wp M G B pc loc st cs zs cnt σ := by
  obtain ⟨hd, rfl⟩ := hd
  exact fun H ls locs h1 h2 h3 h4 => lv_ldcw hG.x hG.b hG.own (hG.ts _ hw) hd (k H ls locs h1 h2 h3 h4)
theorem pm_ldc2 {i : Nat} {v : Int64} (hG : pm_ok M G B) (hd : pm_dec M pc (.ldc2_w i, 3) pc') (hw : Cond.constantLong M.1.cls i v ∈ pm_tbl) (k : pm_wp M G B pc' loc (.long v :: st) cs zs cnt σ) : pm_wp M G B pc loc st cs zs cnt σ := by
  obtain ⟨hd, rfl⟩ := hd
  exact fun H ls locs h1 h2 h3 h4 => lv_ldc2 hG.x hG.b hG.own (hG.ts _ hw) hd (k H ls locs h1 h2 h3 h4)
theorem pm_iadd {x y : Int32} (hG : pm_ok M G B) (hd : pm_dec M pc (.iadd, 1) pc')  (k : pm_wp M G B pc' loc (.int (x + y) :: st) cs zs cnt σ) : pm_wp M G B pc loc (.int y :: .int x :: st) cs zs cnt σ := by
  obtain ⟨hd, rfl⟩ := hd
  exact fun H ls locs h1 h2 h3 h4 => lv_iadd hG.x hG.b hd  (k H ls locs h1 h2 h3 h4)
theorem pm_isub {x y : Int32} (hG : pm_ok M G B) (hd : pm_dec M pc (.isub, 1) pc')  (k : pm_wp M G B pc' loc (.int (x - y) :: st) cs zs cnt σ) : pm_wp M G B pc loc (.int y :: .int x :: st) cs zs cnt σ := by
  obtain ⟨hd, rfl⟩ := hd
  exact fun H ls locs h1 h2 h3 h4 => lv_isub hG.x hG.b hd  (k H ls locs h1 h2 h3 h4)
theorem pm_imul {x y : Int32} (hG : pm_ok M G B) (hd : pm_dec M pc (.imul, 1) pc')  (k : pm_wp M G B pc' loc (.int (x * y) :: st) cs zs cnt σ) : pm_wp M G B pc loc (.int y :: .int x :: st) cs zs cnt σ := by
  obtain ⟨hd, rfl⟩ := hd
  exact fun H ls locs h1 h2 h3 h4 => lv_imul hG.x hG.b hd  (k H ls locs h1 h2 h3 h4)
theorem pm_iand {x y : Int32} (hG : pm_ok M G B) (hd : pm_dec M pc (.iand, 1) pc')  (k : pm_wp M G B pc' loc (.int (x &&& y) :: st) cs zs cnt σ) : pm_wp M G B pc loc (.int y :: .int x :: st) cs zs cnt σ := by
  obtain ⟨hd, rfl⟩ := hd
  exact fun H ls locs h1 h2 h3 h4 => lv_iand hG.x hG.b hd  (k H ls locs h1 h2 h3 h4)
theorem pm_ior {x y : Int32} (hG : pm_ok M G B) (hd : pm_dec M pc (.ior, 1) pc')  (k : pm_wp M G B pc' loc (.int (x ||| y) :: st) cs zs cnt σ) : pm_wp M G B pc loc (.int y :: .int x :: st) cs zs cnt σ := by
  obtain ⟨hd, rfl⟩ := hd
  exact fun H ls locs h1 h2 h3 h4 => lv_ior hG.x hG.b hd  (k H ls locs h1 h2 h3 h4)
theorem pm_ixor {x y : Int32} (hG : pm_ok M G B) (hd : pm_dec M pc (.ixor, 1) pc')  (k : pm_wp M G B pc' loc (.int (x ^^^ y) :: st) cs zs cnt σ) : pm_wp M G B pc loc (.int y :: .int x :: st) cs zs cnt σ := by
  obtain ⟨hd, rfl⟩ := hd
  exact fun H ls locs h1 h2 h3 h4 => lv_ixor hG.x hG.b hd  (k H ls locs h1 h2 h3 h4)
theorem pm_ishl {x y : Int32} (hG : pm_ok M G B) (hd : pm_dec M pc (.ishl, 1) pc')  (k : pm_wp M G B pc' loc (.int (x <<< (y &&& 31)) :: st) cs zs cnt σ) : pm_wp M G B pc loc (.int y :: .int x :: st) cs zs cnt σ := by
  obtain ⟨hd, rfl⟩ := hd
  exact fun H ls locs h1 h2 h3 h4 => lv_ishl hG.x hG.b hd  (k H ls locs h1 h2 h3 h4)
theorem pm_ishr {x y : Int32} (hG : pm_ok M G B) (hd : pm_dec M pc (.ishr, 1) pc')  (k : pm_wp M G B pc' loc (.int (x >>> (y &&& 31)) :: st) cs zs cnt σ) : pm_wp M G B pc loc (.int y :: .int x :: st) cs zs cnt σ := by
  obtain ⟨hd, rfl⟩ := hd
  exact fun H ls locs h1 h2 h3 h4 => lv_ishr hG.x hG.b hd  (k H ls locs h1 h2 h3 h4)
theorem pm_iushr {x y v : Int32} (hG : pm_ok M G B) (hd : pm_dec M pc (.iushr, 1) pc') (hv : (x.toUInt32 >>> (y.toUInt32 &&& Int32.toUInt32 31)).toInt32 = v) (k : pm_wp M G B pc' loc (.int v :: st) cs zs cnt σ) : pm_wp M G B pc loc (.int y :: .int x :: st) cs zs cnt σ := by
  obtain ⟨hd, rfl⟩ := hd
  exact fun H ls locs h1 h2 h3 h4 => lv_iushr hG.x hG.b hd hv (k H ls locs h1 h2 h3 h4)
theorem pm_idiv {x y : Int32} (hG : pm_ok M G B) (hd : pm_dec M pc (.idiv, 1) pc') (hne : ¬ y = 0) (k : pm_wp M G B pc' loc (.int (x / y) :: st) cs zs cnt σ) : pm_wp M G B pc loc (.int y :: .int x :: st) cs zs cnt σ := by
  obtain ⟨hd, rfl⟩ := hd
  exact fun H ls locs h1 h2 h3 h4 => lv_idiv hG.x hG.b hd hne (k H ls locs h1 h2 h3 h4)
theorem pm_irem {x y : Int32} (hG : pm_ok M G B) (hd : pm_dec M pc (.irem, 1) pc') (hne : ¬ y = 0) (k : pm_wp M G B pc' loc (.int (x - x / y * y) :: st) cs zs cnt σ) : pm_wp M G B pc loc (.int y :: .int x :: st) cs zs cnt σ := by
  obtain ⟨hd, rfl⟩ := hd
  exact fun H ls locs h1 h2 h3 h4 => lv_irem hG.x hG.b hd hne (k H ls locs h1 h2 h3 h4)
theorem pm_ineg {x : Int32} (hG : pm_ok M G B) (hd : pm_dec M pc (.ineg, 1) pc')  (k : pm_wp M G B pc' loc (.int (-x) :: st) cs zs cnt σ) : pm_wp M G B pc loc (.int x :: st) cs zs cnt σ := by
  obtain ⟨hd, rfl⟩ := hd
  exact fun H ls locs h1 h2 h3 h4 => lv_ineg hG.x hG.b hd  (k H ls locs h1 h2 h3 h4)
theorem pm_ladd {x y : Int64} (hG : pm_ok M G B) (hd : pm_dec M pc (.ladd, 1) pc')  (k : pm_wp M G B pc' loc (.long (x + y) :: st) cs zs cnt σ) : pm_wp M G B pc loc (.long y :: .long x :: st) cs zs cnt σ := by
  obtain ⟨hd, rfl⟩ := hd
  exact fun H ls locs h1 h2 h3 h4 => lv_ladd hG.x hG.b hd  (k H ls locs h1 h2 h3 h4)
theorem pm_lsub {x y : Int64} (hG : pm_ok M G B) (hd : pm_dec M pc (.lsub, 1) pc')  (k : pm_wp M G B pc' loc (.long (x - y) :: st) cs zs cnt σ) : pm_wp M G B pc loc (.long y :: .long x :: st) cs zs cnt σ := by
  obtain ⟨hd, rfl⟩ := hd
  exact fun H ls locs h1 h2 h3 h4 => lv_lsub hG.x hG.b hd  (k H ls locs h1 h2 h3 h4)
theorem pm_land {x y : Int64} (hG : pm_ok M G B) (hd : pm_dec M pc (.land, 1) pc')  (k : pm_wp M G B pc' loc (.long (x &&& y) :: st) cs zs cnt σ) : pm_wp M G B pc loc (.long y :: .long x :: st) cs zs cnt σ := by
  obtain ⟨hd, rfl⟩ := hd
  exact fun H ls locs h1 h2 h3 h4 => lv_land hG.x hG.b hd  (k H ls locs h1 h2 h3 h4)
theorem pm_lor {x y : Int64} (hG : pm_ok M G B) (hd : pm_dec M pc (.lor, 1) pc')  (k : pm_wp M G B pc' loc (.long (x ||| y) :: st) cs zs cnt σ) : pm_wp M G B pc loc (.long y :: .long x :: st) cs zs cnt σ := by
  obtain ⟨hd, rfl⟩ := hd
  exact fun H ls locs h1 h2 h3 h4 => lv_lor hG.x hG.b hd  (k H ls locs h1 h2 h3 h4)
theorem pm_i2l {x : Int32} {v : Int64} (hG : pm_ok M G B) (hd : pm_dec M pc (.i2l, 1) pc') (hv : x.toInt64 = v) (k : pm_wp M G B pc' loc (.long v :: st) cs zs cnt σ) : pm_wp M G B pc loc (.int x :: st) cs zs cnt σ := by
  obtain ⟨hd, rfl⟩ := hd
  exact fun H ls locs h1 h2 h3 h4 => lv_i2l hG.x hG.b hd hv (k H ls locs h1 h2 h3 h4)
theorem pm_l2i {x : Int64} {v : Int32} (hG : pm_ok M G B) (hd : pm_dec M pc (.l2i, 1) pc') (hv : x.toInt32 = v) (k : pm_wp M G B pc' loc (.int v :: st) cs zs cnt σ) : pm_wp M G B pc loc (.long x :: st) cs zs cnt σ := by
  obtain ⟨hd, rfl⟩ := hd
  exact fun H ls locs h1 h2 h3 h4 => lv_l2i hG.x hG.b hd hv (k H ls locs h1 h2 h3 h4)
theorem pm_i2b {x v : Int32} (hG : pm_ok M G B) (hd : pm_dec M pc (.i2b, 1) pc') (hv : x.toInt8.toInt32 = v) (k : pm_wp M G B pc' loc (.int v :: st) cs zs cnt σ) : pm_wp M G B pc loc (.int x :: st) cs zs cnt σ := by
  obtain ⟨hd, rfl⟩ := hd
  exact fun H ls locs h1 h2 h3 h4 => lv_i2b hG.x hG.b hd hv (k H ls locs h1 h2 h3 h4)
theorem pm_i2s {x v : Int32} (hG : pm_ok M G B) (hd : pm_dec M pc (.i2s, 1) pc') (hv : x.toInt16.toInt32 = v) (k : pm_wp M G B pc' loc (.int v :: st) cs zs cnt σ) : pm_wp M G B pc loc (.int x :: st) cs zs cnt σ := by
  obtain ⟨hd, rfl⟩ := hd
  exact fun H ls locs h1 h2 h3 h4 => lv_i2s hG.x hG.b hd hv (k H ls locs h1 h2 h3 h4)
theorem pm_lshl {x v : Int64} {y : Int32} (hG : pm_ok M G B) (hd : pm_dec M pc (.lshl, 1) pc') (hv : x <<< (y.toInt64 &&& 63) = v) (k : pm_wp M G B pc' loc (.long v :: st) cs zs cnt σ) : pm_wp M G B pc loc (.int y :: .long x :: st) cs zs cnt σ := by
  obtain ⟨hd, rfl⟩ := hd
  exact fun H ls locs h1 h2 h3 h4 => lv_lshl hG.x hG.b hd hv (k H ls locs h1 h2 h3 h4)
theorem pm_lshr {x v : Int64} {y : Int32} (hG : pm_ok M G B) (hd : pm_dec M pc (.lshr, 1) pc') (hv : x >>> (y.toInt64 &&& 63) = v) (k : pm_wp M G B pc' loc (.long v :: st) cs zs cnt σ) : pm_wp M G B pc loc (.int y :: .long x :: st) cs zs cnt σ := by
  obtain ⟨hd, rfl⟩ := hd
  exact fun H ls locs h1 h2 h3 h4 => lv_lshr hG.x hG.b hd hv (k H ls locs h1 h2 h3 h4)
theorem pm_lushr {x v : Int64} {y : Int32} (hG : pm_ok M G B) (hd : pm_dec M pc (.lushr, 1) pc') (hv : (x.toUInt64 >>> (y.toInt64.toUInt64 &&& Int64.toUInt64 63)).toInt64 = v) (k : pm_wp M G B pc' loc (.long v :: st) cs zs cnt σ) : pm_wp M G B pc loc (.int y :: .long x :: st) cs zs cnt σ := by
  obtain ⟨hd, rfl⟩ := hd
  exact fun H ls locs h1 h2 h3 h4 => lv_lushr hG.x hG.b hd hv (k H ls locs h1 h2 h3 h4)
theorem pm_dup {va : Value} (hG : pm_ok M G B) (hd : pm_dec M pc (.dup, 1) pc') (hva : va.category = 1) (k : pm_wp M G B pc' loc (va :: va :: st) cs zs cnt σ) : pm_wp M G B pc loc (va :: st) cs zs cnt σ := by
  obtain ⟨hd, rfl⟩ := hd
  exact fun H ls locs h1 h2 h3 h4 => lv_dup hG.x hG.b hd hva (k H ls locs h1 h2 h3 h4)
theorem pm_pop {va : Value} (hG : pm_ok M G B) (hd : pm_dec M pc (.pop, 1) pc') (hva : va.category = 1) (k : pm_wp M G B pc' loc (st) cs zs cnt σ) : pm_wp M G B pc loc (va :: st) cs zs cnt σ := by
  obtain ⟨hd, rfl⟩ := hd
  exact fun H ls locs h1 h2 h3 h4 => lv_pop hG.x hG.b hd hva (k H ls locs h1 h2 h3 h4)
theorem pm_dup2 {va vb : Value} (hG : pm_ok M G B) (hd : pm_dec M pc (.dup2, 1) pc') (hva : va.category = 1) (hvb : vb.category = 1) (k : pm_wp M G B pc' loc (va :: vb :: va :: vb :: st) cs zs cnt σ) : pm_wp M G B pc loc (va :: vb :: st) cs zs cnt σ := by
  obtain ⟨hd, rfl⟩ := hd
  exact fun H ls locs h1 h2 h3 h4 => lv_dup2_11 hG.x hG.b hd hva hvb (k H ls locs h1 h2 h3 h4)
theorem pm_lcmp {x y : Int64} (hG : pm_ok M G B) (hd : pm_dec M pc (.lcmp, 1) pc') (k : pm_wp M G B pc' loc (.int (lg_cmp x y) :: st) cs zs cnt σ) : pm_wp M G B pc loc (.long y :: .long x :: st) cs zs cnt σ := by
  obtain ⟨hd, rfl⟩ := hd
  exact fun H ls locs h1 h2 h3 h4 => W.lcmp hG.x hG.b hd (k H ls locs h1 h2 h3 h4)
theorem pm_goto {off : Int} {tgt : Nat} (hG : pm_ok M G B) (hd : pm_dec M pc (.goto off, 3) pc') (ht : pm_br pc off tgt) (k : pm_wp M G B tgt loc st cs zs cnt σ) : pm_wp M G B pc loc st cs zs cnt σ :=
  fun H ls locs h1 h2 h3 h4 => lv_goto hG.x hG.b hd.1 ht (k H ls locs h1 h2 h3 h4)
theorem pm_if_eq {x : Int32} {off : Int} {tgt : Nat} (hG : pm_ok M G B) (hd : pm_dec M pc (.ifCond .eq off, 3) pc') (ht : pm_br pc off tgt) (kt : x = 0 → pm_wp M G B tgt loc st cs zs cnt σ) (kf : ¬ (x = 0) → pm_wp M G B pc' loc st cs zs cnt σ) : pm_wp M G B pc loc (.int x :: st) cs zs cnt σ := by
  obtain ⟨hd, rfl⟩ := hd
  exact fun H ls locs h1 h2 h3 h4 => lv_if_eq hG.x hG.b hd ht (fun q => kt q H ls locs h1 h2 h3 h4) (fun q => kf q H ls locs h1 h2 h3 h4)
theorem pm_if_ne {x : Int32} {off : Int} {tgt : Nat} (hG : pm_ok M G B) (hd : pm_dec M pc (.ifCond .ne off, 3) pc') (ht : pm_br pc off tgt) (kt : ¬ x = 0 → pm_wp M G B tgt loc st cs zs cnt σ) (kf : x = 0 → pm_wp M G B pc' loc st cs zs cnt σ) : pm_wp M G B pc loc (.int x :: st) cs zs cnt σ := by
  obtain ⟨hd, rfl⟩ := hd
  exact fun H ls locs h1 h2 h3 h4 => lv_if_ne hG.x hG.b hd ht (fun q => kt q H ls locs h1 h2 h3 h4) (fun q => kf q H ls locs h1 h2 h3 h4)
theorem pm_if_lt {x : Int32} {off : Int} {tgt : Nat} (hG : pm_ok M G B) (hd : pm_dec M pc (.ifCond .lt off, 3) pc') (ht : pm_br pc off tgt) (kt : x < 0 → pm_wp M G B tgt loc st cs zs cnt σ) (kf : ¬ (x < 0) → pm_wp M G B pc' loc st cs zs cnt σ) : pm_wp M G B pc loc (.int x :: st) cs zs cnt σ := by
  obtain ⟨hd, rfl⟩ := hd
  exact fun H ls locs h1 h2 h3 h4 => lv_if_lt hG.x hG.b hd ht (fun q => kt q H ls locs h1 h2 h3 h4) (fun q => kf q H ls locs h1 h2 h3 h4)
theorem pm_if_ge {x : Int32} {off : Int} {tgt : Nat} (hG : pm_ok M G B) (hd : pm_dec M pc (.ifCond .ge off, 3) pc') (ht : pm_br pc off tgt) (kt : 0 ≤ x → pm_wp M G B tgt loc st cs zs cnt σ) (kf : ¬ (0 ≤ x) → pm_wp M G B pc' loc st cs zs cnt σ) : pm_wp M G B pc loc (.int x :: st) cs zs cnt σ := by
  obtain ⟨hd, rfl⟩ := hd
  exact fun H ls locs h1 h2 h3 h4 => lv_if_ge hG.x hG.b hd ht (fun q => kt q H ls locs h1 h2 h3 h4) (fun q => kf q H ls locs h1 h2 h3 h4)
theorem pm_if_gt {x : Int32} {off : Int} {tgt : Nat} (hG : pm_ok M G B) (hd : pm_dec M pc (.ifCond .gt off, 3) pc') (ht : pm_br pc off tgt) (kt : 0 < x → pm_wp M G B tgt loc st cs zs cnt σ) (kf : ¬ (0 < x) → pm_wp M G B pc' loc st cs zs cnt σ) : pm_wp M G B pc loc (.int x :: st) cs zs cnt σ := by
  obtain ⟨hd, rfl⟩ := hd
  exact fun H ls locs h1 h2 h3 h4 => lv_if_gt hG.x hG.b hd ht (fun q => kt q H ls locs h1 h2 h3 h4) (fun q => kf q H ls locs h1 h2 h3 h4)
theorem pm_if_le {x : Int32} {off : Int} {tgt : Nat} (hG : pm_ok M G B) (hd : pm_dec M pc (.ifCond .le off, 3) pc') (ht : pm_br pc off tgt) (kt : x ≤ 0 → pm_wp M G B tgt loc st cs zs cnt σ) (kf : ¬ (x ≤ 0) → pm_wp M G B pc' loc st cs zs cnt σ) : pm_wp M G B pc loc (.int x :: st) cs zs cnt σ := by
  obtain ⟨hd, rfl⟩ := hd
  exact fun H ls locs h1 h2 h3 h4 => lv_if_le hG.x hG.b hd ht (fun q => kt q H ls locs h1 h2 h3 h4) (fun q => kf q H ls locs h1 h2 h3 h4)
theorem pm_icmp_eq {x y : Int32} {off : Int} {tgt : Nat} (hG : pm_ok M G B) (hd : pm_dec M pc (.if_icmp .eq off, 3) pc') (ht : pm_br pc off tgt) (kt : x = y → pm_wp M G B tgt loc st cs zs cnt σ) (kf : ¬ (x = y) → pm_wp M G B pc' loc st cs zs cnt σ) : pm_wp M G B pc loc (.int y :: .int x :: st) cs zs cnt σ := by
  obtain ⟨hd, rfl⟩ := hd
  exact fun H ls locs h1 h2 h3 h4 => lv_icmp_eq hG.x hG.b hd ht (fun q => kt q H ls locs h1 h2 h3 h4) (fun q => kf q H ls locs h1 h2 h3 h4)
theorem pm_icmp_ne {x y : Int32} {off : Int} {tgt : Nat} (hG : pm_ok M G B) (hd : pm_dec M pc (.if_icmp .ne off, 3) pc') (ht : pm_br pc off tgt) (kt : ¬ x = y → pm_wp M G B tgt loc st cs zs cnt σ) (kf : x = y → pm_wp M G B pc' loc st cs zs cnt σ) : pm_wp M G B pc loc (.int y :: .int x :: st) cs zs cnt σ := by
  obtain ⟨hd, rfl⟩ := hd
  exact fun H ls locs h1 h2 h3 h4 => lv_icmp_ne hG.x hG.b hd ht (fun q => kt q H ls locs h1 h2 h3 h4) (fun q => kf q H ls locs h1 h2 h3 h4)
theorem pm_icmp_lt {x y : Int32} {off : Int} {tgt : Nat} (hG : pm_ok M G B) (hd : pm_dec M pc (.if_icmp .lt off, 3) pc') (ht : pm_br pc off tgt) (kt : x < y → pm_wp M G B tgt loc st cs zs cnt σ) (kf : ¬ (x < y) → pm_wp M G B pc' loc st cs zs cnt σ) : pm_wp M G B pc loc (.int y :: .int x :: st) cs zs cnt σ := by
  obtain ⟨hd, rfl⟩ := hd
  exact fun H ls locs h1 h2 h3 h4 => lv_icmp_lt hG.x hG.b hd ht (fun q => kt q H ls locs h1 h2 h3 h4) (fun q => kf q H ls locs h1 h2 h3 h4)
theorem pm_icmp_ge {x y : Int32} {off : Int} {tgt : Nat} (hG : pm_ok M G B) (hd : pm_dec M pc (.if_icmp .ge off, 3) pc') (ht : pm_br pc off tgt) (kt : y ≤ x → pm_wp M G B tgt loc st cs zs cnt σ) (kf : ¬ (y ≤ x) → pm_wp M G B pc' loc st cs zs cnt σ) : pm_wp M G B pc loc (.int y :: .int x :: st) cs zs cnt σ := by
  obtain ⟨hd, rfl⟩ := hd
  exact fun H ls locs h1 h2 h3 h4 => lv_icmp_ge hG.x hG.b hd ht (fun q => kt q H ls locs h1 h2 h3 h4) (fun q => kf q H ls locs h1 h2 h3 h4)
theorem pm_icmp_gt {x y : Int32} {off : Int} {tgt : Nat} (hG : pm_ok M G B) (hd : pm_dec M pc (.if_icmp .gt off, 3) pc') (ht : pm_br pc off tgt) (kt : y < x → pm_wp M G B tgt loc st cs zs cnt σ) (kf : ¬ (y < x) → pm_wp M G B pc' loc st cs zs cnt σ) : pm_wp M G B pc loc (.int y :: .int x :: st) cs zs cnt σ := by
  obtain ⟨hd, rfl⟩ := hd
  exact fun H ls locs h1 h2 h3 h4 => lv_icmp_gt hG.x hG.b hd ht (fun q => kt q H ls locs h1 h2 h3 h4) (fun q => kf q H ls locs h1 h2 h3 h4)
theorem pm_icmp_le {x y : Int32} {off : Int} {tgt : Nat} (hG : pm_ok M G B) (hd : pm_dec M pc (.if_icmp .le off, 3) pc') (ht : pm_br pc off tgt) (kt : x ≤ y → pm_wp M G B tgt loc st cs zs cnt σ) (kf : ¬ (x ≤ y) → pm_wp M G B pc' loc st cs zs cnt σ) : pm_wp M G B pc loc (.int y :: .int x :: st) cs zs cnt σ := by
  obtain ⟨hd, rfl⟩ := hd
  exact fun H ls locs h1 h2 h3 h4 => lv_icmp_le hG.x hG.b hd ht (fun q => kt q H ls locs h1 h2 h3 h4) (fun q => kf q H ls locs h1 h2 h3 h4)
theorem pm_ifnonnull {x : Nat} {off : Int} {tgt : Nat} (hG : pm_ok M G B) (hd : pm_dec M pc (.ifnonnull off, 3) pc') (ht : pm_br pc off tgt) (k : pm_wp M G B tgt loc st cs zs cnt σ) : pm_wp M G B pc loc (.ref x :: st) cs zs cnt σ :=
  fun H ls locs h1 h2 h3 h4 => lv_ifnonnull hG.x hG.b hd.1 ht (k H ls locs h1 h2 h3 h4)
theorem pm_ifnonnullN {off : Int} (hG : pm_ok M G B) (hd : pm_dec M pc (.ifnonnull off, 3) pc') (k : pm_wp M G B pc' loc st cs zs cnt σ) : pm_wp M G B pc loc (.null :: st) cs zs cnt σ := by
  obtain ⟨hd, rfl⟩ := hd
  exact fun H ls locs h1 h2 h3 h4 => lv_ifnonnullN hG.x hG.b hd (k H ls locs h1 h2 h3 h4)
theorem pm_tswIn {dflt lo hi : Int} {offs : Array Int} {len : Nat} {x : Int32} {off : Int} {tgt : Nat} (hG : pm_ok M G B) (hd : pm_dec M pc (.tableswitch dflt lo hi offs, len) pc') (q1 : ¬ x.toInt < lo) (q2 : ¬ hi < x.toInt) (ho : offs[(x.toInt - lo).toNat]? = some off) (ht : pm_br pc off tgt) (k : pm_wp M G B tgt loc st cs zs cnt σ) : pm_wp M G B pc loc (.int x :: st) cs zs cnt σ :=
  fun H ls locs h1 h2 h3 h4 => lv_tableIn hG.x hG.b hd.1 q1 q2 ho ht (k H ls locs h1 h2 h3 h4)
theorem pm_tswOut {dflt lo hi : Int} {offs : Array Int} {len : Nat} {x : Int32} {tgt : Nat} (hG : pm_ok M G B) (hd : pm_dec M pc (.tableswitch dflt lo hi offs, len) pc') (q : x.toInt < lo ∨ hi < x.toInt) (ht : pm_br pc dflt tgt) (k : pm_wp M G B tgt loc st cs zs cnt σ) : pm_wp M G B pc loc (.int x :: st) cs zs cnt σ :=
  fun H ls locs h1 h2 h3 h4 => lv_tableOut hG.x hG.b hd.1 q ht (k H ls locs h1 h2 h3 h4)
theorem pm_lsw {dflt : Int} {ps : Array (Int × Int)} {len : Nat} {x : Int32} {off : Int} {tgt : Nat} (hG : pm_ok M G B) (hd : pm_dec M pc (.lookupswitch dflt ps, len) pc') (hp : (ps.toList.zip (ps.toList.drop 1)).all (fun (a, next) => a.1 < next.1) = true) (ho : Op.lookupswitch.offset ps.toList dflt x.toInt = off) (ht : pm_br pc off tgt) (k : pm_wp M G B tgt loc st cs zs cnt σ) : pm_wp M G B pc loc (.int x :: st) cs zs cnt σ :=
  fun H ls locs h1 h2 h3 h4 => lv_lookup hG.x hG.b hd.1 hp ho ht (k H ls locs h1 h2 h3 h4)
-- locals
theorem pm_iloadn {k : Fin 4} {x : Int32} (hG : pm_ok M G B) (hd : pm_dec M pc (.iload_n k, 1) pc') (hl : loc[(k : Nat)]? = some (some (.int x))) (kk : pm_wp M G B pc' loc (.int x :: st) cs zs cnt σ) : pm_wp M G B pc loc st cs zs cnt σ := by
  obtain ⟨hd, rfl⟩ := hd
  exact fun H ls locs h1 h2 h3 h4 => lv_iload_n hG.x hG.b hd rfl (h3.at hl) (kk H ls locs h1 h2 h3 h4)
theorem pm_iloadi {i : Nat} {x : Int32} (hG : pm_ok M G B) (hd : pm_dec M pc (.iload i, 2) pc') (hl : loc[i]? = some (some (.int x))) (kk : pm_wp M G B pc' loc (.int x :: st) cs zs cnt σ) : pm_wp M G B pc loc st cs zs cnt σ := by
  obtain ⟨hd, rfl⟩ := hd
  exact fun H ls locs h1 h2 h3 h4 => lv_iload hG.x hG.b hd (h3.at hl) (kk H ls locs h1 h2 h3 h4)
theorem pm_aloadn {k : Fin 4} {x : Nat} (hG : pm_ok M G B) (hd : pm_dec M pc (.aload_n k, 1) pc') (hl : loc[(k : Nat)]? = some (some (.ref x))) (kk : pm_wp M G B pc' loc (.ref x :: st) cs zs cnt σ) : pm_wp M G B pc loc st cs zs cnt σ := by
  obtain ⟨hd, rfl⟩ := hd
  exact fun H ls locs h1 h2 h3 h4 => lv_aload_n hG.x hG.b hd rfl (h3.at hl) (kk H ls locs h1 h2 h3 h4)
theorem pm_aloadi {i : Nat} {x : Nat} (hG : pm_ok M G B) (hd : pm_dec M pc (.aload i, 2) pc') (hl : loc[i]? = some (some (.ref x))) (kk : pm_wp M G B pc' loc (.ref x :: st) cs zs cnt σ) : pm_wp M G B pc loc st cs zs cnt σ := by
  obtain ⟨hd, rfl⟩ := hd
  exact fun H ls locs h1 h2 h3 h4 => lv_aload hG.x hG.b hd (h3.at hl) (kk H ls locs h1 h2 h3 h4)
theorem pm_lloadn {k : Fin 4} {x : Int64} (hG : pm_ok M G B) (hd : pm_dec M pc (.lload_n k, 1) pc') (hl : loc[(k : Nat)]? = some (some (.long x))) (kk : pm_wp M G B pc' loc (.long x :: st) cs zs cnt σ) : pm_wp M G B pc loc st cs zs cnt σ := by
  obtain ⟨hd, rfl⟩ := hd
  exact fun H ls locs h1 h2 h3 h4 => lv_lload_n hG.x hG.b hd rfl (h3.at hl) (kk H ls locs h1 h2 h3 h4)
def pm_c1 (loc : List (Option Value)) (i : Nat) : Prop := ∀ (j : Nat) (u : Value), i = j + 1 → loc[j]? = some (some u) → u.category = 1
theorem pm_istoren {k : Fin 4} {x : Int32} (hG : pm_ok M G B) (hd : pm_dec M pc (.istore_n k, 1) pc') (hn : (k : Nat) < M.2.2.1) (hc : pm_c1 loc k) (kk : pm_wp M G B pc' (loc.set k (some (.int x))) st cs zs cnt σ) : pm_wp M G B pc loc (.int x :: st) cs zs cnt σ := by
  obtain ⟨hd, rfl⟩ := hd
  exact fun H ls locs h1 h2 h3 h4 => lv_istore_n hG.x hG.b hd rfl h3 hn rfl (fun ls' h' => kk H ls' locs h1 h2 (pm_L.set1 h' hc) h4)
theorem pm_istorei {i : Nat} {x : Int32} (hG : pm_ok M G B) (hd : pm_dec M pc (.istore i, 2) pc') (hn : i < M.2.2.1) (hc : pm_c1 loc i) (kk : pm_wp M G B pc' (loc.set i (some (.int x))) st cs zs cnt σ) : pm_wp M G B pc loc (.int x :: st) cs zs cnt σ := by
  obtain ⟨hd, rfl⟩ := hd
  exact fun H ls locs h1 h2 h3 h4 => lv_istore hG.x hG.b hd h3 hn rfl (fun ls' h' => kk H ls' locs h1 h2 (pm_L.set1 h' hc) h4)
theorem pm_astoren {k : Fin 4} {x : Nat} (hG : pm_ok M G B) (hd : pm_dec M pc (.astore_n k, 1) pc') (hn : (k : Nat) < M.2.2.1) (hc : pm_c1 loc k) (kk : pm_wp M G B pc' (loc.set k (some (.ref x))) st cs zs cnt σ) : pm_wp M G B pc loc (.ref x :: st) cs zs cnt σ := by
  obtain ⟨hd, rfl⟩ := hd
  exact fun H ls locs h1 h2 h3 h4 => lv_astore_n hG.x hG.b hd rfl h3 hn rfl (fun ls' h' => kk H ls' locs h1 h2 (pm_L.set1 h' hc) h4)
theorem pm_astorei {i : Nat} {x : Nat} (hG : pm_ok M G B) (hd : pm_dec M pc (.astore i, 2) pc') (hn : i < M.2.2.1) (hc : pm_c1 loc i) (kk : pm_wp M G B pc' (loc.set i (some (.ref x))) st cs zs cnt σ) : pm_wp M G B pc loc (.ref x :: st) cs zs cnt σ := by
  obtain ⟨hd, rfl⟩ := hd
  exact fun H ls locs h1 h2 h3 h4 => lv_astore hG.x hG.b hd h3 hn rfl (fun ls' h' => kk H ls' locs h1 h2 (pm_L.set1 h' hc) h4)
theorem pm_lstoren {k : Fin 4} {x : Int64} (hG : pm_ok M G B) (hd : pm_dec M pc (.lstore_n k, 1) pc') (hn : (k : Nat) + 1 < M.2.2.1) (hc : pm_c1 loc k) (kk : pm_wp M G B pc' ((loc.set k (some (.long x))).set (k + 1) none) st cs zs cnt σ) : pm_wp M G B pc loc (.long x :: st) cs zs cnt σ := by
  obtain ⟨hd, rfl⟩ := hd
  exact fun H ls locs h1 h2 h3 h4 => lv_lstore_n hG.x hG.b hd rfl h3 hn rfl (fun ls' h' => kk H ls' locs h1 h2 (pm_L.set2 h' hc) h4)
theorem pm_iinci {i : Nat} {n : Int} {x v : Int32} (hG : pm_ok M G B) (hd : pm_dec M pc (.iinc i n, 3) pc') (hl : loc[i]? = some (some (.int x))) (hv : x + Int32.ofInt n = v) (hn : i < M.2.2.1) (hc : pm_c1 loc i) (kk : pm_wp M G B pc' (loc.set i (some (.int v))) st cs zs cnt σ) : pm_wp M G B pc loc st cs zs cnt σ := by
  obtain ⟨hd, rfl⟩ := hd
  intro H ls locs h1 h2 h3 h4
  obtain ⟨k, hk⟩ := List.getElem?_of_mem ((pm_lv_mem (i, .int x) loc 0).mpr ⟨i, by simp, hl⟩)
  exact lv_iinc hG.x hG.b hd h3 hk hv hn rfl (fun ls' h' => kk H ls' locs h1 h2 (pm_L.set1 h' hc) h4)
end PM
