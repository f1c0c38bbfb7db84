theorem whole_start {p : Program} {e : Env} {s : State} {m : MethodId} {below : List Frame} {meth : Method} {c : Code} (l : Launch) {b L : Nat} {xs : Nat → Int32} (hL : L ≤ 3072) (C0 : lw_At p s m meth c b L xs) : W p l e room_1 s m #[Value.ref b] below meth c s.heap [] 0 0 (lw_Z below #[Value.ref b] s) (entryFrame m ([Value.ref b] : List Value).toArray 4) := by
  obtain ⟨hx, hb, hr, hml, hown, hts, hX, hbl, hlocks, hgv⟩ := id C0
  obtain ⟨D, cI, henv⟩ := pm_envok hts
  have h := law_start hL (ws_G (l := l) (e := e) (below := below) (Z := lw_Z below #[Value.ref b] s) C0 henv) ws_R ⟨hX, hbl, rfl⟩ (ws_E C0)
  rw [lg_entry_eq]
  have hl := lv_entry ([.ref b]) (n := 4) (Nat.le_of_ble_eq_true rfl)
  exact h s.heap _ [] ⟨rfl, fun k x hk => by cases hk⟩ (fun q _ => rfl) hl (fun q hq => by cases hq)
-- ===== YOUR PART ENDS =====
