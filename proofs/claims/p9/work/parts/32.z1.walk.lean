theorem whole_start {p : Program} {e : Env} {s : State} {m : MethodId} {below : List Frame} {meth : Method} {c : Code} (l : Launch) {b L : Nat} {xs : Nat → Int32} (hL : L ≤ 3072) (C0 : lw_At p s m meth c b L xs) : W p l e room_1 s m #[Value.ref b] below meth c s.heap [] 0 0 (lw_Z below #[Value.ref b] s) (entryFrame m ([Value.ref b] : List Value).toArray 4) := by
  obtain ⟨hx, hb, hr, hml, hown, hts, hX, hbl, hlocks, hgv⟩ := id C0
  obtain ⟨D, cI, henv⟩ := pm_envok hts
  have hG : pm_ok (mL_law meth.name) ((p, l, e, room_1, s, m, #[Value.ref b], below, meth, c), (D, cI), lw_Z below #[Value.ref b] s) s.heap.size :=
    ⟨⟨hx, hb, hml, hown, pm_owok hts hgv⟩, fun w hw => hts w (List.mem_filter.mp hw).1, henv, Nat.le_refl _, hlocks, hr, rfl⟩
  have hE : pm_lend meth.name ((p, l, e, room_1, s, m, #[Value.ref b], below, meth, c), (D, cI), lw_Z below #[Value.ref b] s) s.heap.size := by
    intro pc loc cs zs cnt σ hcs hzs hd H ls locs h1 h2 h3 h4
    exact va_forget h4 (W.widen hcs hzs (lw_ret hx hb hr hlocks hd))
  have h := law_start hL hG ⟨Nat.le_of_ble_eq_true rfl, Nat.le_of_ble_eq_true rfl, Nat.le_of_ble_eq_true rfl, Nat.le_of_ble_eq_true rfl⟩ ⟨hX, hbl, rfl⟩ hE
  rw [lg_entry_eq]
  have hl := lv_entry ([.ref b]) (n := 4) (Nat.le_of_ble_eq_true rfl)
  exact h s.heap _ [] ⟨rfl, fun k x hk => by cases hk⟩ (fun q _ => rfl) hl (fun q hq => by cases hq)
-- ===== YOUR PART ENDS =====
