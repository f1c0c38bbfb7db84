theorem ws_E {p : Program} {e : Env} {s : State} {m : MethodId} {below : List Frame} {meth : Method} {c : Code} {l : Launch} {b L : Nat} {xs : Nat → Int32} {D : va_G} {cI : ClassId} (C0 : lw_At p s m meth c b L xs) : pm_lend meth.name ((p, l, e, room_1, s, m, #[Value.ref b], below, meth, c), (D, cI), lw_Z below #[Value.ref b] s) s.heap.size := by
  obtain ⟨hx, hb, hr, hml, hown, hts, hX, hbl, hlocks, hgv⟩ := id C0
  intro pc loc cs zs cnt σ hcs hzs hd H ls locs h1 h2 h3 h4
  exact va_forget h4 (W.widen hcs hzs (lw_ret hx hb hr hlocks hd))
