theorem ws_G {p : Program} {e : Env} {s : State} {m : MethodId} {below : List Frame} {meth : Method} {c : Code} {l : Launch} {b L : Nat} {xs : Nat → Int32} {D : va_G} {cI : ClassId} {Z : State → Prop} (C0 : lw_At p s m meth c b L xs) (henv : pm_env D cI s) : pm_ok (mL_law meth.name) ((p, l, e, room_1, s, m, #[Value.ref b], below, meth, c), (D, cI), Z) s.heap.size := by
  obtain ⟨hx, hb, hr, hml, hown, hts, hX, hbl, hlocks, hgv⟩ := id C0
  exact ⟨⟨hx, hb, hml, hown, pm_owok hts hgv⟩, fun w hw => hts w (List.mem_filter.mp hw).1, henv, Nat.le_refl _, hlocks, hr, rfl⟩
