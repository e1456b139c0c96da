set_option maxHeartbeats 4000000 in
set_option maxRecDepth 100000 in
theorem whole_start {p : Program} {e : Env} {s : State} {m : MethodId} {below : List Frame} {meth : Method} {c : Code} (l : Launch) (htr : l.stackTraces = false) {b L : Nat} {xs : Nat → Int32} (hL : L ≤ 2048) (C0 : lw_At p s m meth c b L xs) : W p l e room_1 s m #[Value.ref b] below meth c s.heap [] 0 0 (lw_Z below #[Value.ref b] s) (entryFrame m ([Value.ref b] : List Value).toArray 8) := by
  obtain ⟨hx, hb0, hr, hml, hown, hts0, hXs, hbl, hlocks, hgv⟩ := C0
  have hb : c.code = b_LW_law := hb0
  have h1 : ∀ w ∈ tables_1, w.before #[Value.ref b] s = true := fun w hw => hts0 w (List.mem_append_right _ hw)
  have hts : ∀ w ∈ wd, w.before #[Value.ref b] s = true := fun w hw => hts0 w (List.mem_filter.mp hw).1
  have hN := st_nw h1
  have hX := st_xs h1 (flat_of_before _ hgv _ (by decide +kernel)) (flat_of_before _ hgv _ (by decide +kernel))
  have hXc := st_xc (fun w hw => h1 w (xd_in w hw)) (fun q hq => by
    have hq1 : q = ("java/lang/IllegalStateException", "java/lang/IllegalArgumentException") ∨ q = ("java/lang/IllegalArgumentException", "java/lang/IndexOutOfBoundsException") ∨ q = ("java/util/NoSuchElementException", "java/lang/IllegalArgumentException") ∨ q = ("java/util/NoSuchElementException", "java/lang/IllegalStateException") := by simpa [xc_l] using hq
    rcases hq1 with rfl | rfl | rfl | rfl
    · exact flat_of_before _ hgv _ (by decide +kernel)
    · exact flat_of_before _ hgv _ (by decide +kernel)
    · exact flat_of_before _ hgv _ (by decide +kernel)
    · exact flat_of_before _ hgv _ (by decide +kernel))
  sorry
