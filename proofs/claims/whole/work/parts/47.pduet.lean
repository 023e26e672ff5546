theorem sp_KM.xa {n : Nat} {K T P : Nat → Int32} {g g1 : sp_G} (h : sp_KM n K T P g) (k : sp_xa g g1) : sp_KM n K T P g1 := by
  unfold sp_KM
  rw [k.i 64 (by unfold sp_xs; omega), k.i 71 (by unfold sp_xs; omega), k.i 72 (by unfold sp_xs; omega), k.i 73 (by unfold sp_xs; omega)]
  exact h
theorem sp_PM.xa {r z : Nat} {f : Nat → Int32} {g g1 : sp_G} (h : sp_PM r z f g) (k : sp_xa g g1) : sp_PM r z f g1 := by
  obtain ⟨h1, h2, h3, h4⟩ := h
  exact ⟨h1, h2, by rw [k.i 66 (by unfold sp_xs; omega)]; exact h3, fun i hi => by rw [k.i 67 (by unfold sp_xs; omega)]; exact h4 i hi⟩
theorem sp_hP.xa {f : Nat} {g g1 : sp_G} {w : Nat → Int32} (h : sp_hP g f w) (k : sp_xa g g1) : sp_hP g1 f w := fun j hj => by
  rw [← h j hj]
  unfold sp_pv
  rw [k.i 75 (by unfold sp_xs; omega)]
theorem sp_Rel.PX {g : sp_G} (h : sp_Rel g) {r z : Nat} (hr : r < 6) (hz : z ≤ 40) (h1 : g.1 9 r = nI z) : sp_PX r z (fun i => g.1 67 (40 * r + i)) g := ⟨hr, hz, h1, fun i hi => sp_rowF h hr i (by omega)⟩
theorem sp_Rel.PM {g : sp_G} {r z : Nat} (hr : r < 6) (hz : z ≤ 40) (h1 : g.1 66 r = nI z) : sp_PM r z (fun i => g.1 67 (40 * r + i)) g := ⟨hr, hz, h1, fun i hi => rfl⟩
theorem sp_RS.hS {n dm : Nat} {g : sp_G} (h : sp_RS n dm g) : sp_hS g 41 42 (g.1 75) := sp_nowv h
theorem sp_hP0 {g : sp_G} : sp_hP g 0 (g.1 75) := fun j hj => by show g.1 75 (9 * 0 + j) = _; rw [show 9 * 0 + j = j by omega]
theorem pr_lasts {X : sp_X} {g : sp_G} (h : sp_Rel g) (r x : Int32) : sp_Pi X 83 198 [.int r, .int x] g := by
  obtain ⟨hF, hR, hT, n, dm, hK, hS, hP⟩ := id h
  obtain ⟨k1, k2, k3, k4⟩ := id hK
  have hS1 := hS.1
  rcases sp_cls r with hr | ⟨r, hrb, rfl⟩
  · exact sp_pF (xc_lasts_a X g hr x) (mc_lasts_a X g hr x) (by omega) (by omega) h
  by_cases hr : r < 6
  rotate_left
  · exact sp_pF (xc_lasts_b X g (by omega) hrb x) (mc_lasts_b X g (by omega) hrb x) (by omega) (by omega) h
  rcases sp_cls x with hx | ⟨x, hxb, rfl⟩
  · exact sp_pF (xc_lasts_c X g hr hx) (mc_lasts_c X g hr hx) (by omega) (by omega) h
  by_cases hx : x < 10
  rotate_left
  · exact sp_pF (xc_lasts_d X g hr (by omega) hxb) (mc_lasts_d X g hr (by omega) hxb) (by omega) (by omega) h
  rcases sp_pcs h hr hK with ⟨z1, z2⟩ | ⟨z, zb, z1, z2, hz | ⟨hz, ⟨b, b1, b2, b3, b4, b5⟩ | ⟨k5, k6⟩⟩⟩
  · exact sp_pF (xc_lasts_r1 X g hr hx z1) (mc_lasts_r1 X (sp_rx g 1) hr hx z2) (by omega) (by omega) (h.ref (by omega))
  · exact sp_pF (xc_lasts_r5 X g hr hx z1 hz zb) (mc_lasts_r5 X (sp_rx g 5) hr hx z2 hz zb) (by omega) (by omega) (h.ref (by omega))
  · exact sp_pF (xc_lasts_r3 X g hr hx z1 hz k2 k1 b1 b2 b4) (mc_lasts_r3 X (sp_rx g 3) hr hx z2 hz k3 k1 b1 b3 b5) (by omega) (by omega) (h.ref (by omega))
  refine ⟨8, _, by omega, xc_lasts_e X g (by omega) (sp_Rel.KX hK) (h.PX hr zb z1) hz k6 (by omega) hS.hS (sp_nowk hS) (by omega), fun v g1 q => ?_⟩
  obtain ⟨rfl, ax⟩ := q
  refine ⟨8, _, by omega, mc_lasts_e X g1 (by omega) ((sp_Rel.KM hK).xa ax) ((sp_Rel.PM hr zb z2).xa ax) hz k6 (by omega) (sp_hP0.xa ax) (sp_nowk hS) (by omega), fun v g2 q => ?_⟩
  obtain ⟨rfl, am⟩ := q
  exact ⟨rfl, (h.xa ax).ma am⟩
theorem sp_Rel.ch {g g1 : sp_G} (h : sp_Rel g) {p : Nat × Nat} (k : sp_ma (sp_cx g p) g1) : sp_Rel (sp_cm g1 p) := by
  have kk : ∀ q, q ≠ 0 → sp_kp q g (sp_cm g1 p) := fun q hq => k.kp hq
  refine h.F (kk 2 (by decide)) (kk 3 (by decide)) (kk 4 (by decide)) (kk 5 (by decide)) (kk 6 (by decide)) ?_
  obtain ⟨⟨h1, h2, h3, h4, h5⟩, -⟩ := h
  have k1 := kk 1 (by decide)
  refine ⟨by rw [k1 0 11 rfl, k1 64 0 rfl]; exact h1, fun f hf => by rw [k1 63 f rfl, k1 65 f rfl]; exact h2 f hf, by rw [k1 0 12 rfl, k1 64 2 rfl]; exact h3, ?_, ?_⟩
  · show g1.2 0 13 = _
    rw [k.l 0 13 (by omega)]
    rfl
  · show g1.2 0 14 = _
    rw [k.l 0 14 (by omega)]
    rfl
theorem pr_tune {X : sp_X} {g : sp_G} (h : sp_Rel g) (r : Int32) : sp_Pi X 111 217 [.int r] g := by
  obtain ⟨hF, hR, hT, n, dm, hK, hS, hP⟩ := id h
  obtain ⟨k1, k2, k3, k4⟩ := id hK
  have hS1 := hS.1
  rcases sp_cls r with hr | ⟨r, hrb, rfl⟩
  · exact sp_pF (xc_tune_a X g hr) (mc_tune_a X g hr) (by omega) (by omega) h
  by_cases hr : r < 6
  rotate_left
  · exact sp_pF (xc_tune_b X g (by omega) hrb) (mc_tune_b X g (by omega) hrb) (by omega) (by omega) h
  rcases sp_pcs h hr hK with ⟨z1, z2⟩ | ⟨z, zb, z1, z2, hz | ⟨hz, ⟨b, b1, b2, b3, b4, b5⟩ | ⟨k5, k6⟩⟩⟩
  · exact sp_pF (xc_tune_r1 X g hr z1) (mc_tune_r1 X (sp_rx g 1) hr z2) (by omega) (by omega) (h.ref (by omega))
  · exact sp_pF (xc_tune_r5 X g hr z1 hz zb) (mc_tune_r5 X (sp_rx g 5) hr z2 hz zb) (by omega) (by omega) (h.ref (by omega))
  · exact sp_pF (xc_tune_r3 X g hr z1 hz k2 k1 b1 b2 b4) (mc_tune_r3 X (sp_rx g 3) hr z2 hz k3 k1 b1 b3 b5) (by omega) (by omega) (h.ref (by omega))
  refine ⟨8, _, by omega, xc_tune_e X g (sp_Rel.KX hK) (h.PX hr zb z1) hz k6 hS.hS (sp_nowk hS) (by omega) (by omega), fun v g1 q => ?_⟩
  obtain ⟨rfl, gm, ax, rfl⟩ := q
  have m1 := (sp_Rel.KM hK).xa ax
  have m2 := (sp_Rel.PM hr zb z2).xa ax
  have m3 := (sp_hP0 (g := g)).xa ax
  refine ⟨8, _, by omega, mc_tune_e X (sp_cx gm (sp_ul (sp_tu n (g.1 71) (g.1 72) (g.1 73) (fun i => g.1 67 (40 * r + i)) z (g.1 75) 0 1))) (K := g.1 71) (T := g.1 72) (P := g.1 73) (f := fun i => g.1 67 (40 * r + i)) (v := g.1 75) m1 m2 hz k6 m3 (sp_nowk hS) (by omega) (by omega), fun v g2 q => ?_⟩
  obtain ⟨rfl, gn, am, rfl⟩ := q
  exact ⟨rfl, (h.xa ax).ch am⟩
theorem pr_duet {X : sp_X} {g : sp_G} (h : sp_Rel g) (k r : Int32) : sp_Pi X 84 199 [.int k, .int r] g := by
  obtain ⟨hF, hR, hT, n, dm, hK, hS, hP⟩ := id h
  obtain ⟨k1, k2, k3, k4⟩ := id hK
  have hS1 := hS.1
  rcases sp_cls k with hk | ⟨k, hkb, rfl⟩
  · exact sp_pF (xc_duet_a X g hk r) (mc_duet_a X g hk r) (by omega) (by omega) h
  by_cases hk : k < 3
  rotate_left
  · exact sp_pF (xc_duet_b X g (by omega) hkb r) (mc_duet_b X g (by omega) hkb r) (by omega) (by omega) h
  rcases sp_cls r with hr | ⟨r, hrb, rfl⟩
  · exact sp_pF (xc_duet_c X g hk hr) (mc_duet_c X g hk hr) (by omega) (by omega) h
  by_cases hr : r < 6
  rotate_left
  · exact sp_pF (xc_duet_d X g hk (by omega) hrb) (mc_duet_d X g hk (by omega) hrb) (by omega) (by omega) h
  obtain ⟨p1, p2⟩ := hP k hk
  rcases p2 with p2 | ⟨p2, m, mb, m1, m2, ⟨sp, sp1, sp2, sp3⟩, m4, m5, m6⟩
  · refine sp_pF (xc_duet_n X g hk hr (p1.trans p2)) (?_ : sp_Ct X 9 199 _ (sp_rx g 1) (sp_Fi (-3) (sp_rm6 (sp_rx g 1) 1))) (by omega) (by omega) (h.ref (by omega))
    rcases sp_rowsz h hr with ⟨z1, z2⟩ | ⟨z, zb, z1, z2⟩
    · exact mc_duet_r1 X (sp_rx g 1) hk hr z2
    · exact mc_duet_n X (sp_rx g 1) hk hr z2 zb p2
  have ht : g.1 (50 + k) 3 = nI 1 := p1.trans p2
  rcases sp_pcs h hr hK with ⟨z1, z2⟩ | ⟨z, zb, z1, z2, hz | ⟨hz, ⟨b, b1, b2, b3, b4, b5⟩ | ⟨k5, k6⟩⟩⟩
  · exact sp_pF (xc_duet_r1 X g hk hr ht z1) (mc_duet_r1 X (sp_rx g 1) hk hr z2) (by omega) (by omega) (h.ref (by omega))
  · exact sp_pF (xc_duet_r5 X g hk hr ht z1 hz zb) (mc_duet_r5 X (sp_rx g 5) hk hr p2 z2 hz zb) (by omega) (by omega) (h.ref (by omega))
  · exact sp_pF (xc_duet_r3 X g hk hr ht z1 hz k2 k1 b1 b2 b4) (mc_duet_r3 X (sp_rx g 3) hk hr p2 z2 hz k3 k1 b1 b3 b5) (by omega) (by omega) (h.ref (by omega))
  have bv : sp_oB n (99 + 9 * 60) (700 * 60) (g.1 75) := sp_oB.le (sp_nowk hS) (by omega) (by omega)
  have bw : sp_oB n (99 + 9 * 60) (700 * 60) (fun i => g.1 80 (9 * k + i)) := sp_oB.le ((m6 m (by omega)).congr (fun i hi => (m5 i hi).symm)) (by omega) (by omega)
  refine ⟨8, _, by omega, xc_duet_e X g hk (sp_Rel.KX hK) (h.PX hr zb z1) hz k6 bv bw (by omega) (by omega) hS.hS ht m1 mb m5, fun v g1 q => ?_⟩
  obtain ⟨rfl, ax⟩ := q
  refine ⟨8, _, by omega, mc_duet_e X g1 ((sp_Rel.KM hK).xa ax) ((sp_Rel.PM hr zb z2).xa ax) hz k6 hk bv bw (by omega) (by omega) (fun i hi => by rw [ax.i 80 (by unfold sp_xs; omega)]) (sp_hP0.xa ax) (by rw [ax.i 77 (by unfold sp_xs; omega)]; exact p2), fun v g2 q => ?_⟩
  obtain ⟨rfl, am⟩ := q
  exact ⟨rfl, (h.xa ax).ma am⟩
