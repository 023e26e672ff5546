/-! what the relation says, in the words of the contracts -/
theorem sp_nowv {g : sp_G} {n dm : Nat} (hS : sp_RS n dm g) : ∀ j, j < 9 → sp_sv g 41 42 j = g.1 75 j := hS.2.2.2.2.1
theorem sp_nowk {g : sp_G} {n dm : Nat} (hS : sp_RS n dm g) : sp_ok n dm (g.1 75) := (hS.2.2.2.2.2.2.2 dm (Nat.le_refl _)).congr (fun i hi => (hS.2.2.2.2.2.2.1 i hi).symm)
theorem sp_nowx {g : sp_G} {n dm : Nat} (hS : sp_RS n dm g) : sp_ok n dm (sp_sv g 41 42) := (sp_nowk hS).congr (fun i hi => sp_nowv hS i hi)
theorem sp_cbE {g : sp_G} {n dm i : Nat} (hK : sp_RK n g) (hS : sp_RS n dm g) (hi : i < n) : sp_cb (g.1 19 i) (g.1 20 i) (g.1 42 i) = sp_cb (g.1 71 i) (g.1 72 i) (g.1 75 (9 * 0 + i)) := by
  obtain ⟨h1, -, -, h4⟩ := hK
  obtain ⟨⟨a1, -⟩, ⟨a2, -⟩, -⟩ := h4 i hi
  have e := sp_nowv hS i (by omega)
  rw [show sp_sv g 41 42 i = g.1 42 i from if_pos (by omega)] at e
  rw [a1, a2, e, show 9 * 0 + i = i by omega]
theorem sp_plE {g g1 : sp_G} {n dm : Nat} (hK : sp_RK n g) (hS : sp_RS n dm g) {i : Nat} (hi : i < n) (e71 : g1.1 71 i = g.1 71 i) (e73 : g1.1 73 i = g.1 73 i) (e75 : ∀ j, j < 9 → sp_pv g1 0 j = g.1 75 j) : ∀ j, j < 9 → sp_pl n (g1.1 71) (g1.1 73) (sp_pv g1 0) i j = sp_pl n (g.1 19) (g.1 21) (sp_sv g 41 42) i j := by
  obtain ⟨h1, -, -, h4⟩ := hK
  obtain ⟨⟨a1, -⟩, -, ⟨a3, -⟩⟩ := h4 i hi
  exact sp_pl_c (fun j hj => by rw [e75 j hj, sp_nowv hS j hj]) n (by omega) (by rw [e71, a1]) (by rw [e73, a3])
theorem sp_drv {g : sp_G} {dm : Nat} {v : Nat → Int32} : ∀ j, j < 9 → sp_pv (sp_dr (sp_dx g dm v) dm) 0 j = g.1 75 j := fun j hj => by
  show g.1 75 (9 * 0 + j) = _
  exact congrArg (g.1 75) (by omega)
theorem pr_play {X : sp_X} {g : sp_G} (h : sp_Rel g) (i : Int32) : sp_Pi X 53 173 [.int i] g := by
  obtain ⟨hF, hR, hT, n, dm, hK, hS, hP⟩ := id h
  obtain ⟨k1, k2, k3, k4⟩ := id hK
  rcases sp_cls i with hi | ⟨i, hib, rfl⟩
  · exact sp_pF (xc_play_a X g hi) (mc_play_a X g hi k3) (by omega) (by omega) h
  by_cases hin : i < n
  rotate_left
  · exact sp_pF (xc_play_b X g hib k2 k1 (by omega)) (mc_play_b X g hib k3 k1 (by omega)) (by omega) (by omega) h
  obtain ⟨⟨a1, k, hk5, a2⟩, ⟨a3, -⟩, ⟨a4, -⟩⟩ := k4 i hin
  have a19 : g.1 19 i = nI k := a1.trans a2
  by_cases hcb : sp_cb (g.1 71 i) (g.1 72 i) (g.1 75 (9 * 0 + i)) = true
  rotate_left
  · exact sp_pF (xc_play_c X g (by omega) k2 k1 hin a19 hk5 (by rw [sp_cbE hK hS hin]; exact hcb)) (mc_play_c X g (by omega) k3 k1 hin a2 hk5 hcb) (by omega) (by omega) h
  by_cases hd : dm = 60
  · subst hd
    exact sp_pF (xc_play_d X g (by omega) k2 k1 hin a19 hk5 (by rw [sp_cbE hK hS hin]; exact hcb) hS.2.1) (mc_play_d X g (by omega) k3 k1 hin a2 hk5 hcb hS.2.2.1) (by omega) (by omega) h
  have hdm : dm < 60 := by have := hS.1; omega
  obtain ⟨b, hbb, hbe⟩ := (sp_nowx hS).2.1
  have hx := xc_play_e X g (by omega) k2 k1 hin a19 hk5 (by rw [sp_cbE hK hS hin]; exact hcb) hS.2.1 hdm hbe (by omega)
  have hm := mc_play_e X (sp_dx g dm (sp_pl n (g.1 19) (g.1 21) (sp_sv g 41 42) i)) (by omega) k3 k1 hin a2 hk5 hcb hS.2.2.1 hdm
  rw [show (sp_dx g dm (sp_pl n (g.1 19) (g.1 21) (sp_sv g 41 42) i)).1 73 i = g.1 21 i from a4.symm] at hm
  refine sp_pF hx hm (by omega) (by omega) ?_
  exact h.deed hK hS hP hdm (sp_plE hK hS hin rfl rfl sp_drv) ((sp_oB.pl (sp_nowx hS) k1 hin (by omega) (by omega)).le (by omega) (by omega))
theorem sp_n0 {g : sp_G} {n : Nat} (hK : sp_RK n g) : (g.1 18 3 = nI 0 ∧ g.1 64 11 = nI 0) ∨ (0 < n ∧ g.1 18 3 = nI n ∧ g.1 64 11 = nI n) := by
  rcases Nat.eq_zero_or_pos n with e | e
  · subst e; exact Or.inl ⟨hK.2.1, hK.2.2.1⟩
  · exact Or.inr ⟨e, hK.2.1, hK.2.2.1⟩
theorem pr_tide {X : sp_X} {g : sp_G} (h : sp_Rel g) (x : Int32) : sp_Pi X 59 179 [.int x] g := by
  obtain ⟨hF, hR, hT, n, dm, hK, hS, hP⟩ := id h
  rcases sp_cls x with hx | ⟨x, hxb, rfl⟩
  · exact sp_pF (xc_tide_a X g hx) (mc_tide_a X g hx) (by omega) (by omega) h
  by_cases hx : x < 10
  rotate_left
  · exact sp_pF (xc_tide_b X g (by omega) hxb) (mc_tide_b X g (by omega) hxb) (by omega) (by omega) h
  rcases sp_n0 hK with ⟨z1, z2⟩ | ⟨hn0, k2, k3⟩
  · exact sp_pF (xc_tide_c X g hx z1 hS.2.1) (mc_tide_c X g hx z2 hS.2.2.1) (by omega) (by omega) h
  by_cases hd : dm = 60
  · subst hd
    exact sp_pF (xc_tide_d X g hx k2 hK.1 hn0 hS.2.1) (mc_tide_d X g hx k3 hK.1 hn0 hS.2.2.1) (by omega) (by omega) h
  have hdm : dm < 60 := by have := hS.1; omega
  refine sp_pF (xc_tide_e X g hx k2 hK.1 hn0 hS.2.1 hdm) (mc_tide_e X (sp_dx g dm (sp_td n x (sp_sv g 41 42))) hx k3 hK.1 hn0 hS.2.2.1 hdm) (by omega) (by omega) ?_
  exact h.deed hK hS hP hdm (sp_td_c (fun j hj => by rw [sp_drv j hj, sp_nowv hS j hj]) hK.1) ((sp_oB.td (sp_nowx hS) hK.1 (by omega) (by omega)).le (by omega) (by omega))
theorem pr_storm {X : sp_X} {g : sp_G} (h : sp_Rel g) (x : Int32) : sp_Pi X 61 182 [.int x] g := by
  obtain ⟨hF, hR, hT, n, dm, hK, hS, hP⟩ := id h
  rcases sp_cls x with hx | ⟨x, hxb, rfl⟩
  · exact sp_pF (xc_storm_a X g hx) (mc_storm_a X g hx) (by omega) (by omega) h
  by_cases hx : x < 2
  rotate_left
  · exact sp_pF (xc_storm_b X g (by omega) hxb) (mc_storm_b X g (by omega) hxb) (by omega) (by omega) h
  rcases sp_n0 hK with ⟨z1, z2⟩ | ⟨hn0, k2, k3⟩
  · exact sp_pF (xc_storm_c X g hx z1 hS.2.1) (mc_storm_c X g hx z2 hS.2.2.1) (by omega) (by omega) h
  by_cases hd : dm = 60
  · subst hd
    exact sp_pF (xc_storm_d X g hx k2 hK.1 hn0 hS.2.1) (mc_storm_d X g hx k3 hK.1 hn0 hS.2.2.1) (by omega) (by omega) h
  have hdm : dm < 60 := by have := hS.1; omega
  have hok : ∀ w, sp_ok n (dm + 1) (sp_sm n w (sp_sv g 41 42)) := fun w => (sp_oB.sm (w := w) (sp_nowx hS) hK.1 hn0 (by omega) (by omega)).le (by omega) (by omega)
  have hso : ∀ w, sp_so n w (sp_pv (sp_dr (sp_dx g dm (sp_sm n w (sp_sv g 41 42))) dm) 0) = sp_so n w (sp_sv g 41 42) := fun w => by
    unfold sp_so
    rw [sp_drv 0 (by omega), sp_drv (n - 1) (by have := hK.1; omega), sp_nowv hS 0 (by omega), sp_nowv hS (n - 1) (by have := hK.1; omega)]
  rcases (show x = 0 ∨ x = 1 by omega) with rfl | rfl
  · have hm := mc_storm_e0 X (sp_dx g dm (sp_sm n 0 (sp_sv g 41 42))) k3 hK.1 hn0 hS.2.2.1 hdm
    rw [hso 0] at hm
    refine sp_pF (xc_storm_e0 X g k2 hK.1 hn0 hS.2.1 hdm) hm (by omega) (by omega) ?_
    exact h.deed hK hS hP hdm (sp_sm_c (fun j hj => by rw [sp_drv j hj, sp_nowv hS j hj]) hK.1 hn0) (hok 0)
  · have hm := mc_storm_e1 X (sp_dx g dm (sp_sm n 1 (sp_sv g 41 42))) k3 hK.1 hn0 hS.2.2.1 hdm
    rw [hso 1] at hm
    refine sp_pF (xc_storm_e1 X g k2 hK.1 hn0 hS.2.1 hdm) hm (by omega) (by omega) ?_
    exact h.deed hK hS hP hdm (sp_sm_c (fun j hj => by rw [sp_drv j hj, sp_nowv hS j hj]) hK.1 hn0) (hok 1)
theorem pr_dig {X : sp_X} {g : sp_G} (h : sp_Rel g) (i : Int32) : sp_Pi X 64 184 [.int i] g := by
  obtain ⟨hF, hR, hT, n, dm, hK, hS, hP⟩ := id h
  obtain ⟨k1, k2, k3, k4⟩ := id hK
  rcases sp_cls i with hi | ⟨i, hib, rfl⟩
  · exact sp_pF (xc_dig_a X g hi) (mc_dig_a X g hi k3) (by omega) (by omega) h
  by_cases hin : i < n
  rotate_left
  · exact sp_pF (xc_dig_b X g hib k2 k1 (by omega)) (mc_dig_b X g hib k3 k1 (by omega)) (by omega) (by omega) h
  by_cases hd : dm = 60
  · subst hd
    exact sp_pF (xc_dig_d X g (by omega) k2 k1 hin hS.2.1) (mc_dig_d X g (by omega) k3 k1 hin hS.2.2.1) (by omega) (by omega) h
  have hdm : dm < 60 := by have := hS.1; omega
  obtain ⟨s, hs9, s1, s2⟩ := hS.2.2.2.1
  have hm := mc_dig_e X (sp_dx g dm (sp_mv (sp_sv g 41 42) i 6 (nI s))) (by omega) k3 k1 hin hS.2.2.1 hdm s2
  rw [sp_drv i (by omega), ← sp_nowv hS i (by omega)] at hm
  refine sp_pF (xc_dig_e X g (by omega) k2 k1 hin hS.2.1 hdm s1) hm (by omega) (by omega) ?_
  exact h.deed hK hS hP hdm (sp_mv_c (fun j hj => by rw [sp_drv j hj, sp_nowv hS j hj]) (by omega) (by omega) _) ((sp_oB.mv (sp_nowx hS) k1 (Or.inl hin) (Or.inr rfl) (by omega) (by omega) (by omega) (by omega)).le (by omega) (by omega))
