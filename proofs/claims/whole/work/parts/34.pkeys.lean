theorem sp_kkx {g : sp_G} {n : Nat} (hK : sp_RK n g) : sp_kk g 19 n := fun i hi => by
  obtain ⟨⟨a1, k, hk, a2⟩, -⟩ := hK.2.2.2 i hi
  exact ⟨k, hk, a1.trans a2⟩
theorem sp_kkm {g : sp_G} {n : Nat} (hK : sp_RK n g) : sp_kk g 71 n := fun i hi => by
  obtain ⟨⟨a1, k, hk, a2⟩, -⟩ := hK.2.2.2 i hi
  exact ⟨k, hk, a2⟩
theorem sp_stE {g : sp_G} {n dm : Nat} (hK : sp_RK n g) (hS : sp_RS n dm g) : sp_st (fun i => sp_cb (g.1 19 i) (g.1 20 i) (g.1 42 i)) n = sp_st (fun i => sp_cb (g.1 71 i) (g.1 72 i) (g.1 75 (9 * 0 + i))) n := sp_st_c (fun i hi => sp_cbE hK hS hi)
theorem sp_onE {g : sp_G} {n dm i : Nat} (hS : sp_RS n dm g) (hi : i < 6) : g.1 42 i = g.1 75 (9 * 0 + i) := by
  have e := sp_nowv hS i (by omega)
  rw [show sp_sv g 41 42 i = g.1 42 i from if_pos hi] at e
  rw [e, show 9 * 0 + i = i by omega]
theorem pr_can {X : sp_X} {g : sp_G} (h : sp_Rel g) : sp_Pi X 68 186 [] g := by
  obtain ⟨hF, hR, hT, n, dm, hK, hS, hP⟩ := id h
  exact sp_pF (xc_can X g hK.2.1 hK.1 (sp_kkx hK)) (by rw [sp_stE hK hS]; exact mc_can X g hK.2.2.1 hK.1 (sp_kkm hK)) (by omega) (by omega) h
theorem pr_spade {X : sp_X} {g : sp_G} (h : sp_Rel g) (v : Int32) : sp_Pi X 52 172 [.int v] g := by
  obtain ⟨hF, hR, hT, n, dm, hK, hS, hP⟩ := id h
  rcases sp_cls v with hv | ⟨v, hvb, rfl⟩
  · exact sp_pF (xc_spade_a X g hv) (mc_spade_a X g hv) (by omega) (by omega) h
  by_cases h1 : 1 ≤ v
  rotate_left
  · obtain rfl : v = 0 := by omega
    exact sp_pF (xc_spade_b X g) (mc_spade_b X g) (by omega) (by omega) h
  by_cases hv : v < 10
  rotate_left
  · exact sp_pF (xc_spade_c X g (by omega) hvb) (mc_spade_c X g (by omega) hvb) (by omega) (by omega) h
  rcases sp_n0 hK with ⟨z1, z2⟩ | ⟨hn0, k2, k3⟩
  · exact sp_pF (xc_spade_d X g hv h1 z1) (mc_spade_d X g hv h1 z2) (by omega) (by omega) h
  obtain ⟨s, hs9, s1, s2⟩ := hS.2.2.2.1
  have hm := mc_spade_e X (sp_wI g 47 2 (nI v)) hv h1 k3 hK.1 hn0
  rw [show (sp_wI g 47 2 (nI v)).1 64 10 = g.1 47 2 from s2.trans s1.symm] at hm
  refine sp_pF (xc_spade_e X g hv h1 k2 hK.1 hn0) hm (by omega) (by omega) ?_
  have kk : ∀ q, q ≠ 5 → sp_kp q g (sp_wI (sp_wI g 47 2 (nI v)) 64 10 (nI v)) := fun q hq => by
    refine sp_kp.wI (sp_kp.wI sp_kp.rf ?_) ?_ <;> exact hq.symm
  obtain ⟨h1, h2, h3, h4, h5, h6, h7, h8⟩ := hS
  exact ⟨sp_RFk h (kk 1 (by decide)) rfl, h.2.1.kp (kk 2 (by decide)), h.2.2.1.kp (kk 3 (by decide)), n, dm, hK.kp (kk 4 (by decide)), ⟨h1, h2, h3, ⟨v, by omega, rfl, rfl⟩, h5, h6, h7, h8⟩, hP.kp (kk 6 (by decide))⟩
theorem pr_key {X : sp_X} {g : sp_G} (h : sp_Rel g) (i w : Int32) : sp_Pi X 42 161 [.int i, .int w] g := by
  obtain ⟨hF, hR, hT, n, dm, hK, hS, hP⟩ := id h
  obtain ⟨k1, k2, k3, k4⟩ := id hK
  rcases sp_cls i with hi | ⟨i, hib, rfl⟩
  · exact sp_pF (xc_key_a X g hi w k2) (mc_key_a X g hi w k3) (by omega) (by omega) h
  by_cases hin : i < n
  rotate_left
  · exact sp_pF (xc_key_b X g hib w k2 k1 (by omega)) (mc_key_b X g hib w k3 k1 (by omega)) (by omega) (by omega) h
  rcases sp_cls w with hw | ⟨w, hwb, rfl⟩
  · exact sp_pF (xc_key_c X g (by omega) hw k2 k1 hin) (mc_key_c X g (by omega) hw k3 k1 hin) (by omega) (by omega) h
  by_cases hw : w < 5
  rotate_left
  · exact sp_pF (xc_key_d X g (by omega) (by omega) hwb k2 k1 hin) (mc_key_d X g (by omega) (by omega) hwb k3 k1 hin) (by omega) (by omega) h
  obtain ⟨⟨a1, k, hk5, a2⟩, ⟨a3, -⟩, ⟨a4, -⟩⟩ := k4 i hin
  have a19 : g.1 19 i = nI k := a1.trans a2
  rcases (show w = 0 ∨ w = 1 ∨ w = 2 ∨ w = 3 ∨ w = 4 by omega) with rfl | rfl | rfl | rfl | rfl
  · exact sp_pF (xc_key_e0 X g (by omega) k2 k1 hin) (mc_key_e0 X _ (by omega) k3 k1 hin) (by omega) (by omega) (h.told a1)
  · exact sp_pF (xc_key_e1 X g (by omega) k2 k1 hin) (mc_key_e1 X _ (by omega) k3 k1 hin) (by omega) (by omega) (h.told a3)
  · exact sp_pF (xc_key_e2 X g (by omega) k2 k1 hin) (mc_key_e2 X _ (by omega) k3 k1 hin) (by omega) (by omega) (h.told (sp_onE hS (by omega)))
  · exact sp_pF (xc_key_e3 X g (by omega) k2 k1 hin) (mc_key_e3 X _ (by omega) k3 k1 hin) (by omega) (by omega) (h.told a4)
  · by_cases hcb : sp_cb (g.1 71 i) (g.1 72 i) (g.1 75 (9 * 0 + i)) = true
    · exact sp_pF (xc_key_e4T X g (by omega) k2 k1 hin a19 hk5 (by rw [sp_cbE hK hS hin]; exact hcb)) (mc_key_e4T X (sp_wI g 0 12 (nI 1)) (by omega) k3 k1 hin a2 hk5 hcb) (by omega) (by omega) (h.told rfl)
    · exact sp_pF (xc_key_e4F X g (by omega) k2 k1 hin a19 hk5 (by rw [sp_cbE hK hS hin]; exact hcb)) (mc_key_e4F X (sp_wI g 0 12 (nI 0)) (by omega) k3 k1 hin a2 hk5 hcb) (by omega) (by omega) (h.told rfl)
theorem pr_mark {X : sp_X} {g : sp_G} (h : sp_Rel g) (i w : Int32) : sp_Pi X 46 166 [.int i, .int w] g := by
  obtain ⟨hF, hR, hT, n, dm, hK, hS, hP⟩ := id h
  obtain ⟨k1, k2, k3, k4⟩ := id hK
  rcases sp_cls i with hi | ⟨i, hib, rfl⟩
  · exact sp_pF (xc_mark_a X g hi w k2) (mc_mark_a X g hi w k3) (by omega) (by omega) h
  by_cases hin : i < n
  rotate_left
  · exact sp_pF (xc_mark_b X g hib w k2 k1 (by omega)) (mc_mark_b X g hib w k3 k1 (by omega)) (by omega) (by omega) h
  rcases sp_cls w with hw | ⟨w, hwb, rfl⟩
  · exact sp_pF (xc_mark_c X g (by omega) hw k2 k1 hin) (mc_mark_c X g (by omega) hw k3 k1 hin) (by omega) (by omega) h
  by_cases hw0 : w = 0
  · subst hw0
    exact sp_pF (xc_mark_c0 X g (by omega) k2 k1 hin) (mc_mark_c0 X g (by omega) k3 k1 hin) (by omega) (by omega) h
  by_cases hw : w < 6
  rotate_left
  · exact sp_pF (xc_mark_d X g (by omega) (by omega) hwb k2 k1 hin) (mc_mark_d X g (by omega) (by omega) hwb k3 k1 hin) (by omega) (by omega) h
  obtain ⟨⟨a1, k, hk5, a2⟩, ⟨a3, -⟩, ⟨a4, -⟩⟩ := k4 i hin
  have a19 : g.1 19 i = nI k := a1.trans a2
  have h6 : i < 6 := by omega
  have eon := sp_onE hS h6
  rcases (show w = 1 ∨ w = 2 ∨ w = 3 ∨ w = 4 ∨ w = 5 by omega) with rfl | rfl | rfl | rfl | rfl <;> rcases (show k = 0 ∨ k = 1 ∨ k = 2 ∨ k = 3 ∨ k = 4 ∨ k = 5 by omega) with rfl | rfl | rfl | rfl | rfl | rfl
  · exact sp_pF (xc_mark_r01 X g h6 k2 k1 hin a19) (mc_mark_r01 X _ h6 k3 k1 hin a2) (by omega) (by omega) (h.ref (by omega))
  · have hx := xc_mark_11 X g h6 k2 k1 hin a19
    rw [sp_lo_min, eon] at hx
    exact sp_pF hx (mc_mark_11 X g h6 k3 k1 hin a2) (by omega) (by omega) h
  · exact sp_pF (xc_mark_r21 X g h6 k2 k1 hin a19) (mc_mark_r21 X _ h6 k3 k1 hin a2) (by omega) (by omega) (h.ref (by omega))
  · exact sp_pF (xc_mark_r31 X g h6 k2 k1 hin a19) (mc_mark_r31 X _ h6 k3 k1 hin a2) (by omega) (by omega) (h.ref (by omega))
  · have hx := xc_mark_41 X g h6 k2 k1 hin a19
    rw [sp_lo_min, eon] at hx
    exact sp_pF hx (mc_mark_41 X g h6 k3 k1 hin a2) (by omega) (by omega) h
  · exact sp_pF (xc_mark_r51 X g h6 k2 k1 hin a19) (mc_mark_r51 X _ h6 k3 k1 hin a2) (by omega) (by omega) (h.ref (by omega))
  · exact sp_pF (xc_mark_r02 X g h6 k2 k1 hin a19) (mc_mark_r02 X _ h6 k3 k1 hin a2) (by omega) (by omega) (h.ref (by omega))
  · exact sp_pF (xc_mark_r12 X g h6 k2 k1 hin a19) (mc_mark_r12 X _ h6 k3 k1 hin a2) (by omega) (by omega) (h.ref (by omega))
  · have hx := xc_mark_22 X g h6 k2 k1 hin a19
    rw [sp_hi_max, eon, a3] at hx
    exact sp_pF hx (mc_mark_22 X g h6 k3 k1 hin a2) (by omega) (by omega) h
  · exact sp_pF (xc_mark_r32 X g h6 k2 k1 hin a19) (mc_mark_r32 X _ h6 k3 k1 hin a2) (by omega) (by omega) (h.ref (by omega))
  · exact sp_pF (xc_mark_r42 X g h6 k2 k1 hin a19) (mc_mark_r42 X _ h6 k3 k1 hin a2) (by omega) (by omega) (h.ref (by omega))
  · have hx := xc_mark_52 X g h6 k2 k1 hin a19
    rw [sp_hi_max, eon, a3] at hx
    exact sp_pF hx (mc_mark_52 X g h6 k3 k1 hin a2) (by omega) (by omega) h
  · exact sp_pF (xc_mark_r03 X g h6 k2 k1 hin a19) (mc_mark_r03 X _ h6 k3 k1 hin a2) (by omega) (by omega) (h.ref (by omega))
  · exact sp_pF (xc_mark_r13 X g h6 k2 k1 hin a19) (mc_mark_r13 X _ h6 k3 k1 hin a2) (by omega) (by omega) (h.ref (by omega))
  · exact sp_pF (xc_mark_r23 X g h6 k2 k1 hin a19) (mc_mark_r23 X _ h6 k3 k1 hin a2) (by omega) (by omega) (h.ref (by omega))
  · rcases Nat.eq_zero_or_pos i with e | hi0
    · subst e
      have hx := xc_mark_330 X g k2 k1 hin a19
      rw [show g.1 41 1 = g.1 75 (9 * 0 + 6) from sp_nowv hS 6 (by omega)] at hx
      exact sp_pF hx (mc_mark_330 X g k3 k1 hin a2) (by omega) (by omega) h
    · have hx := xc_mark_331 X g h6 k2 k1 hin hi0 a19
      rw [sp_onE hS (show i - 1 < 6 by omega)] at hx
      exact sp_pF hx (mc_mark_331 X g h6 k3 k1 hin hi0 a2) (by omega) (by omega) h
  · exact sp_pF (xc_mark_r43 X g h6 k2 k1 hin a19) (mc_mark_r43 X _ h6 k3 k1 hin a2) (by omega) (by omega) (h.ref (by omega))
  · exact sp_pF (xc_mark_r53 X g h6 k2 k1 hin a19) (mc_mark_r53 X _ h6 k3 k1 hin a2) (by omega) (by omega) (h.ref (by omega))
  · exact sp_pF (xc_mark_r04 X g h6 k2 k1 hin a19) (mc_mark_r04 X _ h6 k3 k1 hin a2) (by omega) (by omega) (h.ref (by omega))
  · exact sp_pF (xc_mark_r14 X g h6 k2 k1 hin a19) (mc_mark_r14 X _ h6 k3 k1 hin a2) (by omega) (by omega) (h.ref (by omega))
  · exact sp_pF (xc_mark_r24 X g h6 k2 k1 hin a19) (mc_mark_r24 X _ h6 k3 k1 hin a2) (by omega) (by omega) (h.ref (by omega))
  · exact sp_pF (xc_mark_r34 X g h6 k2 k1 hin a19) (mc_mark_r34 X _ h6 k3 k1 hin a2) (by omega) (by omega) (h.ref (by omega))
  · exact sp_pF (xc_mark_44 X g h6 k2 k1 hin a19) (mc_mark_44 X g h6 k3 k1 hin a2) (by omega) (by omega) h
  · exact sp_pF (xc_mark_r54 X g h6 k2 k1 hin a19) (mc_mark_r54 X _ h6 k3 k1 hin a2) (by omega) (by omega) (h.ref (by omega))
  · exact sp_pF (xc_mark_r05 X g h6 k2 k1 hin a19) (mc_mark_r05 X _ h6 k3 k1 hin a2) (by omega) (by omega) (h.ref (by omega))
  · exact sp_pF (xc_mark_r15 X g h6 k2 k1 hin a19) (mc_mark_r15 X _ h6 k3 k1 hin a2) (by omega) (by omega) (h.ref (by omega))
  · exact sp_pF (xc_mark_r25 X g h6 k2 k1 hin a19) (mc_mark_r25 X _ h6 k3 k1 hin a2) (by omega) (by omega) (h.ref (by omega))
  · exact sp_pF (xc_mark_r35 X g h6 k2 k1 hin a19) (mc_mark_r35 X _ h6 k3 k1 hin a2) (by omega) (by omega) (h.ref (by omega))
  · exact sp_pF (xc_mark_r45 X g h6 k2 k1 hin a19) (mc_mark_r45 X _ h6 k3 k1 hin a2) (by omega) (by omega) (h.ref (by omega))
  · have hx := xc_mark_55 X g h6 k2 k1 hin a19 (sp_kkx hK)
    rw [sp_stE hK hS] at hx
    exact sp_pF hx (mc_mark_55 X g h6 k3 k1 hin a2 (sp_kkm hK)) (by omega) (by omega) h
