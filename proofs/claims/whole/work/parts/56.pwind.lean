theorem sp_wt_in (S : Nat → Nat) : ∀ m t, t ≤ sp_wt S m t ∧ sp_wt S m t ≤ t + m ∧ ∀ j, t ≤ j → j < sp_wt S m t → S j ≠ 0
  | 0, t => ⟨Nat.le_refl _, Nat.le_refl _, fun j h1 h2 => absurd h2 (by show ¬ j < t; omega)⟩
  | m + 1, t => by
    have ih := sp_wt_in S m (t + 1)
    by_cases h : S t = 0
    · have e : sp_wt S (m + 1) t = t := if_pos h
      rw [e]
      exact ⟨Nat.le_refl _, by omega, fun j h1 h2 => absurd h2 (by omega)⟩
    · have e : sp_wt S (m + 1) t = sp_wt S m (t + 1) := if_neg h
      rw [e]
      refine ⟨by omega, by omega, fun j h1 h2 => ?_⟩
      by_cases ej : j = t
      · subst ej; exact h
      · exact ih.2.2 j (by omega) h2
theorem sp_sq_ok {n dm : Nat} {K T P : Nat → Int32} {p : Nat × (Nat → Int32)} (hn : n ≤ 6) (h0 : sp_oB n (99 + 9 * dm) (700 * dm) p.2) : ∀ t, dm + t ≤ 60 → (∀ j, j < t → sp_set n K T (sp_sq n K T P p j).2 ≠ 0) → sp_oB n (99 + 9 * (dm + t)) (700 * (dm + t)) (sp_sq n K T P p t).2
  | 0, _, _ => by rw [Nat.add_zero]; exact h0
  | t + 1, ht, hj => by
    have ih := sp_sq_ok hn h0 t (by omega) (fun j q => hj j (by omega))
    have hSs : sp_set n K T (sp_sq n K T P p t).2 < 64 := sp_set64 hn
    have hpc : sp_pc (sp_set n K T (sp_sq n K T P p t).2) ≠ 0 := fun e => hj t (by omega) ((sp_pc0 _ hSs).mp e)
    obtain ⟨hb6, hbit⟩ := sp_bb_in (sp_set n K T (sp_sq n K T P p t).2) 6 0 ((sp_sq n K T P p t).1 * 48271 % 2147483647 % sp_pc (sp_set n K T (sp_sq n K T P p t).2)) (by rw [sp_rc_pc _ hSs]; exact Nat.mod_lt _ (by omega))
    rw [sp_set_bit] at hbit
    refine sp_oB.le (sp_oB.pl (K := K) (P := P) ih hn (i := sp_bb (sp_set n K T (sp_sq n K T P p t).2) 6 0 ((sp_sq n K T P p t).1 * 48271 % 2147483647 % sp_pc (sp_set n K T (sp_sq n K T P p t).2))) ?_ (by omega) (by omega)) (by omega) (by omega)
    by_cases e : sp_bb (sp_set n K T (sp_sq n K T P p t).2) 6 0 ((sp_sq n K T P p t).1 * 48271 % 2147483647 % sp_pc (sp_set n K T (sp_sq n K T P p t).2)) < n
    · exact e
    · rw [if_neg (fun z => e z.1)] at hbit; exact absurd hbit (by decide)
theorem sp_Rel.wind {g g1 g2 : sp_G} {n dm r : Nat} {Q : Nat → Nat × (Nat → Int32)} (h : sp_Rel g) (hK : sp_RK n g) (hS : sp_RS n dm g) (hP : sp_RP n g) (hr : dm + r ≤ 60) (h0 : (Q 0).2 = g.1 75) (hx : sp_wx g g1 dm Q r) (hm : sp_wm g1 g2 dm Q r) (hok : ∀ t, t ≤ r → sp_oB n (99 + 9 * (dm + t)) (700 * (dm + t)) (Q t).2) : sp_Rel g2 := by
  obtain ⟨x1, x2, x3, x4, x5, x6, x7⟩ := hx
  obtain ⟨m1, m2, m3, m4, m5, m6, m7⟩ := hm
  obtain ⟨hF, hR, hT, -⟩ := id h
  obtain ⟨s1, s2, s3, ⟨sp, sp1, sp2, sp3⟩, s5, s6, s7, s8⟩ := hS
  have e48 : g2.1 48 = g1.1 48 := m1 48 (by decide) (by decide) (by decide)
  have e47 : g2.1 47 = g1.1 47 := m1 47 (by decide) (by decide) (by decide)
  have e76 : g1.1 76 = g.1 76 := x1 76 (by decide) (by decide) (by decide) (by decide)
  have e64 : g1.1 64 = g.1 64 := x1 64 (by decide) (by decide) (by decide) (by decide)
  have e75 : ∀ i, i < 9 → g2.1 75 i = (Q r).2 i := fun i hi => by
    have := m5 i hi
    rw [← this]
    exact congrArg (g2.1 75) (show i = 9 * 0 + i by omega)
  have kk : ∀ p, p ≠ 5 → p ≠ 0 → sp_kp p g g2 := fun p hp hp0 c j hcj => by
    by_cases c1 : c = 64
    · subst c1
      rw [m2 j (fun e => hp (by rw [← hcj, e]; rfl)), e64]
    by_cases c2 : c = 75
    · subst c2
      have : sp_cl6 75 j = if j < 9 then 5 else 0 := rfl
      rw [this] at hcj
      by_cases hj : j < 9
      · rw [if_pos hj] at hcj; omega
      · rw [if_neg hj] at hcj; omega
    by_cases c3 : c = 76
    · subst c3; exact absurd hcj.symm hp
    rw [m1 c c1 c2 c3]
    by_cases c4 : c = 41
    · subst c4; exact absurd hcj.symm hp
    by_cases c5 : c = 42
    · subst c5; exact absurd hcj.symm hp
    by_cases c6 : c = 47
    · subst c6
      have : sp_cl6 47 j = if j = 1 ∨ j = 2 then 5 else 0 := rfl
      rw [this] at hcj
      by_cases hj : j = 1 ∨ j = 2
      · rw [if_pos hj] at hcj; omega
      · rw [if_neg hj] at hcj; omega
    by_cases c7 : c = 48
    · subst c7; exact absurd hcj.symm hp
    rw [x1 c c4 c5 c6 c7]
  refine ⟨sp_RFk h (kk 1 (by decide) (by decide)) (m3.trans x3), hR.kp (kk 2 (by decide) (by decide)), hT.kp (kk 3 (by decide) (by decide)), n, dm + r, hK.kp (kk 4 (by decide) (by decide)), ⟨hr, ?_, m4, ⟨sp, sp1, ?_, ?_⟩, fun j hj => ?_, fun j hj i hi => ?_, fun i hi => ?_, fun j hj => ?_⟩, hP.kp (kk 6 (by decide) (by decide))⟩
  · rw [e47]; exact x4
  · rw [e47, x2 2 (by decide)]; exact sp2
  · rw [m2 10 (by decide), e64]; exact sp3
  · rw [e75 j hj, ← x5 j hj]
    unfold sp_sv
    rw [m1 41 (by decide) (by decide) (by decide), m1 42 (by decide) (by decide) (by decide)]
  · rw [e48]
    by_cases h1 : j < dm
    · rw [x6 _ (by omega), m6 _ (by omega), e76]; exact s6 j h1 i hi
    by_cases h2 : j = dm
    · subst h2
      rw [x6 _ (by omega), s7 i hi]
      have := m7 0 (by omega) i hi
      rw [Nat.add_zero, h0] at this
      exact this.symm
    · obtain ⟨t, rfl⟩ : ∃ t, j = dm + t := ⟨j - dm, by omega⟩
      rw [x7 t (by omega) (by omega) i hi, m7 t (by omega) i hi]
  · rw [e48, e75 i hi]
    by_cases h2 : r = 0
    · subst h2
      rw [x6 _ (by omega), h0]; exact s7 i hi
    · exact x7 r (by omega) (Nat.le_refl _) i hi
  · rw [e48]
    by_cases h1 : j ≤ dm
    · exact (s8 j h1).congr (fun i hi => by show g1.1 48 (9 * j + i) = _; rw [x6 _ (by omega)])
    · obtain ⟨t, rfl⟩ : ∃ t, j = dm + t := ⟨j - dm, by omega⟩
      exact sp_ok.congr (hok t (by omega)) (fun i hi => by show g1.1 48 (9 * (dm + t) + i) = _; rw [x7 t (by omega) (by omega) i hi])
theorem sp_wx.rd {g g1 : sp_G} {dm r : Nat} {Q : Nat → Nat × (Nat → Int32)} (hx : sp_wx g g1 dm Q r) {c : Nat} (h : 49 ≤ c) : g1.1 c = g.1 c := hx.1 c (by omega) (by omega) (by omega) (by omega)
theorem pr_wind {X : sp_X} {g : sp_G} (h : sp_Rel g) (q s : Int32) : sp_Pi X 118 221 [.int q, .int s] g := by
  obtain ⟨hF, hR, hT, n, dm, hK, hS, hP⟩ := id h
  obtain ⟨k1, k2, k3, k4⟩ := id hK
  have hS1 := hS.1
  rcases sp_cls q with hq | ⟨q, hqb, rfl⟩
  · exact sp_pF (xc_wind_a X g hq s) (mc_wind_a X g hq s) (by omega) (by omega) h
  by_cases hq0 : q = 0
  · subst hq0
    exact sp_pF (xc_wind_a0 X g s) (mc_wind_a0 X g s) (by omega) (by omega) h
  by_cases hq : q ≤ 60
  rotate_left
  · exact sp_pF (xc_wind_b X g (by omega) hqb s) (mc_wind_b X g (by omega) hqb s) (by omega) (by omega) h
  rcases sp_cls s with hs | ⟨s, hsb, rfl⟩
  · exact sp_pF (xc_wind_c X g (by omega) hq hs) (mc_wind_c X g (by omega) hq hs) (by omega) (by omega) h
  by_cases hs0 : s = 0
  · subst hs0
    exact sp_pF (xc_wind_c0 X g (by omega) hq) (mc_wind_c0 X g (by omega) hq) (by omega) (by omega) h
  by_cases hs : s < 2147483647
  rotate_left
  · have e : s = 2147483647 := by omega
    subst e
    exact sp_pF (xc_wind_d X g (by omega) hq) (mc_wind_d X g (by omega) hq) (by omega) (by omega) h
  rcases sp_n0 hK with ⟨z1, z2⟩ | ⟨hn0, -, -⟩
  · exact sp_pF (xc_wind_s X g (by omega) hq (by omega) hs z1) (mc_wind_s X g (by omega) hq (by omega) hs z2) (by omega) (by omega) h
  by_cases hf : dm + q ≤ 60
  rotate_left
  · exact sp_pF (xc_wind_f X g (by omega) hq (by omega) hs k2 hn0 k1 hS.2.1 hS1 (by omega)) (mc_wind_f X g (by omega) hq (by omega) hs k3 hn0 k1 hS.2.2.1 hS1 (by omega)) (by omega) (by omega) h
  refine ⟨8, _, by omega, xc_wind_e X g (by omega) hq (by omega) hs k2 hn0 k1 hS.2.1 hS1 hf (sp_Rel.KX hK) hS.hS (sp_nowk hS), fun v g1 q1 => ?_⟩
  obtain ⟨rfl, ax⟩ := q1
  have hKM : sp_KM n (g.1 71) (g.1 72) (g.1 73) g1 := by
    have := sp_Rel.KM hK
    unfold sp_KM at this ⊢
    rw [ax.rd (by omega), ax.rd (by omega), ax.rd (by omega), ax.rd (by omega)]
    exact this
  have hv1 : sp_hP g1 0 (g.1 75) := fun j hj => by
    show g1.1 75 (9 * 0 + j) = _
    rw [ax.rd (by omega), show 9 * 0 + j = j by omega]
  refine ⟨8, _, by omega, mc_wind_e X g1 (by omega) hq (by omega) hs hKM.1 hn0 k1 (by rw [ax.rd (by omega)]; exact hS.2.2.1) hS1 hf hKM hv1 (sp_nowk hS), fun v g2 q2 => ?_⟩
  obtain ⟨rfl, am⟩ := q2
  refine ⟨rfl, ?_⟩
  obtain ⟨w1, w2, w3⟩ := sp_wt_in (fun t => sp_set n (g.1 71) (g.1 72) (sp_sq n (g.1 71) (g.1 72) (g.1 73) (s, g.1 75) t).2) q 0
  exact h.wind hK hS hP (by omega) rfl ax am (fun t ht => sp_sq_ok (dm := dm) (p := (s, g.1 75)) k1 (sp_nowk hS) t (by omega) (fun j hj => w3 j (by omega) (by omega)))
