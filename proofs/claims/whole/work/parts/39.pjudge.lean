/-! a row as a piece: what the relation says of it on both sides -/
theorem sp_rowF {g : sp_G} (h : sp_Rel g) {r : Nat} (hr : r < 6) : ∀ i, i < 40 → g.1 (3 + r) i = g.1 67 (40 * r + i) := fun i hi => ((h.2.1 r hr).2.2 i hi)
theorem sp_ks_c {f f' : Nat → Int32} {n z : Nat} (h : sp_ks f n z) (e : ∀ i, i < z → f i = f' i) : sp_ks f' n z := fun i hi => by
  obtain ⟨a, h1, h2⟩ := h i hi
  exact ⟨a, h1, by rw [← e i hi]; exact h2⟩
theorem sp_pcs {g : sp_G} (h : sp_Rel g) {r n : Nat} (hr : r < 6) (hK : sp_RK n g) : (g.1 9 r = -1 ∧ g.1 66 r = -1) ∨ ∃ z, z ≤ 40 ∧ g.1 9 r = nI z ∧ g.1 66 r = nI z ∧ (12 < z ∨ (z ≤ 12 ∧ ((∃ b, b < z ∧ sp_ks (fun i => g.1 (3 + r) i) n b ∧ sp_ks (fun i => g.1 67 (40 * r + i)) n b ∧ sp_bk (g.1 (3 + r) b) n ∧ sp_bk (g.1 67 (40 * r + b)) n) ∨ (sp_ks (fun i => g.1 (3 + r) i) n z ∧ sp_ks (fun i => g.1 67 (40 * r + i)) n z)))) := by
  rcases sp_rowsz h hr with e | ⟨z, z1, z2, z3⟩
  · exact Or.inl e
  refine Or.inr ⟨z, z1, z2, z3, ?_⟩
  by_cases hz : 12 < z
  · exact Or.inl hz
  refine Or.inr ⟨by omega, ?_⟩
  have e := sp_rowF h hr
  rcases sp_ks_or (fun i => g.1 (3 + r) i) n z with k | ⟨b, b1, b2, b3⟩
  · exact Or.inr ⟨k, sp_ks_c k (fun i hi => e i (by omega))⟩
  · exact Or.inl ⟨b, b1, b2, sp_ks_c b2 (fun i hi => e i (by omega)), b3, by rw [← e b (by omega)]; exact b3⟩
/-- cells that nobody asks for -/
theorem sp_kpS {g : sp_G} {s o : Nat} {v : Nat → Int32} (h : (s = 43 ∧ o = 44) ∨ (s = 45 ∧ o = 46) ∨ ∃ k, k < 7 ∧ s = 23 + k ∧ o = 30 + k) {p : Nat} (hp : p ≠ 0) : sp_kp p g (sp_sS g s o v) := fun c j hcj => by
  have hso : (s = 43 ∨ s = 45 ∨ (23 ≤ s ∧ s ≤ 36)) ∧ (o = 44 ∨ o = 46 ∨ (23 ≤ o ∧ o ≤ 36)) := by
    rcases h with ⟨h1, h2⟩ | ⟨h1, h2⟩ | ⟨k, h1, h2, h3⟩ <;> omega
  clear h
  have c0 : ∀ c, (c = 43 ∨ c = 44 ∨ c = 45 ∨ c = 46 ∨ (23 ≤ c ∧ c ≤ 36)) → sp_cl6 c j = 0 := fun c hc => by
    unfold sp_cl6
    rw [if_neg (by omega), if_neg (by omega), if_neg (by omega), if_neg (by omega), if_neg (by omega), if_neg (by omega), if_neg (by omega), if_neg (by omega), if_neg (by omega), if_neg (by omega), if_neg (by omega), if_neg (by omega), if_neg (by omega), if_neg (by omega), if_neg (by omega), if_neg (by omega), if_neg (by omega), if_neg (by omega), if_neg (by omega)]
  rw [sp_sS_rd, if_neg (fun q => hp (by rw [← hcj]; exact c0 c (by omega))), if_neg (fun q => hp (by rw [← hcj]; exact c0 c (by omega)))]
theorem sp_kpP {g : sp_G} {f : Nat} {v : Nat → Int32} (hf : 0 < f) {p : Nat} (hp : p ≠ 0) : sp_kp p g (sp_sP g f v) := fun c j hcj => by
  rw [sp_sP_rd, if_neg]
  rintro ⟨e1, e2, e3⟩
  subst e1
  apply hp
  rw [← hcj]
  unfold sp_cl6
  simp
  omega
/-- nothing that is asked for changes -/
theorem sp_Rel.K {g g' : sp_G} (h : sp_Rel g) (k : ∀ p, p ≠ 0 → sp_kp p g g') (hl : g'.2 = g.2) : sp_Rel g' := h.F (k 2 (by decide)) (k 3 (by decide)) (k 4 (by decide)) (k 5 (by decide)) (k 6 (by decide)) (sp_RFk h (k 1 (by decide)) hl)
theorem sp_Rel.U {g g' : sp_G} (h : sp_Rel g) (k : ∀ p, 2 ≤ p → sp_kp p g g') (k1 : g'.1 0 11 = g.1 0 11) (k2 : ∀ j, g'.1 63 j = g.1 63 j) (k3 : g'.1 64 0 = g.1 64 0) (k4 : ∀ j, g'.1 65 j = g.1 65 j) (hl : g'.2 = g.2) (e : g'.1 0 12 = g'.1 64 2) : sp_Rel g' := by
  refine h.F (k 2 (by decide)) (k 3 (by decide)) (k 4 (by decide)) (k 5 (by decide)) (k 6 (by decide)) ?_
  obtain ⟨⟨h1, h2, h3, h4, h5⟩, -⟩ := h
  exact ⟨by rw [k1, k3]; exact h1, fun f hf => by rw [k2, k4]; exact h2 f hf, e, by rw [hl]; exact h4, by rw [hl]; exact h5⟩
theorem sp_ppE {g : sp_G} (h : sp_Rel g) {r n dm z : Nat} (hr : r < 6) (hz : z ≤ 12) (hK : sp_RK n g) (hS : sp_RS n dm g) (hks : sp_ks (fun i => g.1 (3 + r) i) n z) : (sp_pp n (g.1 19) (g.1 20) (g.1 21) (fun i => g.1 (3 + r) i) z (sp_sv g 41 42) 0).1 = (sp_pp n (g.1 71) (g.1 72) (g.1 73) (fun i => g.1 67 (40 * r + i)) z (sp_pv g 0) 0).1 ∧ ∀ j, j < 9 → (sp_pp n (g.1 19) (g.1 20) (g.1 21) (fun i => g.1 (3 + r) i) z (sp_sv g 41 42) 0).2 j = (sp_pp n (g.1 71) (g.1 72) (g.1 73) (fun i => g.1 67 (40 * r + i)) z (sp_pv g 0) 0).2 j :=
  sp_pp_c hK.1 (fun a ha => ⟨(hK.2.2.2 a ha).1.1, (hK.2.2.2 a ha).2.1.1, (hK.2.2.2 a ha).2.2.1⟩) z 0 _ _ (by rw [Nat.zero_add]; exact hks) (fun j hj => sp_rowF h hr j (by omega)) (fun j hj => by rw [sp_nowv hS j hj]; show g.1 75 j = g.1 75 (9 * 0 + j); rw [show 9 * 0 + j = j by omega])
theorem pr_judge {X : sp_X} {g : sp_G} (h : sp_Rel g) (r : Int32) : sp_Pi X 72 189 [.int r] g := by
  obtain ⟨hF, hR, hT, n, dm, hK, hS, hP⟩ := id h
  obtain ⟨k1, k2, k3, k4⟩ := id hK
  rcases sp_cls r with hr | ⟨r, hrb, rfl⟩
  · exact sp_pF (xc_judge_a X g hr) (mc_judge_a X g hr) (by omega) (by omega) h
  by_cases hr : r < 6
  rotate_left
  · exact sp_pF (xc_judge_b X g (by omega) hrb) (mc_judge_b X g (by omega) hrb) (by omega) (by omega) h
  rcases sp_pcs h hr hK with ⟨z1, z2⟩ | ⟨z, zb, z1, z2, hz | ⟨hz, ⟨b, b1, b2, b3, b4, b5⟩ | ⟨k5, k6⟩⟩⟩
  · exact sp_pF (xc_judge_r1 X g hr z1) (mc_judge_r1 X (sp_rx g 1) hr z2) (by omega) (by omega) (h.ref (by omega))
  · exact sp_pF (xc_judge_r5 X g hr z1 hz zb) (mc_judge_r5 X (sp_rx g 5) hr z2 hz zb) (by omega) (by omega) (h.ref (by omega))
  · exact sp_pF (xc_judge_r3 X g hr z1 hz k2 k1 b1 b2 b4) (mc_judge_r3 X (sp_rx g 3) hr z2 hz k3 k1 b1 b3 b5) (by omega) (by omega) (h.ref (by omega))
  have hS1 := hS.1
  have hx := xc_judge_e X g hr z1 hz k2 k1 k5 (sp_kkx hK) (sp_nowx hS) (by omega) (by omega)
  obtain ⟨e1, e2⟩ := sp_ppE h hr hz hK hS k5
  have hmv : sp_oB n (99 + 9 * dm) (700 * dm) (sp_pv g 0) := (sp_nowk hS).congr (fun i hi => by show g.1 75 (9 * 0 + i) = _; rw [show 9 * 0 + i = i by omega])
  generalize hV : (sp_pp n (g.1 19) (g.1 20) (g.1 21) (fun i => g.1 (3 + r) i) z (sp_sv g 41 42) 0) = V at hx e1 e2
  have hm := mc_judge_e X (sp_wI (sp_sS g 43 44 V.2) 0 12 ((sp_sS g 43 44 V.2).1 43 1 - g.1 41 1)) hr z2 hz k3 k1 k6 (sp_kkm hK) hmv (by omega) (by omega)
  rw [show sp_pp n ((sp_wI (sp_sS g 43 44 V.2) 0 12 ((sp_sS g 43 44 V.2).1 43 1 - g.1 41 1)).1 71) ((sp_wI (sp_sS g 43 44 V.2) 0 12 ((sp_sS g 43 44 V.2).1 43 1 - g.1 41 1)).1 72) ((sp_wI (sp_sS g 43 44 V.2) 0 12 ((sp_sS g 43 44 V.2).1 43 1 - g.1 41 1)).1 73) (fun i => (sp_wI (sp_sS g 43 44 V.2) 0 12 ((sp_sS g 43 44 V.2).1 43 1 - g.1 41 1)).1 67 (40 * r + i)) z (sp_pv (sp_wI (sp_sS g 43 44 V.2) 0 12 ((sp_sS g 43 44 V.2).1 43 1 - g.1 41 1)) 0) 0 = sp_pp n (g.1 71) (g.1 72) (g.1 73) (fun i => g.1 67 (40 * r + i)) z (sp_pv g 0) 0 from rfl, ← e1] at hm
  refine sp_pF hx hm (by omega) (by omega) ?_
  generalize (sp_pp n (g.1 71) (g.1 72) (g.1 73) (fun i => g.1 67 (40 * r + i)) z (sp_pv g 0) 0) = U at e1 e2
  refine h.U (fun p hp => sp_kp.wI (c := 64) (j := 2) (sp_kp.tr (sp_kp.wI (c := 0) (j := 12) (sp_kpS (Or.inl ⟨rfl, rfl⟩) (by omega)) (show 1 ≠ p by omega)) (sp_kpP (by omega) (by omega))) (show 1 ≠ p by omega)) rfl (fun j => rfl) rfl (fun j => rfl) rfl ?_
  have e6 := sp_nowv hS 6 (by omega)
  show V.2 6 - g.1 41 1 = U.2 6 - g.1 75 6
  rw [e2 6 (by omega), ← e6]
  rfl
theorem pr_earns {X : sp_X} {g : sp_G} (h : sp_Rel g) (r : Int32) : sp_Pi X 75 194 [.int r] g := by
  obtain ⟨hF, hR, hT, n, dm, hK, hS, hP⟩ := id h
  obtain ⟨k1, k2, k3, k4⟩ := id hK
  rcases sp_cls r with hr | ⟨r, hrb, rfl⟩
  · exact sp_pF (xc_earns_a X g hr) (mc_earns_a X g hr) (by omega) (by omega) h
  by_cases hr : r < 6
  rotate_left
  · exact sp_pF (xc_earns_b X g (by omega) hrb) (mc_earns_b X g (by omega) hrb) (by omega) (by omega) h
  rcases sp_pcs h hr hK with ⟨z1, z2⟩ | ⟨z, zb, z1, z2, hz | ⟨hz, ⟨b, b1, b2, b3, b4, b5⟩ | ⟨k5, k6⟩⟩⟩
  · exact sp_pF (xc_earns_r1 X g hr z1) (mc_earns_r1 X (sp_rx g 1) hr z2) (by omega) (by omega) (h.ref (by omega))
  · exact sp_pF (xc_earns_r5 X g hr z1 hz zb) (mc_earns_r5 X (sp_rx g 5) hr z2 hz zb) (by omega) (by omega) (h.ref (by omega))
  · exact sp_pF (xc_earns_r3 X g hr z1 hz k2 k1 b1 b2 b4) (mc_earns_r3 X (sp_rx g 3) hr z2 hz k3 k1 b1 b3 b5) (by omega) (by omega) (h.ref (by omega))
  have hS1 := hS.1
  have hx := xc_earns_e X g hr z1 hz k2 k1 k5 (sp_kkx hK) (sp_nowx hS) (by omega) (by omega)
  obtain ⟨e1, e2⟩ := sp_ppE h hr hz hK hS k5
  have hmv : sp_oB n (99 + 9 * dm) (700 * dm) (sp_pv g 0) := (sp_nowk hS).congr (fun i hi => by show g.1 75 (9 * 0 + i) = _; rw [show 9 * 0 + i = i by omega])
  generalize hV : (sp_pp n (g.1 19) (g.1 20) (g.1 21) (fun i => g.1 (3 + r) i) z (sp_sv g 41 42) 0) = V at hx e1 e2
  have hm := mc_earns_e X (sp_sS g 43 44 V.2) hr z2 hz k3 k1 k6 (sp_kkm hK) hmv (by omega) (by omega)
  rw [show sp_pp n ((sp_sS g 43 44 V.2).1 71) ((sp_sS g 43 44 V.2).1 72) ((sp_sS g 43 44 V.2).1 73) (fun i => (sp_sS g 43 44 V.2).1 67 (40 * r + i)) z (sp_pv (sp_sS g 43 44 V.2) 0) 0 = sp_pp n (g.1 71) (g.1 72) (g.1 73) (fun i => g.1 67 (40 * r + i)) z (sp_pv g 0) 0 from rfl] at hm
  generalize (sp_pp n (g.1 71) (g.1 72) (g.1 73) (fun i => g.1 67 (40 * r + i)) z (sp_pv g 0) 0) = U at e1 e2 hm
  have e8 := sp_nowv hS 8 (by omega)
  have ev : (sp_sP (sp_sS g 43 44 V.2) 1 U.2).1 75 (9 * 1 + 8) - (sp_sP (sp_sS g 43 44 V.2) 1 U.2).1 75 (9 * 0 + 8) = (sp_sS g 43 44 V.2).1 43 3 - g.1 41 3 := by
    show U.2 8 - g.1 75 8 = V.2 8 - g.1 41 3
    rw [e2 8 (by omega), ← e8]
    rfl
  have hm2 := hm
  rw [ev] at hm2
  exact sp_pF hx hm2 (by omega) (by omega) ((h.K (fun p hp => sp_kpS (Or.inl ⟨rfl, rfl⟩) hp) rfl).K (fun p hp => sp_kpP (by omega) hp) rfl)
