theorem pr_undo {X : sp_X} {g : sp_G} (h : sp_Rel g) (q : Int32) : sp_Pi X 66 185 [.int q] g := by
  obtain ⟨hF, hR, hT, n, dm, hK, hS, hP⟩ := id h
  rcases sp_cls q with hq | ⟨q, hqb, rfl⟩
  · exact sp_pF (xc_undo_a X g hq hS.2.1 hS.1) (mc_undo_a X g hq hS.2.2.1 hS.1) (by omega) (by omega) h
  by_cases hq : q ≤ dm
  rotate_left
  · exact sp_pF (xc_undo_b X g hqb hS.2.1 hS.1 (by omega)) (mc_undo_b X g hqb hS.2.2.1 hS.1 (by omega)) (by omega) (by omega) h
  have hx := xc_undo_c X g hqb hS.2.1 hS.1 hq
  obtain ⟨h1, h2, h3, h4, h5, h6, h7, h8⟩ := hS
  have esv : ∀ j, j < 9 → sp_sv (sp_sS (sp_wI g 47 1 (nI q)) 41 42 (sp_gv (sp_wI g 47 1 (nI q)) 48 q)) 41 42 j = g.1 48 (9 * q + j) := fun j hj => sp_sv_s (by decide) hj
  have k1 : ∀ p, p ≠ 5 → sp_kp p g (sp_sS (sp_wI g 47 1 (nI q)) 41 42 (sp_gv (sp_wI g 47 1 (nI q)) 48 q)) := fun p hp c j hcj => by
    rw [sp_sS_rd, if_neg (by rintro ⟨e1, e2⟩; subst e1; exact hp hcj.symm), if_neg (by rintro ⟨e1, e2⟩; subst e1; exact hp hcj.symm), sp_rd, if_neg (by rintro ⟨e1, e2⟩; subst e1; subst e2; exact hp hcj.symm)]
  by_cases hqd : q = dm
  · refine sp_pF hx (mc_undo_c X (sp_sS (sp_wI g 47 1 (nI q)) 41 42 (sp_gv (sp_wI g 47 1 (nI q)) 48 q)) hqb h3 h1 hqd) (by omega) (by omega) ?_
    have kk : ∀ p, p ≠ 5 → sp_kp p g (sp_wI (sp_sS (sp_wI g 47 1 (nI q)) 41 42 (sp_gv (sp_wI g 47 1 (nI q)) 48 q)) 64 21 (nI q)) := fun p hp => sp_kp.wI (k1 p hp) hp.symm
    refine ⟨sp_RFk h (kk 1 (by decide)) rfl, hR.kp (kk 2 (by decide)), hT.kp (kk 3 (by decide)), n, q, hK.kp (kk 4 (by decide)), ⟨by omega, rfl, rfl, h4, fun j hj => ?_, fun j hj i hi => h6 j (by omega) i hi, fun i hi => ?_, fun j hj => h8 j (by omega)⟩, hP.kp (kk 6 (by decide))⟩
    · refine (esv j hj).trans ?_
      rw [hqd]
      exact h7 j hj
    · rw [hqd]
      exact h7 i hi
  · have hm := mc_undo_d X (sp_sS (sp_wI g 47 1 (nI q)) 41 42 (sp_gv (sp_wI g 47 1 (nI q)) 48 q)) hqb h3 h1 (by omega)
    generalize hg1 : sp_sS (sp_wI g 47 1 (nI q)) 41 42 (sp_gv (sp_wI g 47 1 (nI q)) 48 q) = g1 at hx hm k1 esv
    have e76 : ∀ x, g1.1 76 x = g.1 76 x := fun x => by rw [← hg1]; rfl
    refine sp_pF hx hm (by omega) (by omega) ?_
    have kk : ∀ p, p ≠ 5 → p ≠ 0 → sp_kp p g (sp_wI (sp_sP g1 0 (fun j => g1.1 76 (9 * q + j))) 64 21 (nI q)) := fun p hp h0 => by
      refine sp_kp.wI (fun c j hcj => ?_) hp.symm
      rw [sp_sP_rd, if_neg (by rintro ⟨e1, e2, e3⟩; subst e1; apply hp; rw [← hcj]; unfold sp_cl6; simp; omega)]
      exact k1 p hp c j hcj
    have e75 : ∀ j, j < 9 → (sp_wI (sp_sP g1 0 (fun j => g1.1 76 (9 * q + j))) 64 21 (nI q)).1 75 j = g.1 76 (9 * q + j) := fun j hj => by
      show (sp_sP g1 0 (fun j => g1.1 76 (9 * q + j))).1 75 j = _
      rw [sp_sP_rd, if_pos (by omega), e76, show j - 9 * 0 = j by omega]
    have e48 : ∀ x, (sp_wI (sp_sP g1 0 (fun j => g1.1 76 (9 * q + j))) 64 21 (nI q)).1 48 x = g.1 48 x := fun x => by
      show g1.1 48 x = _
      rw [← hg1]; rfl
    refine ⟨sp_RFk h (kk 1 (by decide) (by decide)) (by rw [← hg1]; rfl), hR.kp (kk 2 (by decide) (by decide)), hT.kp (kk 3 (by decide) (by decide)), n, q, hK.kp (kk 4 (by decide) (by decide)), ⟨by omega, ?_, rfl, ?_, fun j hj => ?_, fun j hj i hi => ?_, fun i hi => ?_, fun j hj => ?_⟩, hP.kp (kk 6 (by decide) (by decide))⟩
    · show g1.1 47 1 = nI q
      rw [← hg1]; rfl
    · show ∃ s, s ≤ 9 ∧ g1.1 47 2 = nI s ∧ g1.1 64 10 = nI s
      rw [← hg1]
      exact h4
    · rw [e75 j hj, ← h6 q (by omega) j hj]
      exact esv j hj
    · rw [e48]
      show _ = g1.1 76 (9 * j + i)
      rw [e76]
      exact h6 j (by omega) i hi
    · rw [e48, e75 i hi]
      exact h6 q (by omega) i hi
    · exact (h8 j (by omega)).congr (fun i _ => e48 _)
theorem sp_cl50 {k : Nat} (h : k < 3) (j : Nat) : sp_cl6 (50 + k) j = 6 := by
  unfold sp_cl6
  rw [if_neg (by omega), if_neg (by omega), if_neg (by omega), if_neg (by omega), if_neg (by omega), if_neg (by omega), if_neg (by omega), if_neg (by omega), if_neg (by omega), if_neg (by omega), if_neg (by omega), if_neg (by omega), if_neg (by omega), if_neg (by omega), if_neg (by omega), if_neg (by omega), if_neg (by omega), if_pos (by omega)]
theorem sp_cl53 {k : Nat} (h : k < 3) (j : Nat) : sp_cl6 (53 + k) j = 6 := by
  unfold sp_cl6
  rw [if_neg (by omega), if_neg (by omega), if_neg (by omega), if_neg (by omega), if_neg (by omega), if_neg (by omega), if_neg (by omega), if_neg (by omega), if_neg (by omega), if_neg (by omega), if_neg (by omega), if_neg (by omega), if_neg (by omega), if_neg (by omega), if_neg (by omega), if_neg (by omega), if_neg (by omega), if_pos (by omega)]
abbrev sp_kx (g : sp_G) (k dm : Nat) : sp_G := sp_wA (sp_wI (sp_wI (sp_wI g (50 + k) 1 (nI dm)) (50 + k) 2 (g.1 47 2)) (50 + k) 3 (nI 1)) (53 + k) (va_cpy (g.1 48) (g.1 (53 + k)) 0 0 ((dm + 1) * 9))
abbrev sp_km (g : sp_G) (k dm : Nat) : sp_G := sp_wA (sp_wA (sp_wI (sp_wI (sp_wI g 77 k (nI 1)) 78 k (nI dm)) 79 k (g.1 64 10)) 80 (va_cpy (g.1 75) (g.1 80) 0 (9 * k) 9)) 81 (va_cpy (g.1 76) (g.1 81) 0 (540 * k) (9 * dm))
theorem sp_kx_m {g : sp_G} {k dm c x : Nat} (hk : k < 3) (h : c < 50 ∨ 56 ≤ c) : (sp_kx g k dm).1 c x = g.1 c x := by
  rw [sp_rdW, if_neg (by omega), sp_rd, if_neg (by omega), sp_rd, if_neg (by omega), sp_rd, if_neg (by omega)]
theorem pr_keep {X : sp_X} {g : sp_G} (h : sp_Rel g) (k : Int32) : sp_Pi X 69 187 [.int k] g := by
  obtain ⟨hF, hR, hT, n, dm, hK, hS, hP⟩ := id h
  rcases sp_cls k with hk | ⟨k, hkb, rfl⟩
  · exact sp_pF (xc_keep_a X g hk) (mc_keep_a X g hk) (by omega) (by omega) h
  by_cases hk : k < 3
  rotate_left
  · exact sp_pF (xc_keep_b X g (by omega) hkb) (mc_keep_b X g (by omega) hkb) (by omega) (by omega) h
  rcases sp_n0 hK with ⟨z1, z2⟩ | ⟨hn0, k2, k3⟩
  · exact sp_pF (xc_keep_c X g hk z1) (mc_keep_c X g hk z2) (by omega) (by omega) h
  have hx : sp_Ct X 9 69 [.ref 0, .int (nI k)] g (sp_Fi (nI dm) (sp_kx g k dm)) := xc_keep_d X g hk k2 hK.1 hn0 hS.2.1 hS.1
  have m1 : ∀ c x, 56 ≤ c → (sp_kx g k dm).1 c x = g.1 c x := fun c x hc => sp_kx_m hk (Or.inr hc)
  have hm : sp_Ct X 9 187 [.ref 64, .int (nI k)] (sp_kx g k dm) (sp_Fi (nI dm) (sp_km (sp_kx g k dm) k dm)) := mc_keep_d X (sp_kx g k dm) hk (by rw [m1 _ _ (by omega)]; exact k3) hK.1 hn0 (by rw [m1 _ _ (by omega)]; exact hS.2.2.1) hS.1
  refine sp_pF hx hm (by omega) (by omega) ?_
  have kk : ∀ p, p ≠ 6 → sp_kp p g (sp_km (sp_kx g k dm) k dm) := fun p hp => by
    refine sp_kp.wA (sp_kp.wA (sp_kp.wI (sp_kp.wI (sp_kp.wI (sp_kp.wA (sp_kp.wI (sp_kp.wI (sp_kp.wI sp_kp.rf ?_) ?_) ?_) (fun j => ?_)) ?_) ?_) ?_) (fun j => ?_)) (fun j => ?_)
    all_goals first | exact hp.symm | (rw [sp_cl50 hk]; exact hp.symm) | (rw [sp_cl53 hk]; exact hp.symm)
  obtain ⟨s1, s2, s3, ⟨sp, sp1, sp2, sp3⟩, s5, s6, s7, s8⟩ := hS
  refine ⟨sp_RFk h (kk 1 (by decide)) rfl, hR.kp (kk 2 (by decide)), hT.kp (kk 3 (by decide)), n, dm, hK.kp (kk 4 (by decide)), sp_RS.kp ⟨s1, s2, s3, ⟨sp, sp1, sp2, sp3⟩, s5, s6, s7, s8⟩ (kk 5 (by decide)), fun q hq => ?_⟩
  have mx : ∀ c x, c < 60 → (sp_km (sp_kx g k dm) k dm).1 c x = (sp_kx g k dm).1 c x := fun c x hc => by
    rw [sp_rdW, if_neg (by omega), sp_rdW, if_neg (by omega), sp_rd, if_neg (by omega), sp_rd, if_neg (by omega), sp_rd, if_neg (by omega)]
  have x50 : ∀ j, (sp_km (sp_kx g k dm) k dm).1 (50 + q) j = if q = k ∧ j = 3 then nI 1 else if q = k ∧ j = 2 then g.1 47 2 else if q = k ∧ j = 1 then nI dm else g.1 (50 + q) j := fun j => by
    rw [mx _ _ (by omega), sp_rdW, if_neg (by omega), sp_rd, sp_rd, sp_rd]
    by_cases e : q = k
    · subst e; simp
    · rw [if_neg (by omega), if_neg (by omega), if_neg (by omega), if_neg (by omega), if_neg (by omega), if_neg (by omega)]
  have x53 : ∀ j, (sp_km (sp_kx g k dm) k dm).1 (53 + q) j = if q = k ∧ j < 9 * (dm + 1) then g.1 48 j else g.1 (53 + q) j := fun j => by
    rw [mx _ _ (by omega), sp_rdW]
    by_cases e : q = k
    · subst e
      rw [if_pos rfl]
      by_cases h2 : j < 9 * (dm + 1)
      · rw [pk_cpy_in (by omega) (by omega), if_pos ⟨rfl, h2⟩, show 0 + (j - 0) = j by omega]
      · rw [pk_cpy_out (by omega), if_neg (by omega)]
    · rw [if_neg (by omega), if_neg (by omega), sp_rd, if_neg (by omega), sp_rd, if_neg (by omega), sp_rd, if_neg (by omega)]
  have x77 : (sp_km (sp_kx g k dm) k dm).1 77 q = if q = k then nI 1 else g.1 77 q := by
    rw [sp_rdW, if_neg (by omega), sp_rdW, if_neg (by omega), sp_rd, if_neg (by omega), sp_rd, if_neg (by omega), sp_rd, m1 _ _ (by omega)]
    by_cases e : q = k <;> simp [e]
  have x78 : (sp_km (sp_kx g k dm) k dm).1 78 q = if q = k then nI dm else g.1 78 q := by
    rw [sp_rdW, if_neg (by omega), sp_rdW, if_neg (by omega), sp_rd, if_neg (by omega), sp_rd, sp_rd, if_neg (show ¬ (78 = 77 ∧ _) by omega), m1 _ _ (by omega)]
    by_cases e : q = k <;> simp [e]
  have x79 : (sp_km (sp_kx g k dm) k dm).1 79 q = if q = k then g.1 64 10 else g.1 79 q := by
    rw [sp_rdW, if_neg (by omega), sp_rdW, if_neg (by omega), sp_rd, sp_rd, if_neg (show ¬ (79 = 78 ∧ _) by omega), sp_rd, if_neg (show ¬ (79 = 77 ∧ _) by omega), m1 _ _ (by omega), m1 _ _ (by omega)]
    by_cases e : q = k <;> simp [e]
  have x80 : ∀ i, i < 9 → (sp_km (sp_kx g k dm) k dm).1 80 (9 * q + i) = if q = k then g.1 75 i else g.1 80 (9 * q + i) := fun i hi => by
    rw [sp_rdW, if_neg (by omega), sp_rdW, if_pos rfl]
    by_cases e : q = k
    · subst e
      rw [if_pos rfl, pk_cpy_in (by omega) (by omega), m1 _ _ (by omega)]
      exact congrArg (g.1 75) (by omega)
    · rw [if_neg e, pk_cpy_out (by omega), m1 _ _ (by omega)]
  have x81 : ∀ i, i < 540 → (sp_km (sp_kx g k dm) k dm).1 81 (540 * q + i) = if q = k ∧ i < 9 * dm then g.1 76 i else g.1 81 (540 * q + i) := fun i hi => by
    rw [sp_rdW, if_pos rfl]
    by_cases e : q = k ∧ i < 9 * dm
    · rw [if_pos e, pk_cpy_in (by omega) (by omega), m1 _ _ (by omega)]
      exact congrArg (g.1 76) (by omega)
    · rw [if_neg e, pk_cpy_out (by omega), m1 _ _ (by omega)]
  by_cases e : q = k
  · subst e
    rw [x50, if_pos ⟨rfl, rfl⟩, x77, if_pos rfl]
    refine ⟨rfl, Or.inr ⟨rfl, dm, s1, ?_, ?_, ⟨sp, sp1, ?_, ?_⟩, fun j hj i hi => ?_, fun i hi => ?_, fun j hj => ?_⟩⟩
    · rw [x50, if_neg (by omega), if_neg (by omega), if_pos ⟨rfl, rfl⟩]
    · rw [x78, if_pos rfl]
    · rw [x50, if_neg (by omega), if_pos ⟨rfl, rfl⟩]; exact sp2
    · rw [x79, if_pos rfl]; exact sp3
    · rw [x53, if_pos ⟨rfl, by omega⟩, x81 _ (by omega), if_pos ⟨rfl, by omega⟩]
      exact s6 j hj i hi
    · rw [x53, if_pos ⟨rfl, by omega⟩, x80 i hi, if_pos rfl]
      exact s7 i hi
    · exact (s8 j hj).congr (fun i hi => by rw [x53, if_pos ⟨rfl, by omega⟩])
  · obtain ⟨p1, p2⟩ := hP q hq
    rw [x50, if_neg (fun a => e a.1), if_neg (fun a => e a.1), if_neg (fun a => e a.1), x77, if_neg e]
    refine ⟨p1, p2.imp id ?_⟩
    rintro ⟨a1, m, a2, a3, a4, a5, a6, a7, a8⟩
    refine ⟨a1, m, a2, ?_, ?_, ?_, fun j hj i hi => ?_, fun i hi => ?_, fun j hj => ?_⟩
    · rw [x50, if_neg (fun a => e a.1), if_neg (fun a => e a.1), if_neg (fun a => e a.1)]; exact a3
    · rw [x78, if_neg e]; exact a4
    · rw [x50, if_neg (fun a => e a.1), if_neg (fun a => e a.1), if_neg (fun a => e a.1), x79, if_neg e]; exact a5
    · rw [x53, if_neg (fun a => e a.1), x81 _ (by omega), if_neg (fun a => e a.1)]; exact a6 j hj i hi
    · rw [x53, if_neg (fun a => e a.1), x80 i hi, if_neg e]; exact a7 i hi
    · exact (a8 j hj).congr (fun i hi => by rw [x53, if_neg (fun a => e a.1)])
abbrev sp_ox (g : sp_G) (k m : Nat) : sp_G := sp_wA (sp_wI (sp_wI (sp_wI g 47 1 (nI m)) 47 2 (g.1 (50 + k) 2)) 47 3 (nI 1)) 48 (va_cpy (g.1 (53 + k)) (g.1 48) 0 0 ((m + 1) * 9))
theorem pr_on {X : sp_X} {g : sp_G} (h : sp_Rel g) (k : Int32) : sp_Pi X 71 188 [.int k] g := by
  obtain ⟨hF, hR, hT, n, dm, hK, hS, hP⟩ := id h
  rcases sp_cls k with hk | ⟨k, hkb, rfl⟩
  · exact sp_pF (xc_on_a X g hk) (mc_on_a X g hk) (by omega) (by omega) h
  by_cases hk : k < 3
  rotate_left
  · exact sp_pF (xc_on_b X g (by omega) hkb) (mc_on_b X g (by omega) hkb) (by omega) (by omega) h
  obtain ⟨p1, p2⟩ := hP k hk
  rcases p2 with p2 | ⟨p2, m, mb, m1, m2, ⟨sp, sp1, sp2, sp3⟩, m4, m5, m6⟩
  · exact sp_pF (xc_on_c X g hk (p1.trans p2)) (mc_on_c X (sp_rx g 1) hk p2) (by omega) (by omega) (h.ref (by omega))
  have hx : sp_Ct X 9 71 [.ref 0, .int (nI k)] g (sp_Fi (nI m) (sp_sS (sp_ox g k m) 41 42 (sp_gv (sp_ox g k m) 48 m))) := xc_on_d X g hk (p1.trans p2) m1 mb
  have ex : ∀ c x, 50 ≤ c → (sp_sS (sp_ox g k m) 41 42 (sp_gv (sp_ox g k m) 48 m)).1 c x = g.1 c x := fun c x hc => by
    rw [sp_sS_rd, if_neg (by omega), if_neg (by omega), sp_rdW, if_neg (by omega), sp_rd, if_neg (by omega), sp_rd, if_neg (by omega), sp_rd, if_neg (by omega)]
  have e48 : ∀ x, (sp_sS (sp_ox g k m) 41 42 (sp_gv (sp_ox g k m) 48 m)).1 48 x = if x < 9 * (m + 1) then g.1 (53 + k) x else g.1 48 x := fun x => by
    show (sp_ox g k m).1 48 x = _
    rw [sp_rdW, if_pos rfl]
    by_cases e : x < 9 * (m + 1)
    · rw [pk_cpy_in (by omega) (by omega), if_pos e, show 0 + (x - 0) = x by omega]
    · rw [pk_cpy_out (by omega), if_neg e]
  have esv : ∀ j, j < 9 → sp_sv (sp_sS (sp_ox g k m) 41 42 (sp_gv (sp_ox g k m) 48 m)) 41 42 j = g.1 (53 + k) (9 * m + j) := fun j hj => by
    rw [sp_sv_s (by decide) hj]
    show (sp_ox g k m).1 48 (9 * m + j) = _
    rw [sp_rdW, if_pos rfl, pk_cpy_in (by omega) (by omega)]
    exact congrArg (g.1 (53 + k)) (by omega)
  have kx : ∀ p, p ≠ 5 → p ≠ 0 → sp_kp p g (sp_sS (sp_ox g k m) 41 42 (sp_gv (sp_ox g k m) 48 m)) := fun p hp h0 c j hcj => by
    rw [sp_sS_rd, if_neg (by rintro ⟨e1, e2⟩; subst e1; exact hp hcj.symm), if_neg (by rintro ⟨e1, e2⟩; subst e1; exact hp hcj.symm), sp_rdW, if_neg (by rintro e1; subst e1; exact hp hcj.symm), sp_rd, if_neg (by rintro ⟨e1, e2⟩; subst e1; subst e2; exact h0 hcj.symm), sp_rd, if_neg (by rintro ⟨e1, e2⟩; subst e1; subst e2; exact hp hcj.symm), sp_rd, if_neg (by rintro ⟨e1, e2⟩; subst e1; subst e2; exact hp hcj.symm)]
  have e471 : (sp_sS (sp_ox g k m) 41 42 (sp_gv (sp_ox g k m) 48 m)).1 47 1 = nI m := rfl
  have e472 : (sp_sS (sp_ox g k m) 41 42 (sp_gv (sp_ox g k m) 48 m)).1 47 2 = nI sp := sp2
  have el : (sp_sS (sp_ox g k m) 41 42 (sp_gv (sp_ox g k m) 48 m)).2 = g.2 := rfl
  generalize sp_sS (sp_ox g k m) 41 42 (sp_gv (sp_ox g k m) 48 m) = g1 at hx ex e48 esv kx e471 e472 el
  have hm := mc_on_d X g1 hk (by rw [ex _ _ (by omega)]; exact p2) (by rw [ex _ _ (by omega)]; exact m2) mb
  refine sp_pF hx hm (by omega) (by omega) ?_
  have kk : ∀ p, p ≠ 5 → p ≠ 0 → sp_kp p g (sp_wA (sp_sP (sp_wI (sp_wI g1 64 21 (nI m)) 64 10 (g1.1 79 k)) 0 (fun j => g1.1 80 (9 * k + j))) 76 (va_cpy (g1.1 81) (g1.1 76) (540 * k) 0 (9 * m))) := fun p hp h0 => by
    refine sp_kp.wA (fun c j hcj => ?_) (fun j => hp.symm)
    rw [sp_sP_rd, if_neg (by rintro ⟨e1, e2, e3⟩; subst e1; apply hp; rw [← hcj]; unfold sp_cl6; simp; omega), sp_rd, if_neg (by rintro ⟨e1, e2⟩; subst e1; subst e2; exact hp hcj.symm), sp_rd, if_neg (by rintro ⟨e1, e2⟩; subst e1; subst e2; exact hp hcj.symm)]
    exact kx p hp h0 c j hcj
  have e75 : ∀ j, j < 9 → (sp_wA (sp_sP (sp_wI (sp_wI g1 64 21 (nI m)) 64 10 (g1.1 79 k)) 0 (fun j => g1.1 80 (9 * k + j))) 76 (va_cpy (g1.1 81) (g1.1 76) (540 * k) 0 (9 * m))).1 75 j = g.1 80 (9 * k + j) := fun j hj => by
    rw [sp_rdW, if_neg (by omega), sp_sP_rd, if_pos (by omega), ex _ _ (by omega), show j - 9 * 0 = j by omega]
  have e76 : ∀ x, x < 9 * m → (sp_wA (sp_sP (sp_wI (sp_wI g1 64 21 (nI m)) 64 10 (g1.1 79 k)) 0 (fun j => g1.1 80 (9 * k + j))) 76 (va_cpy (g1.1 81) (g1.1 76) (540 * k) 0 (9 * m))).1 76 x = g.1 81 (540 * k + x) := fun x hx => by
    rw [sp_rdW, if_pos rfl, pk_cpy_in (by omega) (by omega), ex _ _ (by omega), show x - 0 = x by omega]
  refine ⟨sp_RFk h (kk 1 (by decide) (by decide)) el, hR.kp (kk 2 (by decide) (by decide)), hT.kp (kk 3 (by decide) (by decide)), n, m, hK.kp (kk 4 (by decide) (by decide)), ⟨mb, e471, rfl, ⟨sp, sp1, e472, ?_⟩, fun j hj => ?_, fun j hj i hi => ?_, fun i hi => ?_, fun j hj => ?_⟩, hP.kp (kk 6 (by decide) (by decide))⟩
  · show g1.1 79 k = nI sp
    rw [ex _ _ (by omega)]; exact sp3
  · rw [e75 j hj, ← m5 j hj]
    exact esv j hj
  · rw [e76 _ (by omega), ← m4 j hj i hi]
    show g1.1 48 (9 * j + i) = _
    rw [e48, if_pos (by omega)]
  · rw [e75 i hi, ← m5 i hi]
    show g1.1 48 (9 * m + i) = _
    rw [e48, if_pos (by omega)]
  · refine (m6 j hj).congr (fun i hi => ?_)
    show g1.1 48 (9 * j + i) = _
    rw [e48, if_pos (by omega)]
