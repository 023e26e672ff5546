theorem sp_sd41 : sp_sd 41 42 := ⟨by decide, rfl, rfl, by decide, rfl, rfl, by decide, by decide, by decide, by decide, by decide⟩
theorem sp_sd43 : sp_sd 43 44 := ⟨by decide, rfl, rfl, by decide, rfl, rfl, by decide, by decide, by decide, by decide, by decide⟩
theorem sp_sd45 : sp_sd 45 46 := ⟨by decide, rfl, rfl, by decide, rfl, rfl, by decide, by decide, by decide, by decide, by decide⟩
theorem sp_sd61 : sp_sd 61 62 := ⟨by decide, rfl, rfl, by decide, rfl, rfl, by decide, by decide, by decide, by decide, by decide⟩
abbrev sp_dx (g : sp_G) (dm : Nat) (v : Nat → Int32) : sp_G := sp_sG (sp_wI (sp_sS g 41 42 v) 47 1 (nI (dm + 1))) 48 (dm + 1) (sp_sv (sp_sS g 41 42 v) 41 42)
abbrev sp_dr (g : sp_G) (dm : Nat) : sp_G := sp_wI (sp_sG g 76 dm (g.1 75)) 64 21 (nI (dm + 1))
/-! the figures stay small -/
def sp_oB (n A B : Nat) (v : Nat → Int32) : Prop := (∀ i, i < 6 → ∃ b, b ≤ A ∧ v i = nI b) ∧ (∃ b, b ≤ B ∧ v 6 = nI b) ∧ ∀ i, n ≤ i → i < 6 → v i = 0
theorem sp_lo_nI {q a : Nat} (hq : q < 2 ^ 31) (ha : a < 2 ^ 31) : sp_lo (nI q) (nI a) = nI (min q a) := by
  unfold sp_lo
  by_cases h : q < a
  · rw [if_pos (nI_lt h ha), Nat.min_eq_left (by omega)]
  · rw [if_neg (fun e => h ((nI_ltI hq ha).mp e)), Nat.min_eq_right (by omega)]
theorem sp_oB.le {n A B A' B' : Nat} {v : Nat → Int32} (h : sp_oB n A B v) (h1 : A ≤ A') (h2 : B ≤ B') : sp_oB n A' B' v := by
  obtain ⟨a, b, c⟩ := h
  refine ⟨fun i hi => ?_, ?_, c⟩
  · obtain ⟨x, hx, e⟩ := a i hi
    exact ⟨x, by omega, e⟩
  · obtain ⟨x, hx, e⟩ := b
    exact ⟨x, by omega, e⟩
theorem sp_oB.mv {n A B q fr to : Nat} {v : Nat → Int32} (h : sp_oB n A B v) (hn : n ≤ 6) (hf : fr < n ∨ fr = 6) (ht : to < n ∨ to = 6) (hft : fr ≠ to) (hA : A < 2 ^ 30) (hB : B < 2 ^ 30) (hq : q < 2 ^ 20) : sp_oB n (A + q) (B + q) (sp_mv v fr to (nI q)) := by
  obtain ⟨a, b, c⟩ := h
  have key : ∀ i, i < 7 → ∃ x, x ≤ (if i = 6 then B else A) ∧ v i = nI x := fun i hi => by
    by_cases e : i = 6
    · subst e
      rw [if_pos rfl]
      exact b
    · rw [if_neg e]
      exact a i (by omega)
  obtain ⟨xf, hxf, ef⟩ := key fr (by omega)
  obtain ⟨xt, hxt, et⟩ := key to (by omega)
  have hxf2 : xf < 2 ^ 30 := by split at hxf <;> omega
  have hlo : sp_lo (nI q) (v fr) = nI (min q xf) := by rw [ef, sp_lo_nI (by omega) (by omega)]
  have ev : ∀ i, sp_mv v fr to (nI q) i = if i = to then nI (xt + min q xf) else if i = fr then nI (xf - min q xf) else v i := fun i => by
    unfold sp_mv
    rw [hlo]
    unfold upd
    by_cases e1 : i = to
    · rw [if_pos e1, if_pos e1, if_neg (fun q => hft q.symm), et, nI_add]
    · rw [if_neg e1, if_neg e1]
      by_cases e2 : i = fr
      · rw [if_pos e2, if_pos e2, ef, pk_sub (by omega)]
      · rw [if_neg e2, if_neg e2]
  refine ⟨fun i hi => ?_, ?_, fun i h1 h2 => ?_⟩
  · rw [ev]
    by_cases e1 : i = to
    · rw [if_pos e1]
      rw [if_neg (by omega)] at hxt
      exact ⟨_, by omega, rfl⟩
    · rw [if_neg e1]
      by_cases e2 : i = fr
      · rw [if_pos e2]
        rw [if_neg (by omega)] at hxf
        exact ⟨_, by omega, rfl⟩
      · rw [if_neg e2]
        obtain ⟨x, hx, e⟩ := a i hi
        exact ⟨x, by omega, e⟩
  · rw [ev]
    by_cases e1 : 6 = to
    · rw [if_pos e1]
      rw [if_pos e1.symm] at hxt
      exact ⟨_, by omega, rfl⟩
    · rw [if_neg e1]
      by_cases e2 : 6 = fr
      · rw [if_pos e2]
        rw [if_pos e2.symm] at hxf
        exact ⟨_, by omega, rfl⟩
      · rw [if_neg e2]
        obtain ⟨x, hx, e⟩ := b
        exact ⟨x, by omega, e⟩
  · rw [ev, if_neg (by omega), if_neg (by omega)]
    exact c i h1 h2
theorem sp_oB.up {n A B j : Nat} {v : Nat → Int32} {x : Int32} (h : sp_oB n A B v) (hj : 7 ≤ j) : sp_oB n A B (upd v j x) := by
  obtain ⟨a, b, c⟩ := h
  exact ⟨fun i hi => by rw [pk_un (by omega)]; exact a i hi, by rw [pk_un (by omega)]; exact b, fun i h1 h2 => by rw [pk_un (by omega)]; exact c i h1 h2⟩
theorem sp_oB.pl {n A B i : Nat} {v K P : Nat → Int32} (h : sp_oB n A B v) (hn : n ≤ 6) (hi : i < n) (hA : A < 2 ^ 29) (hB : B < 2 ^ 29) : sp_oB n (A + 2) (B + 2) (sp_pl n K P v i) := by
  unfold sp_pl
  refine sp_oB.up ?_ (by omega)
  have hl : sp_lf i < n ∨ sp_lf i = 6 := by unfold sp_lf; split <;> omega
  have hl2 : i ≠ sp_lf i := by unfold sp_lf; split <;> omega
  have hr : sp_rg n i < n ∨ sp_rg n i = 6 := by unfold sp_rg; split <;> omega
  have hr2 : i ≠ sp_rg n i := by unfold sp_rg; split <;> omega
  unfold sp_ef
  split
  · exact (h.mv hn (Or.inl hi) hr hr2 (by omega) (by omega) (by omega)).le (by omega) (by omega)
  split
  · exact (h.mv hn (Or.inl hi) hl hl2 (by omega) (by omega) (by omega)).le (by omega) (by omega)
  split
  · exact (h.mv hn hl (Or.inl hi) hl2.symm (by omega) (by omega) (by omega)).le (by omega) (by omega)
  split
  · exact ((h.mv hn (Or.inl hi) hl hl2 (by omega) (by omega) (by omega)).mv hn (Or.inl hi) hr hr2 (by omega) (by omega) (by omega)).le (by omega) (by omega)
  · exact h.le (by omega) (by omega)
theorem sp_oB.td {n A B h : Nat} {v : Nat → Int32} (hv : sp_oB n A B v) (hn : n ≤ 6) (hh : h ≤ 9) (hA : A < 2 ^ 29) : sp_oB n (A + 9) B (sp_td n h v) := by
  unfold sp_td
  refine sp_oB.up ?_ (by omega)
  obtain ⟨a, b, c⟩ := hv
  refine ⟨fun i hi => ?_, ?_, fun i h1 h2 => ?_⟩
  · unfold sp_fl
    obtain ⟨x, hx, e⟩ := a i hi
    by_cases h1 : i < min n h
    · rw [if_pos h1, e, nI_add]
      exact ⟨_, by omega, rfl⟩
    · rw [if_neg h1]
      exact ⟨x, by omega, e⟩
  · unfold sp_fl
    rw [if_neg (by omega)]
    exact b
  · unfold sp_fl
    rw [if_neg (by omega)]
    exact c i h1 h2
theorem sp_oB.sm {n A B w : Nat} {v : Nat → Int32} (hv : sp_oB n A B v) (hn : n ≤ 6) (hn0 : 0 < n) (hA : A < 2 ^ 29) (hB : B < 2 ^ 29) : sp_oB n A (B + A) (sp_sm n w v) := by
  obtain ⟨a, b, c⟩ := hv
  obtain ⟨y, hy, ey⟩ := b
  unfold sp_sm
  split
  · obtain ⟨z, hz, ez⟩ := a 0 (by omega)
    refine ⟨fun i hi => ?_, ?_, fun i h1 h2 => ?_⟩
    · rw [pk_un (by omega)]
      unfold sp_sk
      by_cases h1 : i < n
      · rw [if_pos h1]
        by_cases h2 : i + 1 < n
        · rw [if_pos h2]
          exact a (i + 1) (by omega)
        · rw [if_neg h2]
          exact ⟨0, by omega, rfl⟩
      · rw [if_neg h1]
        exact a i hi
    · rw [pk_us]
      unfold sp_sk
      rw [if_neg (by omega), ey, ez, nI_add]
      exact ⟨_, by omega, rfl⟩
    · rw [pk_un (by omega)]
      unfold sp_sk
      rw [if_neg (by omega)]
      exact c i h1 h2
  · obtain ⟨z, hz, ez⟩ := a (n - 1) (by omega)
    refine ⟨fun i hi => ?_, ?_, fun i h1 h2 => ?_⟩
    · rw [pk_un (by omega)]
      unfold sp_rk
      by_cases h1 : n - n ≤ i ∧ i < n
      · rw [if_pos h1]
        by_cases h2 : 0 < i
        · rw [if_pos h2]
          exact a (i - 1) (by omega)
        · rw [if_neg h2]
          exact ⟨0, by omega, rfl⟩
      · rw [if_neg h1]
        exact a i hi
    · rw [pk_us]
      unfold sp_rk
      rw [if_neg (by omega), ey, ez, nI_add]
      exact ⟨_, by omega, rfl⟩
    · rw [pk_un (by omega)]
      unfold sp_rk
      rw [if_neg (by omega)]
      exact c i h1 h2
theorem sp_td_c {v w : Nat → Int32} (h : ∀ i, i < 9 → v i = w i) {n x : Nat} (hn : n ≤ 6) : ∀ j, j < 9 → sp_td n x v j = sp_td n x w j := fun j hj => by
  unfold sp_td upd sp_fl
  rw [h j hj, h 7 (by omega)]
theorem sp_sm_c {v w : Nat → Int32} (h : ∀ i, i < 9 → v i = w i) {n x : Nat} (hn : n ≤ 6) (hn0 : 0 < n) : ∀ j, j < 9 → sp_sm n x v j = sp_sm n x w j := fun j hj => by
  unfold sp_sm
  split
  · unfold upd sp_sk
    rw [h j hj, h 0 (by omega)]
    by_cases e : j = 6
    · rw [if_pos e, if_pos e, if_neg (by omega), if_neg (by omega), h 6 (by omega)]
    · rw [if_neg e, if_neg e]
      by_cases e2 : j < n
      · rw [if_pos e2, if_pos e2]
        by_cases e3 : j + 1 < n
        · rw [if_pos e3, if_pos e3, h (j + 1) (by omega)]
        · rw [if_neg e3, if_neg e3]
      · rw [if_neg e2, if_neg e2]
  · unfold upd sp_rk
    rw [h j hj, h (n - 1) (by omega)]
    by_cases e : j = 6
    · rw [if_pos e, if_pos e, if_neg (by omega), if_neg (by omega), h 6 (by omega)]
    · rw [if_neg e, if_neg e]
      by_cases e2 : n - n ≤ j ∧ j < n
      · rw [if_pos e2, if_pos e2]
        by_cases e3 : 0 < j
        · rw [if_pos e3, if_pos e3, h (j - 1) (by omega)]
        · rw [if_neg e3, if_neg e3]
      · rw [if_neg e2, if_neg e2]
/-- a deed: the sand becomes v on both sides, the page is turned -/
theorem sp_Rel.deed {g : sp_G} {n dm : Nat} (h : sp_Rel g) (hK : sp_RK n g) (hS : sp_RS n dm g) (hP : sp_RP n g) (hdm : dm < 60) {v w : Nat → Int32} (hvw : ∀ i, i < 9 → w i = v i) (hok : sp_ok n (dm + 1) v) : sp_Rel (sp_sP (sp_dr (sp_dx g dm v) dm) 0 w) := by
  have kk : ∀ q, q ≠ 5 → q ≠ 0 → sp_kp q g (sp_sP (sp_dr (sp_dx g dm v) dm) 0 w) := fun q hq h0 c j hcj => by
    rw [sp_sP_rd, if_neg (by rintro ⟨e1, e2, e3⟩; subst e1; apply hq; rw [← hcj]; unfold sp_cl6; simp; omega), sp_rd, if_neg (by rintro ⟨e1, e2⟩; subst e1; subst e2; exact hq hcj.symm), sp_sG_rd, if_neg (by rintro ⟨e1, e2, e3⟩; subst e1; exact hq hcj.symm), sp_sG_rd, if_neg (by rintro ⟨e1, e2, e3⟩; subst e1; exact hq hcj.symm), sp_rd, if_neg (by rintro ⟨e1, e2⟩; subst e1; subst e2; exact hq hcj.symm), sp_sS_rd, if_neg (by rintro ⟨e1, e2⟩; subst e1; exact hq hcj.symm), if_neg (by rintro ⟨e1, e2⟩; subst e1; exact hq hcj.symm)]
  obtain ⟨h1, h2, h3, h4, h5, h6, h7, h8⟩ := hS
  have e75 : ∀ j, j < 9 → (sp_sP (sp_dr (sp_dx g dm v) dm) 0 w).1 75 j = w j := fun j hj => by rw [sp_sP_rd, if_pos (by omega)]; exact congrArg w (by omega)
  have e48 : ∀ x, (sp_sP (sp_dr (sp_dx g dm v) dm) 0 w).1 48 x = if 9 * (dm + 1) ≤ x ∧ x < 9 * (dm + 1) + 9 then v (x - 9 * (dm + 1)) else g.1 48 x := fun x => by
    show (sp_sG (sp_wI (sp_sS g 41 42 v) 47 1 (nI (dm + 1))) 48 (dm + 1) (sp_sv (sp_sS g 41 42 v) 41 42)).1 48 x = _
    rw [sp_sG_rd]
    by_cases e : 9 * (dm + 1) ≤ x ∧ x < 9 * (dm + 1) + 9
    · rw [if_pos ⟨rfl, e⟩, if_pos e, sp_sv_s (by decide) (by omega)]
    · rw [if_neg (fun q => e q.2), if_neg e]
      rfl
  have e76 : ∀ x, (sp_sP (sp_dr (sp_dx g dm v) dm) 0 w).1 76 x = if 9 * dm ≤ x ∧ x < 9 * dm + 9 then g.1 75 (x - 9 * dm) else g.1 76 x := fun x => by
    show (sp_sG (sp_dx g dm v) 76 dm ((sp_dx g dm v).1 75)).1 76 x = _
    rw [sp_sG_rd]
    by_cases e : 9 * dm ≤ x ∧ x < 9 * dm + 9
    · rw [if_pos ⟨rfl, e⟩, if_pos e]
      rfl
    · rw [if_neg (fun q => e q.2), if_neg e]
      rfl
  refine ⟨sp_RFk h (kk 1 (by decide) (by decide)) rfl, h.2.1.kp (kk 2 (by decide) (by decide)), h.2.2.1.kp (kk 3 (by decide) (by decide)), n, dm + 1, hK.kp (kk 4 (by decide) (by decide)), ⟨by omega, rfl, rfl, h4, fun j hj => ?_, fun j hj i hi => ?_, fun i hi => ?_, fun j hj => ?_⟩, hP.kp (kk 6 (by decide) (by decide))⟩
  · rw [e75 j hj, hvw j hj]
    show sp_sv (sp_sS g 41 42 v) 41 42 j = v j
    exact sp_sv_s (by decide) hj
  · rw [e48, e76, if_neg (by omega)]
    by_cases e : j = dm
    · subst e
      rw [if_pos (by omega), show 9 * j + i - 9 * j = i by omega]
      exact h7 i hi
    · rw [if_neg (by omega)]
      exact h6 j (by omega) i hi
  · rw [e48, e75 i hi, if_pos (by omega), hvw i hi]
    exact congrArg v (by omega)
  · by_cases e : j = dm + 1
    · subst e
      exact hok.congr (fun i hi => by rw [e48, if_pos (by omega)]; exact congrArg v (by omega))
    · exact (h8 j (by omega)).congr (fun i hi => by rw [e48, if_neg (by omega)])
set_option maxRecDepth 20000 in
theorem xc_play_a (X : sp_X) (g : sp_G) {i : Int32} (hi : i < 0) : sp_Ct X 9 53 [.ref 0, .int i] g (sp_Fi (-1) g) := by
  refine sp_walkN (n := 2) sq_p_53 sq_l_53 (Nat.le_of_ble_eq_true rfl) (fun a hA => ?_)
  show sp_Ev X a 53 0 [.ref 0, .int i] [] g
  refine sr_aload_n hA si_53_0 rfl ?_
  refine sr_getR (r := 18) hA si_53_1 sf_53_32 (by decide) (by decide) rfl rfl rfl ?_
  refine sr_iload_n hA si_53_4 rfl ?_
  refine sr_VFi (c := 18) (ci := 0) (as := [.int i]) (st := []) hA si_53_5 sv_43 sk_53_148 (xc_isKeyM X g hi) (by omega) rfl (by decide) (by decide) rfl sq_c_43 rfl (Nat.le_of_ble_eq_true rfl) ?_
  refine sr_if_neN (tgt := 13) hA si_53_8 (by decide) (by omega) (fun c1 => absurd c1 (by omega)) (fun c1 => ?_)
  refine sr_iconst (v := (-1)) hA si_53_11 (by decide) ?_
  exact sr_iretF hA si_53_12 sq_r_53 rfl rfl
set_option maxRecDepth 20000 in
theorem xc_play_b (X : sp_X) (g : sp_G) {i : Nat} (hib : i < 2 ^ 31) {n : Nat} (hn : g.1 18 3 = nI n) (hb : n ≤ 6) (hi : n ≤ i) : sp_Ct X 9 53 [.ref 0, .int (nI i)] g (sp_Fi (-1) g) := by
  refine sp_walkN (n := 2) sq_p_53 sq_l_53 (Nat.le_of_ble_eq_true rfl) (fun a hA => ?_)
  show sp_Ev X a 53 0 [.ref 0, .int (nI i)] [] g
  refine sr_aload_n hA si_53_0 rfl ?_
  refine sr_getR (r := 18) hA si_53_1 sf_53_32 (by decide) (by decide) rfl rfl rfl ?_
  refine sr_iload_n hA si_53_4 rfl ?_
  refine sr_VFi (c := 18) (ci := 0) (as := [.int (nI i)]) (st := []) hA si_53_5 sv_43 sk_53_148 (xc_isKeyH X g (n := n) hn (by omega) (by omega)) (by omega) rfl (by decide) (by decide) rfl sq_c_43 rfl (Nat.le_of_ble_eq_true rfl) ?_
  refine sr_if_neN (tgt := 13) hA si_53_8 (by decide) (by omega) (fun c1 => absurd c1 (by omega)) (fun c1 => ?_)
  refine sr_iconst (v := (-1)) hA si_53_11 (by decide) ?_
  exact sr_iretF hA si_53_12 sq_r_53 rfl rfl
set_option maxRecDepth 20000 in
theorem xc_play_c (X : sp_X) (g : sp_G) {i : Nat} (hi : i < 6) {n : Nat} (hn : g.1 18 3 = nI n) (hb : n ≤ 6) (hin : i < n) {k : Nat} (hk : g.1 19 i = nI k) (hkb : k ≤ 5) (hcb : ¬ sp_cb (g.1 19 i) (g.1 20 i) (g.1 42 i) = true) : sp_Ct X 9 53 [.ref 0, .int (nI i)] g (sp_Fi (-4) g) := by
  refine sp_walkN (n := 2) sq_p_53 sq_l_53 (Nat.le_of_ble_eq_true rfl) (fun a hA => ?_)
  show sp_Ev X a 53 0 [.ref 0, .int (nI i)] [] g
  refine sr_aload_n hA si_53_0 rfl ?_
  refine sr_getR (r := 18) hA si_53_1 sf_53_32 (by decide) (by decide) rfl rfl rfl ?_
  refine sr_iload_n hA si_53_4 rfl ?_
  refine sr_VFi (c := 18) (ci := 0) (as := [.int (nI i)]) (st := []) hA si_53_5 sv_43 sk_53_148 (xc_isKey1 X g (n := n) hn (by omega) (by omega)) (by omega) rfl (by decide) (by decide) rfl sq_c_43 rfl (Nat.le_of_ble_eq_true rfl) ?_
  refine sr_if_neN (tgt := 13) hA si_53_8 (by decide) (by omega) (fun c1 => ?_) (fun c1 => absurd c1 (by omega))
  refine sr_aload_n hA si_53_13 rfl ?_
  refine sr_getR (r := 18) hA si_53_14 sf_53_32 (by decide) (by decide) rfl rfl rfl ?_
  refine sr_iload_n hA si_53_17 rfl ?_
  refine sr_aload_n hA si_53_18 rfl ?_
  refine sr_getR (r := 41) hA si_53_19 sf_53_36 (by decide) (by decide) rfl rfl rfl ?_
  refine sr_VFi (c := 18) (ci := 0) (as := [.int (nI i), .ref 41]) (st := []) hA si_53_22 sv_45 sk_53_185 (xc_bears0 X g sp_sd41 (i := i) (by omega) hk hkb hcb) (by omega) rfl (by decide) (by decide) rfl sq_c_45 rfl (Nat.le_of_ble_eq_true rfl) ?_
  refine sr_if_neN (tgt := 31) hA si_53_25 (by decide) (by omega) (fun c2 => absurd c2 (by omega)) (fun c2 => ?_)
  refine sr_bipush (v := (-4)) hA si_53_28 (by decide) ?_
  exact sr_iretF hA si_53_30 sq_r_53 rfl rfl
set_option maxRecDepth 20000 in
theorem xc_play_d (X : sp_X) (g : sp_G) {i : Nat} (hi : i < 6) {n : Nat} (hn : g.1 18 3 = nI n) (hb : n ≤ 6) (hin : i < n) {k : Nat} (hk : g.1 19 i = nI k) (hkb : k ≤ 5) (hcb : sp_cb (g.1 19 i) (g.1 20 i) (g.1 42 i) = true) (hd : g.1 47 1 = nI 60) : sp_Ct X 9 53 [.ref 0, .int (nI i)] g (sp_Fi (-2) g) := by
  refine sp_walkN (n := 2) sq_p_53 sq_l_53 (Nat.le_of_ble_eq_true rfl) (fun a hA => ?_)
  show sp_Ev X a 53 0 [.ref 0, .int (nI i)] [] g
  refine sr_aload_n hA si_53_0 rfl ?_
  refine sr_getR (r := 18) hA si_53_1 sf_53_32 (by decide) (by decide) rfl rfl rfl ?_
  refine sr_iload_n hA si_53_4 rfl ?_
  refine sr_VFi (c := 18) (ci := 0) (as := [.int (nI i)]) (st := []) hA si_53_5 sv_43 sk_53_148 (xc_isKey1 X g (n := n) hn (by omega) (by omega)) (by omega) rfl (by decide) (by decide) rfl sq_c_43 rfl (Nat.le_of_ble_eq_true rfl) ?_
  refine sr_if_neN (tgt := 13) hA si_53_8 (by decide) (by omega) (fun c1 => ?_) (fun c1 => absurd c1 (by omega))
  refine sr_aload_n hA si_53_13 rfl ?_
  refine sr_getR (r := 18) hA si_53_14 sf_53_32 (by decide) (by decide) rfl rfl rfl ?_
  refine sr_iload_n hA si_53_17 rfl ?_
  refine sr_aload_n hA si_53_18 rfl ?_
  refine sr_getR (r := 41) hA si_53_19 sf_53_36 (by decide) (by decide) rfl rfl rfl ?_
  refine sr_VFi (c := 18) (ci := 0) (as := [.int (nI i), .ref 41]) (st := []) hA si_53_22 sv_45 sk_53_185 (xc_bears1 X g sp_sd41 (i := i) (by omega) hk hkb hcb) (by omega) rfl (by decide) (by decide) rfl sq_c_45 rfl (Nat.le_of_ble_eq_true rfl) ?_
  refine sr_if_neN (tgt := 31) hA si_53_25 (by decide) (by omega) (fun c2 => ?_) (fun c2 => absurd c2 (by omega))
  refine sr_aload_n hA si_53_31 rfl ?_
  refine sr_getR (r := 47) hA si_53_32 sf_53_49 (by decide) (by decide) rfl rfl rfl ?_
  refine sr_iconst (v := nI 1) hA si_53_35 (by decide) ?_
  refine sr_VFi (c := 47) (ci := 6) (as := [.int (nI 1)]) (st := []) hA si_53_36 sv_54 sk_53_189 (xc_full1 X g hd (by omega) (by omega) (by omega)) (by omega) rfl (by decide) (by decide) rfl sq_c_54 rfl (Nat.le_of_ble_eq_true rfl) ?_
  refine sr_if_eqN (tgt := 45) hA si_53_39 (by decide) (by omega) (fun c3 => absurd c3 (by omega)) (fun c3 => ?_)
  refine sr_bipush (v := (-2)) hA si_53_42 (by decide) ?_
  exact sr_iretF hA si_53_44 sq_r_53 rfl rfl
set_option maxRecDepth 20000 in
theorem mc_play_a (X : sp_X) (g : sp_G) {i : Int32} (hi : i < 0) {n : Nat} (hn : g.1 64 11 = nI n) : sp_Ct X 9 173 [.ref 64, .int i] g (sp_Fi (-1) g) := by
  refine sp_walkN (n := 2) sq_p_173 sq_l_173 (Nat.le_of_ble_eq_true rfl) (fun a hA => ?_)
  show sp_Ev X a 173 0 [.ref 64, .int i] [] g
  refine sr_aload_n hA si_173_0 rfl ?_
  refine sr_iload_n hA si_173_1 rfl ?_
  refine sr_VFi (c := 64) (ci := 8) (as := [.int i]) (st := []) hA si_173_2 sv_162 sk_173_174 (mc_isKeyM X g (n := n) hn hi) (by omega) rfl (by decide) (by decide) rfl sq_c_162 rfl (Nat.le_of_ble_eq_true rfl) ?_
  refine sr_if_neN (tgt := 10) hA si_173_5 (by decide) (by omega) (fun c1 => absurd c1 (by omega)) (fun c1 => ?_)
  refine sr_iconst (v := (-1)) hA si_173_8 (by decide) ?_
  exact sr_iretF hA si_173_9 sq_r_173 rfl rfl
set_option maxRecDepth 20000 in
theorem mc_play_b (X : sp_X) (g : sp_G) {i : Nat} (hib : i < 2 ^ 31) {n : Nat} (hn : g.1 64 11 = nI n) (hb : n ≤ 6) (hi : n ≤ i) : sp_Ct X 9 173 [.ref 64, .int (nI i)] g (sp_Fi (-1) g) := by
  refine sp_walkN (n := 2) sq_p_173 sq_l_173 (Nat.le_of_ble_eq_true rfl) (fun a hA => ?_)
  show sp_Ev X a 173 0 [.ref 64, .int (nI i)] [] g
  refine sr_aload_n hA si_173_0 rfl ?_
  refine sr_iload_n hA si_173_1 rfl ?_
  refine sr_VFi (c := 64) (ci := 8) (as := [.int (nI i)]) (st := []) hA si_173_2 sv_162 sk_173_174 (mc_isKeyH X g (n := n) hn (by omega) (by omega)) (by omega) rfl (by decide) (by decide) rfl sq_c_162 rfl (Nat.le_of_ble_eq_true rfl) ?_
  refine sr_if_neN (tgt := 10) hA si_173_5 (by decide) (by omega) (fun c1 => absurd c1 (by omega)) (fun c1 => ?_)
  refine sr_iconst (v := (-1)) hA si_173_8 (by decide) ?_
  exact sr_iretF hA si_173_9 sq_r_173 rfl rfl
set_option maxRecDepth 20000 in
theorem mc_play_c (X : sp_X) (g : sp_G) {i : Nat} (hi : i < 6) {n : Nat} (hn : g.1 64 11 = nI n) (hb : n ≤ 6) (hin : i < n) {k : Nat} (hk : g.1 71 i = nI k) (hkb : k ≤ 5) (hcb : ¬ sp_cb (g.1 71 i) (g.1 72 i) (g.1 75 (9 * 0 + i)) = true) : sp_Ct X 9 173 [.ref 64, .int (nI i)] g (sp_Fi (-4) g) := by
  refine sp_walkN (n := 2) sq_p_173 sq_l_173 (Nat.le_of_ble_eq_true rfl) (fun a hA => ?_)
  show sp_Ev X a 173 0 [.ref 64, .int (nI i)] [] g
  refine sr_aload_n hA si_173_0 rfl ?_
  refine sr_iload_n hA si_173_1 rfl ?_
  refine sr_VFi (c := 64) (ci := 8) (as := [.int (nI i)]) (st := []) hA si_173_2 sv_162 sk_173_174 (mc_isKey1 X g (n := n) hn (by omega) (by omega)) (by omega) rfl (by decide) (by decide) rfl sq_c_162 rfl (Nat.le_of_ble_eq_true rfl) ?_
  refine sr_if_neN (tgt := 10) hA si_173_5 (by decide) (by omega) (fun c1 => ?_) (fun c1 => absurd c1 (by omega))
  refine sr_aload_n hA si_173_10 rfl ?_
  refine sr_iconst (v := nI 0) hA si_173_11 (by decide) ?_
  refine sr_iload_n hA si_173_12 rfl ?_
  refine sr_VFi (c := 64) (ci := 8) (as := [.int (nI 0), .int (nI i)]) (st := []) hA si_173_13 sv_165 sk_173_155 (mc_canPlay0 X g (f := 0) (i := i) (by omega) (by omega) hk hkb hcb) (by omega) rfl (by decide) (by decide) rfl sq_c_165 rfl (Nat.le_of_ble_eq_true rfl) ?_
  refine sr_if_neN (tgt := 22) hA si_173_16 (by decide) (by omega) (fun c2 => absurd c2 (by omega)) (fun c2 => ?_)
  refine sr_bipush (v := (-4)) hA si_173_19 (by decide) ?_
  exact sr_iretF hA si_173_21 sq_r_173 rfl rfl
set_option maxRecDepth 20000 in
theorem mc_play_d (X : sp_X) (g : sp_G) {i : Nat} (hi : i < 6) {n : Nat} (hn : g.1 64 11 = nI n) (hb : n ≤ 6) (hin : i < n) {k : Nat} (hk : g.1 71 i = nI k) (hkb : k ≤ 5) (hcb : sp_cb (g.1 71 i) (g.1 72 i) (g.1 75 (9 * 0 + i)) = true) (hd : g.1 64 21 = nI 60) : sp_Ct X 9 173 [.ref 64, .int (nI i)] g (sp_Fi (-2) g) := by
  refine sp_walkN (n := 2) sq_p_173 sq_l_173 (Nat.le_of_ble_eq_true rfl) (fun a hA => ?_)
  show sp_Ev X a 173 0 [.ref 64, .int (nI i)] [] g
  refine sr_aload_n hA si_173_0 rfl ?_
  refine sr_iload_n hA si_173_1 rfl ?_
  refine sr_VFi (c := 64) (ci := 8) (as := [.int (nI i)]) (st := []) hA si_173_2 sv_162 sk_173_174 (mc_isKey1 X g (n := n) hn (by omega) (by omega)) (by omega) rfl (by decide) (by decide) rfl sq_c_162 rfl (Nat.le_of_ble_eq_true rfl) ?_
  refine sr_if_neN (tgt := 10) hA si_173_5 (by decide) (by omega) (fun c1 => ?_) (fun c1 => absurd c1 (by omega))
  refine sr_aload_n hA si_173_10 rfl ?_
  refine sr_iconst (v := nI 0) hA si_173_11 (by decide) ?_
  refine sr_iload_n hA si_173_12 rfl ?_
  refine sr_VFi (c := 64) (ci := 8) (as := [.int (nI 0), .int (nI i)]) (st := []) hA si_173_13 sv_165 sk_173_155 (mc_canPlay1 X g (f := 0) (i := i) (by omega) (by omega) hk hkb hcb) (by omega) rfl (by decide) (by decide) rfl sq_c_165 rfl (Nat.le_of_ble_eq_true rfl) ?_
  refine sr_if_neN (tgt := 22) hA si_173_16 (by decide) (by omega) (fun c2 => ?_) (fun c2 => absurd c2 (by omega))
  refine sr_aload_n hA si_173_22 rfl ?_
  refine sr_getIv (v := nI 60) hA si_173_23 sf_173_149 (by decide) (by decide) rfl (by decide) hd ?_
  refine sr_bipush (v := nI 60) hA si_173_26 (by decide) ?_
  refine sr_icmp_neN (tgt := 34) hA si_173_28 (by decide) (by omega) (by omega) (fun c3 => absurd c3 (by omega)) (fun c3 => ?_)
  refine sr_bipush (v := (-2)) hA si_173_31 (by decide) ?_
  exact sr_iretF hA si_173_33 sq_r_173 rfl rfl
set_option maxRecDepth 20000 in
theorem xc_play_e (X : sp_X) (g : sp_G) {i : Nat} (hi : i < 6) {n : Nat} (hn : g.1 18 3 = nI n) (hb : n ≤ 6) (hin : i < n) {k : Nat} (hk : g.1 19 i = nI k) (hkb : k ≤ 5) (hcb : sp_cb (g.1 19 i) (g.1 20 i) (g.1 42 i) = true) {dm : Nat} (hd : g.1 47 1 = nI dm) (hdb : dm < 60) {b : Nat} (hbe : g.1 41 1 = nI b) (hB : b < 2 ^ 31) : sp_Ct X 9 53 [.ref 0, .int (nI i)] g (sp_Fi (g.1 21 i) (sp_dx g dm (sp_pl n (g.1 19) (g.1 21) (sp_sv g 41 42) i))) := by
  refine sp_walkN (n := 2) sq_p_53 sq_l_53 (Nat.le_of_ble_eq_true rfl) (fun a hA => ?_)
  show sp_Ev X a 53 0 [.ref 0, .int (nI i)] [] g
  refine sr_aload_n hA si_53_0 rfl ?_
  refine sr_getR (r := 18) hA si_53_1 sf_53_32 (by decide) (by decide) rfl rfl rfl ?_
  refine sr_iload_n hA si_53_4 rfl ?_
  refine sr_VFi (c := 18) (ci := 0) (as := [.int (nI i)]) (st := []) hA si_53_5 sv_43 sk_53_148 (xc_isKey1 X g (n := n) hn (by omega) (by omega)) (by omega) rfl (by decide) (by decide) rfl sq_c_43 rfl (Nat.le_of_ble_eq_true rfl) ?_
  refine sr_if_neN (tgt := 13) hA si_53_8 (by decide) (by omega) (fun c1 => ?_) (fun c1 => absurd c1 (by omega))
  refine sr_aload_n hA si_53_13 rfl ?_
  refine sr_getR (r := 18) hA si_53_14 sf_53_32 (by decide) (by decide) rfl rfl rfl ?_
  refine sr_iload_n hA si_53_17 rfl ?_
  refine sr_aload_n hA si_53_18 rfl ?_
  refine sr_getR (r := 41) hA si_53_19 sf_53_36 (by decide) (by decide) rfl rfl rfl ?_
  refine sr_VFi (c := 18) (ci := 0) (as := [.int (nI i), .ref 41]) (st := []) hA si_53_22 sv_45 sk_53_185 (xc_bears1 X g sp_sd41 (i := i) (by omega) hk hkb hcb) (by omega) rfl (by decide) (by decide) rfl sq_c_45 rfl (Nat.le_of_ble_eq_true rfl) ?_
  refine sr_if_neN (tgt := 31) hA si_53_25 (by decide) (by omega) (fun c2 => ?_) (fun c2 => absurd c2 (by omega))
  refine sr_aload_n hA si_53_31 rfl ?_
  refine sr_getR (r := 47) hA si_53_32 sf_53_49 (by decide) (by decide) rfl rfl rfl ?_
  refine sr_iconst (v := nI 1) hA si_53_35 (by decide) ?_
  refine sr_VFi (c := 47) (ci := 6) (as := [.int (nI 1)]) (st := []) hA si_53_36 sv_54 sk_53_189 (xc_full0 X g hd (by omega)) (by omega) rfl (by decide) (by decide) rfl sq_c_54 rfl (Nat.le_of_ble_eq_true rfl) ?_
  refine sr_if_eqN (tgt := 45) hA si_53_39 (by decide) (by omega) (fun c3 => ?_) (fun c3 => absurd c3 (by omega))
  refine sr_aload_n hA si_53_45 rfl ?_
  refine sr_getR (r := 18) hA si_53_46 sf_53_32 (by decide) (by decide) rfl rfl rfl ?_
  refine sr_iload_n hA si_53_49 rfl ?_
  refine sr_aload_n hA si_53_50 rfl ?_
  refine sr_getR (r := 41) hA si_53_51 sf_53_36 (by decide) (by decide) rfl rfl rfl ?_
  refine sr_VFv (c := 18) (ci := 0) (as := [.int (nI i), .ref 41]) (st := []) hA si_53_54 sv_55 sk_53_192 (xc_sound X g sp_sd41 (i := i) (n := n) hn (by omega) (by omega) hk hkb hbe hB) (by omega) rfl (by decide) (by decide) rfl sq_c_55 rfl (Nat.le_of_ble_eq_true rfl) ?_
  refine sr_aload_n hA si_53_57 rfl ?_
  refine sr_getR (r := 47) hA si_53_58 sf_53_49 (by decide) (by decide) rfl rfl rfl ?_
  refine sr_aload_n hA si_53_61 rfl ?_
  refine sr_getR (r := 41) hA si_53_62 sf_53_36 (by decide) (by decide) rfl rfl rfl ?_
  refine sr_VFv (c := 47) (ci := 6) (as := [.ref 41]) (st := []) hA si_53_65 sv_58 sk_53_196 (xc_add X (sp_sS g 41 42 (sp_pl n (g.1 19) (g.1 21) (sp_sv g 41 42) i)) hd (by omega)) (by omega) rfl (by decide) (by decide) rfl sq_c_58 rfl (Nat.le_of_ble_eq_true rfl) ?_
  refine sr_aload_n hA si_53_68 rfl ?_
  refine sr_getR (r := 18) hA si_53_69 sf_53_32 (by decide) (by decide) rfl rfl rfl ?_
  refine sr_getR (r := 21) hA si_53_72 sf_53_199 (by decide) (by decide) rfl rfl rfl ?_
  refine sr_iload_n hA si_53_75 rfl ?_
  refine sr_ialdNv (v := g.1 21 i) (n := 6) hA si_53_76 (by decide) rfl rfl (by omega) (by decide) rfl ?_
  exact sr_iretF hA si_53_77 sq_r_53 rfl rfl
set_option maxRecDepth 20000 in
theorem mc_play_e (X : sp_X) (g : sp_G) {i : Nat} (hi : i < 6) {n : Nat} (hn : g.1 64 11 = nI n) (hb : n ≤ 6) (hin : i < n) {k : Nat} (hk : g.1 71 i = nI k) (hkb : k ≤ 5) (hcb : sp_cb (g.1 71 i) (g.1 72 i) (g.1 75 (9 * 0 + i)) = true) {dm : Nat} (hd : g.1 64 21 = nI dm) (hdb : dm < 60) : sp_Ct X 9 173 [.ref 64, .int (nI i)] g (sp_Fi (g.1 73 i) (sp_sP (sp_dr g dm) 0 (sp_pl n ((sp_dr g dm).1 71) ((sp_dr g dm).1 73) (sp_pv (sp_dr g dm) 0) i))) := by
  refine sp_walkN (n := 2) sq_p_173 sq_l_173 (Nat.le_of_ble_eq_true rfl) (fun a hA => ?_)
  show sp_Ev X a 173 0 [.ref 64, .int (nI i)] [] g
  refine sr_aload_n hA si_173_0 rfl ?_
  refine sr_iload_n hA si_173_1 rfl ?_
  refine sr_VFi (c := 64) (ci := 8) (as := [.int (nI i)]) (st := []) hA si_173_2 sv_162 sk_173_174 (mc_isKey1 X g (n := n) hn (by omega) (by omega)) (by omega) rfl (by decide) (by decide) rfl sq_c_162 rfl (Nat.le_of_ble_eq_true rfl) ?_
  refine sr_if_neN (tgt := 10) hA si_173_5 (by decide) (by omega) (fun c1 => ?_) (fun c1 => absurd c1 (by omega))
  refine sr_aload_n hA si_173_10 rfl ?_
  refine sr_iconst (v := nI 0) hA si_173_11 (by decide) ?_
  refine sr_iload_n hA si_173_12 rfl ?_
  refine sr_VFi (c := 64) (ci := 8) (as := [.int (nI 0), .int (nI i)]) (st := []) hA si_173_13 sv_165 sk_173_155 (mc_canPlay1 X g (f := 0) (i := i) (by omega) (by omega) hk hkb hcb) (by omega) rfl (by decide) (by decide) rfl sq_c_165 rfl (Nat.le_of_ble_eq_true rfl) ?_
  refine sr_if_neN (tgt := 22) hA si_173_16 (by decide) (by omega) (fun c2 => ?_) (fun c2 => absurd c2 (by omega))
  refine sr_aload_n hA si_173_22 rfl ?_
  refine sr_getIv (v := nI dm) hA si_173_23 sf_173_149 (by decide) (by decide) rfl (by decide) hd ?_
  refine sr_bipush (v := nI 60) hA si_173_26 (by decide) ?_
  refine sr_icmp_neN (tgt := 34) hA si_173_28 (by decide) (by omega) (by omega) (fun c3 => ?_) (fun c3 => absurd c3 (by omega))
  refine sr_aload_n hA si_173_34 rfl ?_
  refine sr_VFv (c := 64) (ci := 8) (as := []) (st := []) hA si_173_35 sv_174 sk_173_189 (mc_remember X g hd (by omega)) (by omega) rfl (by decide) (by decide) rfl sq_c_174 rfl (Nat.le_of_ble_eq_true rfl) ?_
  refine sr_aload_n hA si_173_38 rfl ?_
  refine sr_iconst (v := nI 0) hA si_173_39 (by decide) ?_
  refine sr_iload_n hA si_173_40 rfl ?_
  refine sr_VFv (c := 64) (ci := 8) (as := [.int (nI 0), .int (nI i)]) (st := []) hA si_173_41 sv_175 sk_173_192 (mc_plays X (sp_wI (sp_sG g 76 dm (g.1 75)) 64 21 (nI (dm + 1))) (f := 0) (i := i) (n := n) hn (by omega) (by omega) (by omega) hk hkb) (by omega) rfl (by decide) (by decide) rfl sq_c_175 rfl (Nat.le_of_ble_eq_true rfl) ?_
  refine sr_aload_n hA si_173_44 rfl ?_
  refine sr_getR (r := 73) hA si_173_45 sf_173_39 (by decide) (by decide) rfl rfl rfl ?_
  refine sr_iload_n hA si_173_48 rfl ?_
  refine sr_ialdNv (v := g.1 73 i) (n := 6) hA si_173_49 (by decide) rfl rfl (by omega) (by decide) rfl ?_
  exact sr_iretF hA si_173_50 sq_r_173 rfl rfl
set_option maxRecDepth 20000 in
theorem xc_tide_a (X : sp_X) (g : sp_G) {h : Int32} (hh : h < 0) : sp_Ct X 9 59 [.ref 0, .int h] g (sp_Fi (-1) g) := by
  refine sp_walkN (n := 3) sq_p_59 sq_l_59 (Nat.le_of_ble_eq_true rfl) (fun a hA => ?_)
  show sp_Ev X a 59 0 [.ref 0, .int h, .null] [] g
  refine sr_iload_n hA si_59_0 rfl ?_
  refine sr_if_lt (tgt := 10) hA si_59_1 (by decide) (fun c1 => ?_) (fun c1 => absurd hh c1)
  refine sr_iconst (v := (-1)) hA si_59_10 (by decide) ?_
  exact sr_iretF hA si_59_11 sq_r_59 rfl rfl
set_option maxRecDepth 20000 in
theorem xc_tide_b (X : sp_X) (g : sp_G) {h : Nat} (hh : 10 ≤ h) (hhb : h < 2 ^ 31) : sp_Ct X 9 59 [.ref 0, .int (nI h)] g (sp_Fi (-1) g) := by
  refine sp_walkN (n := 3) sq_p_59 sq_l_59 (Nat.le_of_ble_eq_true rfl) (fun a hA => ?_)
  show sp_Ev X a 59 0 [.ref 0, .int (nI h), .null] [] g
  refine sr_iload_n hA si_59_0 rfl ?_
  refine sr_if_ltN (tgt := 10) hA si_59_1 (by decide) (by omega) ?_
  refine sr_iload_n hA si_59_4 rfl ?_
  refine sr_bipush (v := nI 9) hA si_59_5 (by decide) ?_
  refine sr_icmp_leN (tgt := 12) hA si_59_7 (by decide) (by omega) (by omega) (fun c2 => absurd c2 (by omega)) (fun c2 => ?_)
  refine sr_iconst (v := (-1)) hA si_59_10 (by decide) ?_
  exact sr_iretF hA si_59_11 sq_r_59 rfl rfl
set_option maxRecDepth 20000 in
theorem xc_tide_c (X : sp_X) (g : sp_G) {h : Nat} (hh : h < 10) (hn : g.1 18 3 = nI 0) {dm : Nat} (hd : g.1 47 1 = nI dm) : sp_Ct X 9 59 [.ref 0, .int (nI h)] g (sp_Fi (-4) g) := by
  refine sp_walkN (n := 3) sq_p_59 sq_l_59 (Nat.le_of_ble_eq_true rfl) (fun a hA => ?_)
  show sp_Ev X a 59 0 [.ref 0, .int (nI h), .null] [] g
  refine sr_iload_n hA si_59_0 rfl ?_
  refine sr_if_ltN (tgt := 10) hA si_59_1 (by decide) (by omega) ?_
  refine sr_iload_n hA si_59_4 rfl ?_
  refine sr_bipush (v := nI 9) hA si_59_5 (by decide) ?_
  refine sr_icmp_leN (tgt := 12) hA si_59_7 (by decide) (by omega) (by omega) (fun c2 => ?_) (fun c2 => absurd c2 (by omega))
  refine sr_aload_n hA si_59_12 rfl ?_
  refine sr_getR (r := 18) hA si_59_13 sf_59_32 (by decide) (by decide) rfl rfl rfl ?_
  refine sr_getIv (v := nI 0) hA si_59_16 sf_59_145 (by decide) (by decide) rfl (by decide) hn ?_
  refine sr_if_neN (tgt := 25) hA si_59_19 (by decide) (by omega) (fun c3 => absurd c3 (by omega)) (fun c3 => ?_)
  refine sr_bipush (v := (-4)) hA si_59_22 (by decide) ?_
  exact sr_iretF hA si_59_24 sq_r_59 rfl rfl
set_option maxRecDepth 20000 in
theorem xc_tide_d (X : sp_X) (g : sp_G) {h : Nat} (hh : h < 10) {n : Nat} (hn : g.1 18 3 = nI n) (hb : n ≤ 6) (hn0 : 0 < n) (hd : g.1 47 1 = nI 60) : sp_Ct X 9 59 [.ref 0, .int (nI h)] g (sp_Fi (-2) g) := by
  refine sp_walkN (n := 3) sq_p_59 sq_l_59 (Nat.le_of_ble_eq_true rfl) (fun a hA => ?_)
  show sp_Ev X a 59 0 [.ref 0, .int (nI h), .null] [] g
  refine sr_iload_n hA si_59_0 rfl ?_
  refine sr_if_ltN (tgt := 10) hA si_59_1 (by decide) (by omega) ?_
  refine sr_iload_n hA si_59_4 rfl ?_
  refine sr_bipush (v := nI 9) hA si_59_5 (by decide) ?_
  refine sr_icmp_leN (tgt := 12) hA si_59_7 (by decide) (by omega) (by omega) (fun c2 => ?_) (fun c2 => absurd c2 (by omega))
  refine sr_aload_n hA si_59_12 rfl ?_
  refine sr_getR (r := 18) hA si_59_13 sf_59_32 (by decide) (by decide) rfl rfl rfl ?_
  refine sr_getIv (v := nI n) hA si_59_16 sf_59_145 (by decide) (by decide) rfl (by decide) hn ?_
  refine sr_if_neN (tgt := 25) hA si_59_19 (by decide) (by omega) (fun c3 => ?_) (fun c3 => absurd c3 (by omega))
  refine sr_aload_n hA si_59_25 rfl ?_
  refine sr_getR (r := 47) hA si_59_26 sf_59_49 (by decide) (by decide) rfl rfl rfl ?_
  refine sr_iconst (v := nI 1) hA si_59_29 (by decide) ?_
  refine sr_VFi (c := 47) (ci := 6) (as := [.int (nI 1)]) (st := []) hA si_59_30 sv_54 sk_59_189 (xc_full1 X g hd (by omega) (by omega) (by omega)) (by omega) rfl (by decide) (by decide) rfl sq_c_54 rfl (Nat.le_of_ble_eq_true rfl) ?_
  refine sr_if_eqN (tgt := 39) hA si_59_33 (by decide) (by omega) (fun c4 => absurd c4 (by omega)) (fun c4 => ?_)
  refine sr_bipush (v := (-2)) hA si_59_36 (by decide) ?_
  exact sr_iretF hA si_59_38 sq_r_59 rfl rfl
set_option maxRecDepth 20000 in
theorem mc_tide_a (X : sp_X) (g : sp_G) {h : Int32} (hh : h < 0) : sp_Ct X 9 179 [.ref 64, .int h] g (sp_Fi (-1) g) := by
  refine sp_walkN (n := 3) sq_p_179 sq_l_179 (Nat.le_of_ble_eq_true rfl) (fun a hA => ?_)
  show sp_Ev X a 179 0 [.ref 64, .int h, .null] [] g
  refine sr_iload_n hA si_179_0 rfl ?_
  refine sr_iconst (v := nI 0) hA si_179_1 (by decide) ?_
  refine sr_bipush (v := nI 9) hA si_179_2 (by decide) ?_
  refine sr_SFi (as := [.int h, .int (nI 0), .int (nI 9)]) (st := []) hA si_179_4 ss_135 sk_179_83 (mc_inM X g hh (by omega)) (by omega) rfl rfl (Nat.le_of_ble_eq_true rfl) ?_
  refine sr_if_neN (tgt := 12) hA si_179_7 (by decide) (by omega) (fun c1 => absurd c1 (by omega)) (fun c1 => ?_)
  refine sr_iconst (v := (-1)) hA si_179_10 (by decide) ?_
  exact sr_iretF hA si_179_11 sq_r_179 rfl rfl
set_option maxRecDepth 20000 in
theorem mc_tide_b (X : sp_X) (g : sp_G) {h : Nat} (hh : 10 ≤ h) (hhb : h < 2 ^ 31) : sp_Ct X 9 179 [.ref 64, .int (nI h)] g (sp_Fi (-1) g) := by
  refine sp_walkN (n := 3) sq_p_179 sq_l_179 (Nat.le_of_ble_eq_true rfl) (fun a hA => ?_)
  show sp_Ev X a 179 0 [.ref 64, .int (nI h), .null] [] g
  refine sr_iload_n hA si_179_0 rfl ?_
  refine sr_iconst (v := nI 0) hA si_179_1 (by decide) ?_
  refine sr_bipush (v := nI 9) hA si_179_2 (by decide) ?_
  refine sr_SFi (as := [.int (nI h), .int (nI 0), .int (nI 9)]) (st := []) hA si_179_4 ss_135 sk_179_83 (mc_inH X g (by omega) (by omega)) (by omega) rfl rfl (Nat.le_of_ble_eq_true rfl) ?_
  refine sr_if_neN (tgt := 12) hA si_179_7 (by decide) (by omega) (fun c1 => absurd c1 (by omega)) (fun c1 => ?_)
  refine sr_iconst (v := (-1)) hA si_179_10 (by decide) ?_
  exact sr_iretF hA si_179_11 sq_r_179 rfl rfl
set_option maxRecDepth 20000 in
theorem mc_tide_c (X : sp_X) (g : sp_G) {h : Nat} (hh : h < 10) (hn : g.1 64 11 = nI 0) {dm : Nat} (hd : g.1 64 21 = nI dm) : sp_Ct X 9 179 [.ref 64, .int (nI h)] g (sp_Fi (-4) g) := by
  refine sp_walkN (n := 3) sq_p_179 sq_l_179 (Nat.le_of_ble_eq_true rfl) (fun a hA => ?_)
  show sp_Ev X a 179 0 [.ref 64, .int (nI h), .null] [] g
  refine sr_iload_n hA si_179_0 rfl ?_
  refine sr_iconst (v := nI 0) hA si_179_1 (by decide) ?_
  refine sr_bipush (v := nI 9) hA si_179_2 (by decide) ?_
  refine sr_SFi (as := [.int (nI h), .int (nI 0), .int (nI 9)]) (st := []) hA si_179_4 ss_135 sk_179_83 (mc_inN X g (by omega) (by omega) (by omega)) (by omega) rfl rfl (Nat.le_of_ble_eq_true rfl) ?_
  refine sr_if_neN (tgt := 12) hA si_179_7 (by decide) (by omega) (fun c1 => ?_) (fun c1 => absurd c1 (by omega))
  refine sr_aload_n hA si_179_12 rfl ?_
  refine sr_VFi (c := 64) (ci := 8) (as := []) (st := []) hA si_179_13 sv_180 sk_179_196 (mc_needS X g hn) (by omega) rfl (by decide) (by decide) rfl sq_c_180 rfl (Nat.le_of_ble_eq_true rfl) ?_
  refine sr_istore_n (ls1 := [.ref 64, .int (nI h), .int (-4)]) hA si_179_16 rfl (by rw [sq_l_179]; decide) rfl ?_
  refine sr_iload_n hA si_179_17 rfl ?_
  refine sr_if_ge (tgt := 23) hA si_179_18 (by decide) (fun c2 => absurd c2 (sp_m4 (by decide))) (fun c2 => ?_)
  refine sr_iload_n hA si_179_21 rfl ?_
  exact sr_iretF hA si_179_22 sq_r_179 rfl rfl
set_option maxRecDepth 20000 in
theorem mc_tide_d (X : sp_X) (g : sp_G) {h : Nat} (hh : h < 10) {n : Nat} (hn : g.1 64 11 = nI n) (hb : n ≤ 6) (hn0 : 0 < n) (hd : g.1 64 21 = nI 60) : sp_Ct X 9 179 [.ref 64, .int (nI h)] g (sp_Fi (-2) g) := by
  refine sp_walkN (n := 3) sq_p_179 sq_l_179 (Nat.le_of_ble_eq_true rfl) (fun a hA => ?_)
  show sp_Ev X a 179 0 [.ref 64, .int (nI h), .null] [] g
  refine sr_iload_n hA si_179_0 rfl ?_
  refine sr_iconst (v := nI 0) hA si_179_1 (by decide) ?_
  refine sr_bipush (v := nI 9) hA si_179_2 (by decide) ?_
  refine sr_SFi (as := [.int (nI h), .int (nI 0), .int (nI 9)]) (st := []) hA si_179_4 ss_135 sk_179_83 (mc_inN X g (by omega) (by omega) (by omega)) (by omega) rfl rfl (Nat.le_of_ble_eq_true rfl) ?_
  refine sr_if_neN (tgt := 12) hA si_179_7 (by decide) (by omega) (fun c1 => ?_) (fun c1 => absurd c1 (by omega))
  refine sr_aload_n hA si_179_12 rfl ?_
  refine sr_VFi (c := 64) (ci := 8) (as := []) (st := []) hA si_179_13 sv_180 sk_179_196 (mc_needF X g hn (by omega) (by omega) hd) (by omega) rfl (by decide) (by decide) rfl sq_c_180 rfl (Nat.le_of_ble_eq_true rfl) ?_
  refine sr_istore_n (ls1 := [.ref 64, .int (nI h), .int (-2)]) hA si_179_16 rfl (by rw [sq_l_179]; decide) rfl ?_
  refine sr_iload_n hA si_179_17 rfl ?_
  refine sr_if_ge (tgt := 23) hA si_179_18 (by decide) (fun c2 => absurd c2 (sp_m4 (by decide))) (fun c2 => ?_)
  refine sr_iload_n hA si_179_21 rfl ?_
  exact sr_iretF hA si_179_22 sq_r_179 rfl rfl
set_option maxRecDepth 20000 in
theorem xc_tide_e (X : sp_X) (g : sp_G) {h : Nat} (hh : h < 10) {n : Nat} (hn : g.1 18 3 = nI n) (hb : n ≤ 6) (hn0 : 0 < n) {dm : Nat} (hd : g.1 47 1 = nI dm) (hdb : dm < 60) : sp_Ct X 9 59 [.ref 0, .int (nI h)] g (sp_Fi (nI (sp_ts h (min n h))) (sp_dx g dm (sp_td n h (sp_sv g 41 42)))) := by
  refine sp_walkN (n := 3) sq_p_59 sq_l_59 (Nat.le_of_ble_eq_true rfl) (fun a hA => ?_)
  show sp_Ev X a 59 0 [.ref 0, .int (nI h), .null] [] g
  refine sr_iload_n hA si_59_0 rfl ?_
  refine sr_if_ltN (tgt := 10) hA si_59_1 (by decide) (by omega) ?_
  refine sr_iload_n hA si_59_4 rfl ?_
  refine sr_bipush (v := nI 9) hA si_59_5 (by decide) ?_
  refine sr_icmp_leN (tgt := 12) hA si_59_7 (by decide) (by omega) (by omega) (fun c2 => ?_) (fun c2 => absurd c2 (by omega))
  refine sr_aload_n hA si_59_12 rfl ?_
  refine sr_getR (r := 18) hA si_59_13 sf_59_32 (by decide) (by decide) rfl rfl rfl ?_
  refine sr_getIv (v := nI n) hA si_59_16 sf_59_145 (by decide) (by decide) rfl (by decide) hn ?_
  refine sr_if_neN (tgt := 25) hA si_59_19 (by decide) (by omega) (fun c3 => ?_) (fun c3 => absurd c3 (by omega))
  refine sr_aload_n hA si_59_25 rfl ?_
  refine sr_getR (r := 47) hA si_59_26 sf_59_49 (by decide) (by decide) rfl rfl rfl ?_
  refine sr_iconst (v := nI 1) hA si_59_29 (by decide) ?_
  refine sr_VFi (c := 47) (ci := 6) (as := [.int (nI 1)]) (st := []) hA si_59_30 sv_54 sk_59_189 (xc_full0 X g hd (by omega)) (by omega) rfl (by decide) (by decide) rfl sq_c_54 rfl (Nat.le_of_ble_eq_true rfl) ?_
  refine sr_if_eqN (tgt := 39) hA si_59_33 (by decide) (by omega) (fun c4 => ?_) (fun c4 => absurd c4 (by omega))
  refine sr_aload_n hA si_59_39 rfl ?_
  refine sr_getR (r := 41) hA si_59_40 sf_59_36 (by decide) (by decide) rfl rfl rfl ?_
  refine sr_iload_n hA si_59_43 rfl ?_
  refine sr_aload_n hA si_59_44 rfl ?_
  refine sr_getR (r := 18) hA si_59_45 sf_59_32 (by decide) (by decide) rfl rfl rfl ?_
  refine sr_getIv (v := nI n) hA si_59_48 sf_59_145 (by decide) (by decide) rfl (by decide) hn ?_
  refine sr_VFi (c := 41) (ci := 2) (as := [.int (nI h), .int (nI n)]) (st := []) hA si_59_51 sv_60 sk_59_202 (xc_flood X g sp_sd41 (h := h) (n := n) (by omega) (by omega)) (by omega) rfl (by decide) (by decide) rfl sq_c_60 rfl (Nat.le_of_ble_eq_true rfl) ?_
  refine sr_istore_n (ls1 := [.ref 0, .int (nI h), .int (nI (sp_ts h (min n h)))]) hA si_59_54 rfl (by rw [sq_l_59]; decide) rfl ?_
  refine sr_aload_n hA si_59_55 rfl ?_
  refine sr_getR (r := 47) hA si_59_56 sf_59_49 (by decide) (by decide) rfl rfl rfl ?_
  refine sr_aload_n hA si_59_59 rfl ?_
  refine sr_getR (r := 41) hA si_59_60 sf_59_36 (by decide) (by decide) rfl rfl rfl ?_
  refine sr_VFv (c := 47) (ci := 6) (as := [.ref 41]) (st := []) hA si_59_63 sv_58 sk_59_196 (xc_add X (sp_sS g 41 42 (sp_td n h (sp_sv g 41 42))) hd (by omega)) (by omega) rfl (by decide) (by decide) rfl sq_c_58 rfl (Nat.le_of_ble_eq_true rfl) ?_
  refine sr_iload_n hA si_59_66 rfl ?_
  exact sr_iretF hA si_59_67 sq_r_59 rfl rfl
set_option maxRecDepth 20000 in
theorem mc_tide_e (X : sp_X) (g : sp_G) {h : Nat} (hh : h < 10) {n : Nat} (hn : g.1 64 11 = nI n) (hb : n ≤ 6) (hn0 : 0 < n) {dm : Nat} (hd : g.1 64 21 = nI dm) (hdb : dm < 60) : sp_Ct X 9 179 [.ref 64, .int (nI h)] g (sp_Fi (nI (sp_ts h (min n h))) (sp_sP (sp_dr g dm) 0 (sp_td n h (sp_pv (sp_dr g dm) 0)))) := by
  refine sp_walkN (n := 3) sq_p_179 sq_l_179 (Nat.le_of_ble_eq_true rfl) (fun a hA => ?_)
  show sp_Ev X a 179 0 [.ref 64, .int (nI h), .null] [] g
  refine sr_iload_n hA si_179_0 rfl ?_
  refine sr_iconst (v := nI 0) hA si_179_1 (by decide) ?_
  refine sr_bipush (v := nI 9) hA si_179_2 (by decide) ?_
  refine sr_SFi (as := [.int (nI h), .int (nI 0), .int (nI 9)]) (st := []) hA si_179_4 ss_135 sk_179_83 (mc_inN X g (by omega) (by omega) (by omega)) (by omega) rfl rfl (Nat.le_of_ble_eq_true rfl) ?_
  refine sr_if_neN (tgt := 12) hA si_179_7 (by decide) (by omega) (fun c1 => ?_) (fun c1 => absurd c1 (by omega))
  refine sr_aload_n hA si_179_12 rfl ?_
  refine sr_VFi (c := 64) (ci := 8) (as := []) (st := []) hA si_179_13 sv_180 sk_179_196 (mc_need0 X g hn (by omega) (by omega) hd (by omega)) (by omega) rfl (by decide) (by decide) rfl sq_c_180 rfl (Nat.le_of_ble_eq_true rfl) ?_
  refine sr_istore_n (ls1 := [.ref 64, .int (nI h), .int (nI 0)]) hA si_179_16 rfl (by rw [sq_l_179]; decide) rfl ?_
  refine sr_iload_n hA si_179_17 rfl ?_
  refine sr_if_geN (tgt := 23) hA si_179_18 (by decide) (by omega) ?_
  refine sr_aload_n hA si_179_23 rfl ?_
  refine sr_VFv (c := 64) (ci := 8) (as := []) (st := []) hA si_179_24 sv_174 sk_179_189 (mc_remember X g hd (by omega)) (by omega) rfl (by decide) (by decide) rfl sq_c_174 rfl (Nat.le_of_ble_eq_true rfl) ?_
  refine sr_aload_n hA si_179_27 rfl ?_
  refine sr_iconst (v := nI 0) hA si_179_28 (by decide) ?_
  refine sr_iload_n hA si_179_29 rfl ?_
  refine sr_VFi (c := 64) (ci := 8) (as := [.int (nI 0), .int (nI h)]) (st := []) hA si_179_30 sv_181 sk_179_200 (mc_tides X (sp_wI (sp_sG g 76 dm (g.1 75)) 64 21 (nI (dm + 1))) (f := 0) (h := h) (n := n) hn (by omega) (by omega) (by omega)) (by omega) rfl (by decide) (by decide) rfl sq_c_181 rfl (Nat.le_of_ble_eq_true rfl) ?_
  exact sr_iretF hA si_179_33 sq_r_179 rfl rfl
set_option maxRecDepth 20000 in
theorem xc_storm_a (X : sp_X) (g : sp_G) {h : Int32} (hh : h < 0) : sp_Ct X 9 61 [.ref 0, .int h] g (sp_Fi (-1) g) := by
  refine sp_walkN (n := 3) sq_p_61 sq_l_61 (Nat.le_of_ble_eq_true rfl) (fun a hA => ?_)
  show sp_Ev X a 61 0 [.ref 0, .int h, .null] [] g
  refine sr_iload_n hA si_61_0 rfl ?_
  refine sr_if_lt (tgt := 9) hA si_61_1 (by decide) (fun c1 => ?_) (fun c1 => absurd hh c1)
  refine sr_iconst (v := (-1)) hA si_61_9 (by decide) ?_
  exact sr_iretF hA si_61_10 sq_r_61 rfl rfl
set_option maxRecDepth 20000 in
theorem xc_storm_b (X : sp_X) (g : sp_G) {h : Nat} (hh : 2 ≤ h) (hhb : h < 2 ^ 31) : sp_Ct X 9 61 [.ref 0, .int (nI h)] g (sp_Fi (-1) g) := by
  refine sp_walkN (n := 3) sq_p_61 sq_l_61 (Nat.le_of_ble_eq_true rfl) (fun a hA => ?_)
  show sp_Ev X a 61 0 [.ref 0, .int (nI h), .null] [] g
  refine sr_iload_n hA si_61_0 rfl ?_
  refine sr_if_ltN (tgt := 9) hA si_61_1 (by decide) (by omega) ?_
  refine sr_iload_n hA si_61_4 rfl ?_
  refine sr_iconst (v := nI 1) hA si_61_5 (by decide) ?_
  refine sr_icmp_leN (tgt := 11) hA si_61_6 (by decide) (by omega) (by omega) (fun c2 => absurd c2 (by omega)) (fun c2 => ?_)
  refine sr_iconst (v := (-1)) hA si_61_9 (by decide) ?_
  exact sr_iretF hA si_61_10 sq_r_61 rfl rfl
set_option maxRecDepth 20000 in
theorem xc_storm_c (X : sp_X) (g : sp_G) {h : Nat} (hh : h < 2) (hn : g.1 18 3 = nI 0) {dm : Nat} (hd : g.1 47 1 = nI dm) : sp_Ct X 9 61 [.ref 0, .int (nI h)] g (sp_Fi (-4) g) := by
  refine sp_walkN (n := 3) sq_p_61 sq_l_61 (Nat.le_of_ble_eq_true rfl) (fun a hA => ?_)
  show sp_Ev X a 61 0 [.ref 0, .int (nI h), .null] [] g
  refine sr_iload_n hA si_61_0 rfl ?_
  refine sr_if_ltN (tgt := 9) hA si_61_1 (by decide) (by omega) ?_
  refine sr_iload_n hA si_61_4 rfl ?_
  refine sr_iconst (v := nI 1) hA si_61_5 (by decide) ?_
  refine sr_icmp_leN (tgt := 11) hA si_61_6 (by decide) (by omega) (by omega) (fun c2 => ?_) (fun c2 => absurd c2 (by omega))
  refine sr_aload_n hA si_61_11 rfl ?_
  refine sr_getR (r := 18) hA si_61_12 sf_61_32 (by decide) (by decide) rfl rfl rfl ?_
  refine sr_getIv (v := nI 0) hA si_61_15 sf_61_145 (by decide) (by decide) rfl (by decide) hn ?_
  refine sr_if_neN (tgt := 24) hA si_61_18 (by decide) (by omega) (fun c3 => absurd c3 (by omega)) (fun c3 => ?_)
  refine sr_bipush (v := (-4)) hA si_61_21 (by decide) ?_
  exact sr_iretF hA si_61_23 sq_r_61 rfl rfl
set_option maxRecDepth 20000 in
theorem xc_storm_d (X : sp_X) (g : sp_G) {h : Nat} (hh : h < 2) {n : Nat} (hn : g.1 18 3 = nI n) (hb : n ≤ 6) (hn0 : 0 < n) (hd : g.1 47 1 = nI 60) : sp_Ct X 9 61 [.ref 0, .int (nI h)] g (sp_Fi (-2) g) := by
  refine sp_walkN (n := 3) sq_p_61 sq_l_61 (Nat.le_of_ble_eq_true rfl) (fun a hA => ?_)
  show sp_Ev X a 61 0 [.ref 0, .int (nI h), .null] [] g
  refine sr_iload_n hA si_61_0 rfl ?_
  refine sr_if_ltN (tgt := 9) hA si_61_1 (by decide) (by omega) ?_
  refine sr_iload_n hA si_61_4 rfl ?_
  refine sr_iconst (v := nI 1) hA si_61_5 (by decide) ?_
  refine sr_icmp_leN (tgt := 11) hA si_61_6 (by decide) (by omega) (by omega) (fun c2 => ?_) (fun c2 => absurd c2 (by omega))
  refine sr_aload_n hA si_61_11 rfl ?_
  refine sr_getR (r := 18) hA si_61_12 sf_61_32 (by decide) (by decide) rfl rfl rfl ?_
  refine sr_getIv (v := nI n) hA si_61_15 sf_61_145 (by decide) (by decide) rfl (by decide) hn ?_
  refine sr_if_neN (tgt := 24) hA si_61_18 (by decide) (by omega) (fun c3 => ?_) (fun c3 => absurd c3 (by omega))
  refine sr_aload_n hA si_61_24 rfl ?_
  refine sr_getR (r := 47) hA si_61_25 sf_61_49 (by decide) (by decide) rfl rfl rfl ?_
  refine sr_iconst (v := nI 1) hA si_61_28 (by decide) ?_
  refine sr_VFi (c := 47) (ci := 6) (as := [.int (nI 1)]) (st := []) hA si_61_29 sv_54 sk_61_189 (xc_full1 X g hd (by omega) (by omega) (by omega)) (by omega) rfl (by decide) (by decide) rfl sq_c_54 rfl (Nat.le_of_ble_eq_true rfl) ?_
  refine sr_if_eqN (tgt := 38) hA si_61_32 (by decide) (by omega) (fun c4 => absurd c4 (by omega)) (fun c4 => ?_)
  refine sr_bipush (v := (-2)) hA si_61_35 (by decide) ?_
  exact sr_iretF hA si_61_37 sq_r_61 rfl rfl
set_option maxRecDepth 20000 in
theorem xc_storm_e0 (X : sp_X) (g : sp_G) {n : Nat} (hn : g.1 18 3 = nI n) (hb : n ≤ 6) (hn0 : 0 < n) {dm : Nat} (hd : g.1 47 1 = nI dm) (hdb : dm < 60) : sp_Ct X 9 61 [.ref 0, .int (nI 0)] g (sp_Fi (sp_so n 0 (sp_sv g 41 42)) (sp_dx g dm (sp_sm n 0 (sp_sv g 41 42)))) := by
  refine sp_walkN (n := 3) sq_p_61 sq_l_61 (Nat.le_of_ble_eq_true rfl) (fun a hA => ?_)
  show sp_Ev X a 61 0 [.ref 0, .int (nI 0), .null] [] g
  refine sr_iload_n hA si_61_0 rfl ?_
  refine sr_if_ltN (tgt := 9) hA si_61_1 (by decide) (by omega) ?_
  refine sr_iload_n hA si_61_4 rfl ?_
  refine sr_iconst (v := nI 1) hA si_61_5 (by decide) ?_
  refine sr_icmp_leN (tgt := 11) hA si_61_6 (by decide) (by omega) (by omega) (fun c2 => ?_) (fun c2 => absurd c2 (by omega))
  refine sr_aload_n hA si_61_11 rfl ?_
  refine sr_getR (r := 18) hA si_61_12 sf_61_32 (by decide) (by decide) rfl rfl rfl ?_
  refine sr_getIv (v := nI n) hA si_61_15 sf_61_145 (by decide) (by decide) rfl (by decide) hn ?_
  refine sr_if_neN (tgt := 24) hA si_61_18 (by decide) (by omega) (fun c3 => ?_) (fun c3 => absurd c3 (by omega))
  refine sr_aload_n hA si_61_24 rfl ?_
  refine sr_getR (r := 47) hA si_61_25 sf_61_49 (by decide) (by decide) rfl rfl rfl ?_
  refine sr_iconst (v := nI 1) hA si_61_28 (by decide) ?_
  refine sr_VFi (c := 47) (ci := 6) (as := [.int (nI 1)]) (st := []) hA si_61_29 sv_54 sk_61_189 (xc_full0 X g hd (by omega)) (by omega) rfl (by decide) (by decide) rfl sq_c_54 rfl (Nat.le_of_ble_eq_true rfl) ?_
  refine sr_if_eqN (tgt := 38) hA si_61_32 (by decide) (by omega) (fun c4 => ?_) (fun c4 => absurd c4 (by omega))
  refine sr_iload_n hA si_61_38 rfl ?_
  refine sr_if_neN (tgt := 59) hA si_61_39 (by decide) (by omega) (fun c5 => absurd c5 (by omega)) (fun c5 => ?_)
  refine sr_aload_n hA si_61_42 rfl ?_
  refine sr_getR (r := 41) hA si_61_43 sf_61_36 (by decide) (by decide) rfl rfl rfl ?_
  refine sr_aload_n hA si_61_46 rfl ?_
  refine sr_getR (r := 18) hA si_61_47 sf_61_32 (by decide) (by decide) rfl rfl rfl ?_
  refine sr_getIv (v := nI n) hA si_61_50 sf_61_145 (by decide) (by decide) rfl (by decide) hn ?_
  refine sr_VFi (c := 41) (ci := 2) (as := [.int (nI n)]) (st := []) hA si_61_53 sv_62 sk_61_205 (xc_blowL X g sp_sd41 (n := n) (by omega) (by omega)) (by omega) rfl (by decide) (by decide) rfl sq_c_62 rfl (Nat.le_of_ble_eq_true rfl) ?_
  refine sr_goto (tgt := 73) hA si_61_56 (by decide) ?_
  refine sr_istore_n (ls1 := [.ref 0, .int (nI 0), .int (sp_so n 0 (sp_sv g 41 42))]) hA si_61_73 rfl (by rw [sq_l_61]; decide) rfl ?_
  refine sr_aload_n hA si_61_74 rfl ?_
  refine sr_getR (r := 47) hA si_61_75 sf_61_49 (by decide) (by decide) rfl rfl rfl ?_
  refine sr_aload_n hA si_61_78 rfl ?_
  refine sr_getR (r := 41) hA si_61_79 sf_61_36 (by decide) (by decide) rfl rfl rfl ?_
  refine sr_VFv (c := 47) (ci := 6) (as := [.ref 41]) (st := []) hA si_61_82 sv_58 sk_61_196 (xc_add X (sp_sS g 41 42 (sp_sm n 0 (sp_sv g 41 42))) hd (by omega)) (by omega) rfl (by decide) (by decide) rfl sq_c_58 rfl (Nat.le_of_ble_eq_true rfl) ?_
  refine sr_iload_n hA si_61_85 rfl ?_
  exact sr_iretF hA si_61_86 sq_r_61 rfl rfl
set_option maxRecDepth 20000 in
theorem xc_storm_e1 (X : sp_X) (g : sp_G) {n : Nat} (hn : g.1 18 3 = nI n) (hb : n ≤ 6) (hn0 : 0 < n) {dm : Nat} (hd : g.1 47 1 = nI dm) (hdb : dm < 60) : sp_Ct X 9 61 [.ref 0, .int (nI 1)] g (sp_Fi (sp_so n 1 (sp_sv g 41 42)) (sp_dx g dm (sp_sm n 1 (sp_sv g 41 42)))) := by
  refine sp_walkN (n := 3) sq_p_61 sq_l_61 (Nat.le_of_ble_eq_true rfl) (fun a hA => ?_)
  show sp_Ev X a 61 0 [.ref 0, .int (nI 1), .null] [] g
  refine sr_iload_n hA si_61_0 rfl ?_
  refine sr_if_ltN (tgt := 9) hA si_61_1 (by decide) (by omega) ?_
  refine sr_iload_n hA si_61_4 rfl ?_
  refine sr_iconst (v := nI 1) hA si_61_5 (by decide) ?_
  refine sr_icmp_leN (tgt := 11) hA si_61_6 (by decide) (by omega) (by omega) (fun c2 => ?_) (fun c2 => absurd c2 (by omega))
  refine sr_aload_n hA si_61_11 rfl ?_
  refine sr_getR (r := 18) hA si_61_12 sf_61_32 (by decide) (by decide) rfl rfl rfl ?_
  refine sr_getIv (v := nI n) hA si_61_15 sf_61_145 (by decide) (by decide) rfl (by decide) hn ?_
  refine sr_if_neN (tgt := 24) hA si_61_18 (by decide) (by omega) (fun c3 => ?_) (fun c3 => absurd c3 (by omega))
  refine sr_aload_n hA si_61_24 rfl ?_
  refine sr_getR (r := 47) hA si_61_25 sf_61_49 (by decide) (by decide) rfl rfl rfl ?_
  refine sr_iconst (v := nI 1) hA si_61_28 (by decide) ?_
  refine sr_VFi (c := 47) (ci := 6) (as := [.int (nI 1)]) (st := []) hA si_61_29 sv_54 sk_61_189 (xc_full0 X g hd (by omega)) (by omega) rfl (by decide) (by decide) rfl sq_c_54 rfl (Nat.le_of_ble_eq_true rfl) ?_
  refine sr_if_eqN (tgt := 38) hA si_61_32 (by decide) (by omega) (fun c4 => ?_) (fun c4 => absurd c4 (by omega))
  refine sr_iload_n hA si_61_38 rfl ?_
  refine sr_if_neN (tgt := 59) hA si_61_39 (by decide) (by omega) (fun c5 => ?_) (fun c5 => absurd c5 (by omega))
  refine sr_aload_n hA si_61_59 rfl ?_
  refine sr_getR (r := 41) hA si_61_60 sf_61_36 (by decide) (by decide) rfl rfl rfl ?_
  refine sr_aload_n hA si_61_63 rfl ?_
  refine sr_getR (r := 18) hA si_61_64 sf_61_32 (by decide) (by decide) rfl rfl rfl ?_
  refine sr_getIv (v := nI n) hA si_61_67 sf_61_145 (by decide) (by decide) rfl (by decide) hn ?_
  refine sr_VFi (c := 41) (ci := 2) (as := [.int (nI n)]) (st := []) hA si_61_70 sv_63 sk_61_208 (xc_blowR X g sp_sd41 (n := n) (by omega) (by omega)) (by omega) rfl (by decide) (by decide) rfl sq_c_63 rfl (Nat.le_of_ble_eq_true rfl) ?_
  refine sr_istore_n (ls1 := [.ref 0, .int (nI 1), .int (sp_so n 1 (sp_sv g 41 42))]) hA si_61_73 rfl (by rw [sq_l_61]; decide) rfl ?_
  refine sr_aload_n hA si_61_74 rfl ?_
  refine sr_getR (r := 47) hA si_61_75 sf_61_49 (by decide) (by decide) rfl rfl rfl ?_
  refine sr_aload_n hA si_61_78 rfl ?_
  refine sr_getR (r := 41) hA si_61_79 sf_61_36 (by decide) (by decide) rfl rfl rfl ?_
  refine sr_VFv (c := 47) (ci := 6) (as := [.ref 41]) (st := []) hA si_61_82 sv_58 sk_61_196 (xc_add X (sp_sS g 41 42 (sp_sm n 1 (sp_sv g 41 42))) hd (by omega)) (by omega) rfl (by decide) (by decide) rfl sq_c_58 rfl (Nat.le_of_ble_eq_true rfl) ?_
  refine sr_iload_n hA si_61_85 rfl ?_
  exact sr_iretF hA si_61_86 sq_r_61 rfl rfl
set_option maxRecDepth 20000 in
theorem mc_storm_a (X : sp_X) (g : sp_G) {h : Int32} (hh : h < 0) : sp_Ct X 9 182 [.ref 64, .int h] g (sp_Fi (-1) g) := by
  refine sp_walkN (n := 3) sq_p_182 sq_l_182 (Nat.le_of_ble_eq_true rfl) (fun a hA => ?_)
  show sp_Ev X a 182 0 [.ref 64, .int h, .null] [] g
  refine sr_iload_n hA si_182_0 rfl ?_
  refine sr_iconst (v := nI 0) hA si_182_1 (by decide) ?_
  refine sr_iconst (v := nI 1) hA si_182_2 (by decide) ?_
  refine sr_SFi (as := [.int h, .int (nI 0), .int (nI 1)]) (st := []) hA si_182_3 ss_135 sk_182_83 (mc_inM X g hh (by omega)) (by omega) rfl rfl (Nat.le_of_ble_eq_true rfl) ?_
  refine sr_if_neN (tgt := 11) hA si_182_6 (by decide) (by omega) (fun c1 => absurd c1 (by omega)) (fun c1 => ?_)
  refine sr_iconst (v := (-1)) hA si_182_9 (by decide) ?_
  exact sr_iretF hA si_182_10 sq_r_182 rfl rfl
set_option maxRecDepth 20000 in
theorem mc_storm_b (X : sp_X) (g : sp_G) {h : Nat} (hh : 2 ≤ h) (hhb : h < 2 ^ 31) : sp_Ct X 9 182 [.ref 64, .int (nI h)] g (sp_Fi (-1) g) := by
  refine sp_walkN (n := 3) sq_p_182 sq_l_182 (Nat.le_of_ble_eq_true rfl) (fun a hA => ?_)
  show sp_Ev X a 182 0 [.ref 64, .int (nI h), .null] [] g
  refine sr_iload_n hA si_182_0 rfl ?_
  refine sr_iconst (v := nI 0) hA si_182_1 (by decide) ?_
  refine sr_iconst (v := nI 1) hA si_182_2 (by decide) ?_
  refine sr_SFi (as := [.int (nI h), .int (nI 0), .int (nI 1)]) (st := []) hA si_182_3 ss_135 sk_182_83 (mc_inH X g (by omega) (by omega)) (by omega) rfl rfl (Nat.le_of_ble_eq_true rfl) ?_
  refine sr_if_neN (tgt := 11) hA si_182_6 (by decide) (by omega) (fun c1 => absurd c1 (by omega)) (fun c1 => ?_)
  refine sr_iconst (v := (-1)) hA si_182_9 (by decide) ?_
  exact sr_iretF hA si_182_10 sq_r_182 rfl rfl
set_option maxRecDepth 20000 in
theorem mc_storm_c (X : sp_X) (g : sp_G) {h : Nat} (hh : h < 2) (hn : g.1 64 11 = nI 0) {dm : Nat} (hd : g.1 64 21 = nI dm) : sp_Ct X 9 182 [.ref 64, .int (nI h)] g (sp_Fi (-4) g) := by
  refine sp_walkN (n := 3) sq_p_182 sq_l_182 (Nat.le_of_ble_eq_true rfl) (fun a hA => ?_)
  show sp_Ev X a 182 0 [.ref 64, .int (nI h), .null] [] g
  refine sr_iload_n hA si_182_0 rfl ?_
  refine sr_iconst (v := nI 0) hA si_182_1 (by decide) ?_
  refine sr_iconst (v := nI 1) hA si_182_2 (by decide) ?_
  refine sr_SFi (as := [.int (nI h), .int (nI 0), .int (nI 1)]) (st := []) hA si_182_3 ss_135 sk_182_83 (mc_inN X g (by omega) (by omega) (by omega)) (by omega) rfl rfl (Nat.le_of_ble_eq_true rfl) ?_
  refine sr_if_neN (tgt := 11) hA si_182_6 (by decide) (by omega) (fun c1 => ?_) (fun c1 => absurd c1 (by omega))
  refine sr_aload_n hA si_182_11 rfl ?_
  refine sr_VFi (c := 64) (ci := 8) (as := []) (st := []) hA si_182_12 sv_180 sk_182_196 (mc_needS X g hn) (by omega) rfl (by decide) (by decide) rfl sq_c_180 rfl (Nat.le_of_ble_eq_true rfl) ?_
  refine sr_istore_n (ls1 := [.ref 64, .int (nI h), .int (-4)]) hA si_182_15 rfl (by rw [sq_l_182]; decide) rfl ?_
  refine sr_iload_n hA si_182_16 rfl ?_
  refine sr_if_ge (tgt := 22) hA si_182_17 (by decide) (fun c2 => absurd c2 (sp_m4 (by decide))) (fun c2 => ?_)
  refine sr_iload_n hA si_182_20 rfl ?_
  exact sr_iretF hA si_182_21 sq_r_182 rfl rfl
set_option maxRecDepth 20000 in
theorem mc_storm_d (X : sp_X) (g : sp_G) {h : Nat} (hh : h < 2) {n : Nat} (hn : g.1 64 11 = nI n) (hb : n ≤ 6) (hn0 : 0 < n) (hd : g.1 64 21 = nI 60) : sp_Ct X 9 182 [.ref 64, .int (nI h)] g (sp_Fi (-2) g) := by
  refine sp_walkN (n := 3) sq_p_182 sq_l_182 (Nat.le_of_ble_eq_true rfl) (fun a hA => ?_)
  show sp_Ev X a 182 0 [.ref 64, .int (nI h), .null] [] g
  refine sr_iload_n hA si_182_0 rfl ?_
  refine sr_iconst (v := nI 0) hA si_182_1 (by decide) ?_
  refine sr_iconst (v := nI 1) hA si_182_2 (by decide) ?_
  refine sr_SFi (as := [.int (nI h), .int (nI 0), .int (nI 1)]) (st := []) hA si_182_3 ss_135 sk_182_83 (mc_inN X g (by omega) (by omega) (by omega)) (by omega) rfl rfl (Nat.le_of_ble_eq_true rfl) ?_
  refine sr_if_neN (tgt := 11) hA si_182_6 (by decide) (by omega) (fun c1 => ?_) (fun c1 => absurd c1 (by omega))
  refine sr_aload_n hA si_182_11 rfl ?_
  refine sr_VFi (c := 64) (ci := 8) (as := []) (st := []) hA si_182_12 sv_180 sk_182_196 (mc_needF X g hn (by omega) (by omega) hd) (by omega) rfl (by decide) (by decide) rfl sq_c_180 rfl (Nat.le_of_ble_eq_true rfl) ?_
  refine sr_istore_n (ls1 := [.ref 64, .int (nI h), .int (-2)]) hA si_182_15 rfl (by rw [sq_l_182]; decide) rfl ?_
  refine sr_iload_n hA si_182_16 rfl ?_
  refine sr_if_ge (tgt := 22) hA si_182_17 (by decide) (fun c2 => absurd c2 (sp_m4 (by decide))) (fun c2 => ?_)
  refine sr_iload_n hA si_182_20 rfl ?_
  exact sr_iretF hA si_182_21 sq_r_182 rfl rfl
set_option maxRecDepth 20000 in
theorem mc_storm_e0 (X : sp_X) (g : sp_G) {n : Nat} (hn : g.1 64 11 = nI n) (hb : n ≤ 6) (hn0 : 0 < n) {dm : Nat} (hd : g.1 64 21 = nI dm) (hdb : dm < 60) : sp_Ct X 9 182 [.ref 64, .int (nI 0)] g (sp_Fi (sp_so n 0 (sp_pv (sp_dr g dm) 0)) (sp_sP (sp_dr g dm) 0 (sp_sm n 0 (sp_pv (sp_dr g dm) 0)))) := by
  refine sp_walkN (n := 3) sq_p_182 sq_l_182 (Nat.le_of_ble_eq_true rfl) (fun a hA => ?_)
  show sp_Ev X a 182 0 [.ref 64, .int (nI 0), .null] [] g
  refine sr_iload_n hA si_182_0 rfl ?_
  refine sr_iconst (v := nI 0) hA si_182_1 (by decide) ?_
  refine sr_iconst (v := nI 1) hA si_182_2 (by decide) ?_
  refine sr_SFi (as := [.int (nI 0), .int (nI 0), .int (nI 1)]) (st := []) hA si_182_3 ss_135 sk_182_83 (mc_inN X g (by omega) (by omega) (by omega)) (by omega) rfl rfl (Nat.le_of_ble_eq_true rfl) ?_
  refine sr_if_neN (tgt := 11) hA si_182_6 (by decide) (by omega) (fun c1 => ?_) (fun c1 => absurd c1 (by omega))
  refine sr_aload_n hA si_182_11 rfl ?_
  refine sr_VFi (c := 64) (ci := 8) (as := []) (st := []) hA si_182_12 sv_180 sk_182_196 (mc_need0 X g hn (by omega) (by omega) hd (by omega)) (by omega) rfl (by decide) (by decide) rfl sq_c_180 rfl (Nat.le_of_ble_eq_true rfl) ?_
  refine sr_istore_n (ls1 := [.ref 64, .int (nI 0), .int (nI 0)]) hA si_182_15 rfl (by rw [sq_l_182]; decide) rfl ?_
  refine sr_iload_n hA si_182_16 rfl ?_
  refine sr_if_geN (tgt := 22) hA si_182_17 (by decide) (by omega) ?_
  refine sr_aload_n hA si_182_22 rfl ?_
  refine sr_VFv (c := 64) (ci := 8) (as := []) (st := []) hA si_182_23 sv_174 sk_182_189 (mc_remember X g hd (by omega)) (by omega) rfl (by decide) (by decide) rfl sq_c_174 rfl (Nat.le_of_ble_eq_true rfl) ?_
  refine sr_aload_n hA si_182_26 rfl ?_
  refine sr_iconst (v := nI 0) hA si_182_27 (by decide) ?_
  refine sr_iload_n hA si_182_28 rfl ?_
  refine sr_VFi (c := 64) (ci := 8) (as := [.int (nI 0), .int (nI 0)]) (st := []) hA si_182_29 sv_183 sk_182_203 (mc_storm0 X (sp_wI (sp_sG g 76 dm (g.1 75)) 64 21 (nI (dm + 1))) (f := 0) (n := n) hn (by omega) (by omega) (by omega)) (by omega) rfl (by decide) (by decide) rfl sq_c_183 rfl (Nat.le_of_ble_eq_true rfl) ?_
  exact sr_iretF hA si_182_32 sq_r_182 rfl rfl
set_option maxRecDepth 20000 in
theorem mc_storm_e1 (X : sp_X) (g : sp_G) {n : Nat} (hn : g.1 64 11 = nI n) (hb : n ≤ 6) (hn0 : 0 < n) {dm : Nat} (hd : g.1 64 21 = nI dm) (hdb : dm < 60) : sp_Ct X 9 182 [.ref 64, .int (nI 1)] g (sp_Fi (sp_so n 1 (sp_pv (sp_dr g dm) 0)) (sp_sP (sp_dr g dm) 0 (sp_sm n 1 (sp_pv (sp_dr g dm) 0)))) := by
  refine sp_walkN (n := 3) sq_p_182 sq_l_182 (Nat.le_of_ble_eq_true rfl) (fun a hA => ?_)
  show sp_Ev X a 182 0 [.ref 64, .int (nI 1), .null] [] g
  refine sr_iload_n hA si_182_0 rfl ?_
  refine sr_iconst (v := nI 0) hA si_182_1 (by decide) ?_
  refine sr_iconst (v := nI 1) hA si_182_2 (by decide) ?_
  refine sr_SFi (as := [.int (nI 1), .int (nI 0), .int (nI 1)]) (st := []) hA si_182_3 ss_135 sk_182_83 (mc_inN X g (by omega) (by omega) (by omega)) (by omega) rfl rfl (Nat.le_of_ble_eq_true rfl) ?_
  refine sr_if_neN (tgt := 11) hA si_182_6 (by decide) (by omega) (fun c1 => ?_) (fun c1 => absurd c1 (by omega))
  refine sr_aload_n hA si_182_11 rfl ?_
  refine sr_VFi (c := 64) (ci := 8) (as := []) (st := []) hA si_182_12 sv_180 sk_182_196 (mc_need0 X g hn (by omega) (by omega) hd (by omega)) (by omega) rfl (by decide) (by decide) rfl sq_c_180 rfl (Nat.le_of_ble_eq_true rfl) ?_
  refine sr_istore_n (ls1 := [.ref 64, .int (nI 1), .int (nI 0)]) hA si_182_15 rfl (by rw [sq_l_182]; decide) rfl ?_
  refine sr_iload_n hA si_182_16 rfl ?_
  refine sr_if_geN (tgt := 22) hA si_182_17 (by decide) (by omega) ?_
  refine sr_aload_n hA si_182_22 rfl ?_
  refine sr_VFv (c := 64) (ci := 8) (as := []) (st := []) hA si_182_23 sv_174 sk_182_189 (mc_remember X g hd (by omega)) (by omega) rfl (by decide) (by decide) rfl sq_c_174 rfl (Nat.le_of_ble_eq_true rfl) ?_
  refine sr_aload_n hA si_182_26 rfl ?_
  refine sr_iconst (v := nI 0) hA si_182_27 (by decide) ?_
  refine sr_iload_n hA si_182_28 rfl ?_
  refine sr_VFi (c := 64) (ci := 8) (as := [.int (nI 0), .int (nI 1)]) (st := []) hA si_182_29 sv_183 sk_182_203 (mc_storm1 X (sp_wI (sp_sG g 76 dm (g.1 75)) 64 21 (nI (dm + 1))) (f := 0) (n := n) hn (by omega) (by omega) (by omega)) (by omega) rfl (by decide) (by decide) rfl sq_c_183 rfl (Nat.le_of_ble_eq_true rfl) ?_
  exact sr_iretF hA si_182_32 sq_r_182 rfl rfl
set_option maxRecDepth 20000 in
theorem xc_dig_a (X : sp_X) (g : sp_G) {i : Int32} (hi : i < 0) : sp_Ct X 9 64 [.ref 0, .int i] g (sp_Fi (-1) g) := by
  refine sp_walkN (n := 3) sq_p_64 sq_l_64 (Nat.le_of_ble_eq_true rfl) (fun a hA => ?_)
  show sp_Ev X a 64 0 [.ref 0, .int i, .null] [] g
  refine sr_aload_n hA si_64_0 rfl ?_
  refine sr_getR (r := 18) hA si_64_1 sf_64_32 (by decide) (by decide) rfl rfl rfl ?_
  refine sr_iload_n hA si_64_4 rfl ?_
  refine sr_VFi (c := 18) (ci := 0) (as := [.int i]) (st := []) hA si_64_5 sv_43 sk_64_148 (xc_isKeyM X g hi) (by omega) rfl (by decide) (by decide) rfl sq_c_43 rfl (Nat.le_of_ble_eq_true rfl) ?_
  refine sr_if_neN (tgt := 13) hA si_64_8 (by decide) (by omega) (fun c1 => absurd c1 (by omega)) (fun c1 => ?_)
  refine sr_iconst (v := (-1)) hA si_64_11 (by decide) ?_
  exact sr_iretF hA si_64_12 sq_r_64 rfl rfl
set_option maxRecDepth 20000 in
theorem xc_dig_b (X : sp_X) (g : sp_G) {i : Nat} (hib : i < 2 ^ 31) {n : Nat} (hn : g.1 18 3 = nI n) (hb : n ≤ 6) (hi : n ≤ i) : sp_Ct X 9 64 [.ref 0, .int (nI i)] g (sp_Fi (-1) g) := by
  refine sp_walkN (n := 3) sq_p_64 sq_l_64 (Nat.le_of_ble_eq_true rfl) (fun a hA => ?_)
  show sp_Ev X a 64 0 [.ref 0, .int (nI i), .null] [] g
  refine sr_aload_n hA si_64_0 rfl ?_
  refine sr_getR (r := 18) hA si_64_1 sf_64_32 (by decide) (by decide) rfl rfl rfl ?_
  refine sr_iload_n hA si_64_4 rfl ?_
  refine sr_VFi (c := 18) (ci := 0) (as := [.int (nI i)]) (st := []) hA si_64_5 sv_43 sk_64_148 (xc_isKeyH X g (n := n) hn (by omega) (by omega)) (by omega) rfl (by decide) (by decide) rfl sq_c_43 rfl (Nat.le_of_ble_eq_true rfl) ?_
  refine sr_if_neN (tgt := 13) hA si_64_8 (by decide) (by omega) (fun c1 => absurd c1 (by omega)) (fun c1 => ?_)
  refine sr_iconst (v := (-1)) hA si_64_11 (by decide) ?_
  exact sr_iretF hA si_64_12 sq_r_64 rfl rfl
set_option maxRecDepth 20000 in
theorem xc_dig_d (X : sp_X) (g : sp_G) {i : Nat} (hi : i < 6) {n : Nat} (hn : g.1 18 3 = nI n) (hb : n ≤ 6) (hin : i < n) (hd : g.1 47 1 = nI 60) : sp_Ct X 9 64 [.ref 0, .int (nI i)] g (sp_Fi (-2) g) := by
  refine sp_walkN (n := 3) sq_p_64 sq_l_64 (Nat.le_of_ble_eq_true rfl) (fun a hA => ?_)
  show sp_Ev X a 64 0 [.ref 0, .int (nI i), .null] [] g
  refine sr_aload_n hA si_64_0 rfl ?_
  refine sr_getR (r := 18) hA si_64_1 sf_64_32 (by decide) (by decide) rfl rfl rfl ?_
  refine sr_iload_n hA si_64_4 rfl ?_
  refine sr_VFi (c := 18) (ci := 0) (as := [.int (nI i)]) (st := []) hA si_64_5 sv_43 sk_64_148 (xc_isKey1 X g (n := n) hn (by omega) (by omega)) (by omega) rfl (by decide) (by decide) rfl sq_c_43 rfl (Nat.le_of_ble_eq_true rfl) ?_
  refine sr_if_neN (tgt := 13) hA si_64_8 (by decide) (by omega) (fun c1 => ?_) (fun c1 => absurd c1 (by omega))
  refine sr_aload_n hA si_64_13 rfl ?_
  refine sr_getR (r := 47) hA si_64_14 sf_64_49 (by decide) (by decide) rfl rfl rfl ?_
  refine sr_iconst (v := nI 1) hA si_64_17 (by decide) ?_
  refine sr_VFi (c := 47) (ci := 6) (as := [.int (nI 1)]) (st := []) hA si_64_18 sv_54 sk_64_189 (xc_full1 X g hd (by omega) (by omega) (by omega)) (by omega) rfl (by decide) (by decide) rfl sq_c_54 rfl (Nat.le_of_ble_eq_true rfl) ?_
  refine sr_if_eqN (tgt := 27) hA si_64_21 (by decide) (by omega) (fun c2 => absurd c2 (by omega)) (fun c2 => ?_)
  refine sr_bipush (v := (-2)) hA si_64_24 (by decide) ?_
  exact sr_iretF hA si_64_26 sq_r_64 rfl rfl
set_option maxRecDepth 20000 in
theorem xc_dig_e (X : sp_X) (g : sp_G) {i : Nat} (hi : i < 6) {n : Nat} (hn : g.1 18 3 = nI n) (hb : n ≤ 6) (hin : i < n) {dm : Nat} (hd : g.1 47 1 = nI dm) (hdb : dm < 60) {q : Int32} (hq : g.1 47 2 = q) : sp_Ct X 9 64 [.ref 0, .int (nI i)] g (sp_Fi (sp_lo q (sp_sv g 41 42 i)) (sp_dx g dm (sp_mv (sp_sv g 41 42) i 6 q))) := by
  refine sp_walkN (n := 3) sq_p_64 sq_l_64 (Nat.le_of_ble_eq_true rfl) (fun a hA => ?_)
  show sp_Ev X a 64 0 [.ref 0, .int (nI i), .null] [] g
  refine sr_aload_n hA si_64_0 rfl ?_
  refine sr_getR (r := 18) hA si_64_1 sf_64_32 (by decide) (by decide) rfl rfl rfl ?_
  refine sr_iload_n hA si_64_4 rfl ?_
  refine sr_VFi (c := 18) (ci := 0) (as := [.int (nI i)]) (st := []) hA si_64_5 sv_43 sk_64_148 (xc_isKey1 X g (n := n) hn (by omega) (by omega)) (by omega) rfl (by decide) (by decide) rfl sq_c_43 rfl (Nat.le_of_ble_eq_true rfl) ?_
  refine sr_if_neN (tgt := 13) hA si_64_8 (by decide) (by omega) (fun c1 => ?_) (fun c1 => absurd c1 (by omega))
  refine sr_aload_n hA si_64_13 rfl ?_
  refine sr_getR (r := 47) hA si_64_14 sf_64_49 (by decide) (by decide) rfl rfl rfl ?_
  refine sr_iconst (v := nI 1) hA si_64_17 (by decide) ?_
  refine sr_VFi (c := 47) (ci := 6) (as := [.int (nI 1)]) (st := []) hA si_64_18 sv_54 sk_64_189 (xc_full0 X g hd (by omega)) (by omega) rfl (by decide) (by decide) rfl sq_c_54 rfl (Nat.le_of_ble_eq_true rfl) ?_
  refine sr_if_eqN (tgt := 27) hA si_64_21 (by decide) (by omega) (fun c2 => ?_) (fun c2 => absurd c2 (by omega))
  refine sr_aload_n hA si_64_27 rfl ?_
  refine sr_getR (r := 41) hA si_64_28 sf_64_36 (by decide) (by decide) rfl rfl rfl ?_
  refine sr_iload_n hA si_64_31 rfl ?_
  refine sr_aload_n hA si_64_32 rfl ?_
  refine sr_getR (r := 47) hA si_64_33 sf_64_49 (by decide) (by decide) rfl rfl rfl ?_
  refine sr_getIv (v := q) hA si_64_36 sf_64_184 (by decide) (by decide) rfl (by decide) hq ?_
  refine sr_VFi (c := 41) (ci := 2) (as := [.int (nI i), .int q]) (st := []) hA si_64_39 sv_65 sk_64_211 (xc_scoop X g sp_sd41 (i := i) (by omega) q) (by omega) rfl (by decide) (by decide) rfl sq_c_65 rfl (Nat.le_of_ble_eq_true rfl) ?_
  refine sr_istore_n (ls1 := [.ref 0, .int (nI i), .int (sp_lo q (sp_sv g 41 42 i))]) hA si_64_42 rfl (by rw [sq_l_64]; decide) rfl ?_
  refine sr_aload_n hA si_64_43 rfl ?_
  refine sr_getR (r := 47) hA si_64_44 sf_64_49 (by decide) (by decide) rfl rfl rfl ?_
  refine sr_aload_n hA si_64_47 rfl ?_
  refine sr_getR (r := 41) hA si_64_48 sf_64_36 (by decide) (by decide) rfl rfl rfl ?_
  refine sr_VFv (c := 47) (ci := 6) (as := [.ref 41]) (st := []) hA si_64_51 sv_58 sk_64_196 (xc_add X (sp_sS g 41 42 (sp_mv (sp_sv g 41 42) i 6 q)) hd (by omega)) (by omega) rfl (by decide) (by decide) rfl sq_c_58 rfl (Nat.le_of_ble_eq_true rfl) ?_
  refine sr_iload_n hA si_64_54 rfl ?_
  exact sr_iretF hA si_64_55 sq_r_64 rfl rfl
set_option maxRecDepth 20000 in
theorem mc_dig_a (X : sp_X) (g : sp_G) {i : Int32} (hi : i < 0) {n : Nat} (hn : g.1 64 11 = nI n) : sp_Ct X 9 184 [.ref 64, .int i] g (sp_Fi (-1) g) := by
  refine sp_walkN (n := 2) sq_p_184 sq_l_184 (Nat.le_of_ble_eq_true rfl) (fun a hA => ?_)
  show sp_Ev X a 184 0 [.ref 64, .int i] [] g
  refine sr_aload_n hA si_184_0 rfl ?_
  refine sr_iload_n hA si_184_1 rfl ?_
  refine sr_VFi (c := 64) (ci := 8) (as := [.int i]) (st := []) hA si_184_2 sv_162 sk_184_174 (mc_isKeyM X g (n := n) hn hi) (by omega) rfl (by decide) (by decide) rfl sq_c_162 rfl (Nat.le_of_ble_eq_true rfl) ?_
  refine sr_if_neN (tgt := 10) hA si_184_5 (by decide) (by omega) (fun c1 => absurd c1 (by omega)) (fun c1 => ?_)
  refine sr_iconst (v := (-1)) hA si_184_8 (by decide) ?_
  exact sr_iretF hA si_184_9 sq_r_184 rfl rfl
set_option maxRecDepth 20000 in
theorem mc_dig_b (X : sp_X) (g : sp_G) {i : Nat} (hib : i < 2 ^ 31) {n : Nat} (hn : g.1 64 11 = nI n) (hb : n ≤ 6) (hi : n ≤ i) : sp_Ct X 9 184 [.ref 64, .int (nI i)] g (sp_Fi (-1) g) := by
  refine sp_walkN (n := 2) sq_p_184 sq_l_184 (Nat.le_of_ble_eq_true rfl) (fun a hA => ?_)
  show sp_Ev X a 184 0 [.ref 64, .int (nI i)] [] g
  refine sr_aload_n hA si_184_0 rfl ?_
  refine sr_iload_n hA si_184_1 rfl ?_
  refine sr_VFi (c := 64) (ci := 8) (as := [.int (nI i)]) (st := []) hA si_184_2 sv_162 sk_184_174 (mc_isKeyH X g (n := n) hn (by omega) (by omega)) (by omega) rfl (by decide) (by decide) rfl sq_c_162 rfl (Nat.le_of_ble_eq_true rfl) ?_
  refine sr_if_neN (tgt := 10) hA si_184_5 (by decide) (by omega) (fun c1 => absurd c1 (by omega)) (fun c1 => ?_)
  refine sr_iconst (v := (-1)) hA si_184_8 (by decide) ?_
  exact sr_iretF hA si_184_9 sq_r_184 rfl rfl
set_option maxRecDepth 20000 in
theorem mc_dig_d (X : sp_X) (g : sp_G) {i : Nat} (hi : i < 6) {n : Nat} (hn : g.1 64 11 = nI n) (hb : n ≤ 6) (hin : i < n) (hd : g.1 64 21 = nI 60) : sp_Ct X 9 184 [.ref 64, .int (nI i)] g (sp_Fi (-2) g) := by
  refine sp_walkN (n := 2) sq_p_184 sq_l_184 (Nat.le_of_ble_eq_true rfl) (fun a hA => ?_)
  show sp_Ev X a 184 0 [.ref 64, .int (nI i)] [] g
  refine sr_aload_n hA si_184_0 rfl ?_
  refine sr_iload_n hA si_184_1 rfl ?_
  refine sr_VFi (c := 64) (ci := 8) (as := [.int (nI i)]) (st := []) hA si_184_2 sv_162 sk_184_174 (mc_isKey1 X g (n := n) hn (by omega) (by omega)) (by omega) rfl (by decide) (by decide) rfl sq_c_162 rfl (Nat.le_of_ble_eq_true rfl) ?_
  refine sr_if_neN (tgt := 10) hA si_184_5 (by decide) (by omega) (fun c1 => ?_) (fun c1 => absurd c1 (by omega))
  refine sr_aload_n hA si_184_10 rfl ?_
  refine sr_getIv (v := nI 60) hA si_184_11 sf_184_149 (by decide) (by decide) rfl (by decide) hd ?_
  refine sr_bipush (v := nI 60) hA si_184_14 (by decide) ?_
  refine sr_icmp_neN (tgt := 22) hA si_184_16 (by decide) (by omega) (by omega) (fun c2 => absurd c2 (by omega)) (fun c2 => ?_)
  refine sr_bipush (v := (-2)) hA si_184_19 (by decide) ?_
  exact sr_iretF hA si_184_21 sq_r_184 rfl rfl
set_option maxRecDepth 20000 in
theorem mc_dig_e (X : sp_X) (g : sp_G) {i : Nat} (hi : i < 6) {n : Nat} (hn : g.1 64 11 = nI n) (hb : n ≤ 6) (hin : i < n) {dm : Nat} (hd : g.1 64 21 = nI dm) (hdb : dm < 60) {q : Int32} (hq : g.1 64 10 = q) : sp_Ct X 9 184 [.ref 64, .int (nI i)] g (sp_Fi (sp_lo q (sp_pv (sp_dr g dm) 0 i)) (sp_sP (sp_dr g dm) 0 (sp_mv (sp_pv (sp_dr g dm) 0) i 6 q))) := by
  refine sp_walkN (n := 2) sq_p_184 sq_l_184 (Nat.le_of_ble_eq_true rfl) (fun a hA => ?_)
  show sp_Ev X a 184 0 [.ref 64, .int (nI i)] [] g
  refine sr_aload_n hA si_184_0 rfl ?_
  refine sr_iload_n hA si_184_1 rfl ?_
  refine sr_VFi (c := 64) (ci := 8) (as := [.int (nI i)]) (st := []) hA si_184_2 sv_162 sk_184_174 (mc_isKey1 X g (n := n) hn (by omega) (by omega)) (by omega) rfl (by decide) (by decide) rfl sq_c_162 rfl (Nat.le_of_ble_eq_true rfl) ?_
  refine sr_if_neN (tgt := 10) hA si_184_5 (by decide) (by omega) (fun c1 => ?_) (fun c1 => absurd c1 (by omega))
  refine sr_aload_n hA si_184_10 rfl ?_
  refine sr_getIv (v := nI dm) hA si_184_11 sf_184_149 (by decide) (by decide) rfl (by decide) hd ?_
  refine sr_bipush (v := nI 60) hA si_184_14 (by decide) ?_
  refine sr_icmp_neN (tgt := 22) hA si_184_16 (by decide) (by omega) (by omega) (fun c2 => ?_) (fun c2 => absurd c2 (by omega))
  refine sr_aload_n hA si_184_22 rfl ?_
  refine sr_VFv (c := 64) (ci := 8) (as := []) (st := []) hA si_184_23 sv_174 sk_184_189 (mc_remember X g hd (by omega)) (by omega) rfl (by decide) (by decide) rfl sq_c_174 rfl (Nat.le_of_ble_eq_true rfl) ?_
  refine sr_aload_n hA si_184_26 rfl ?_
  refine sr_iconst (v := nI 0) hA si_184_27 (by decide) ?_
  refine sr_iload_n hA si_184_28 rfl ?_
  refine sr_bipush (v := nI 6) hA si_184_29 (by decide) ?_
  refine sr_aload_n hA si_184_31 rfl ?_
  refine sr_getIv (v := q) hA si_184_32 sf_184_76 (by decide) (by decide) rfl (by decide) hq ?_
  refine sr_VFi (c := 64) (ci := 8) (as := [.int (nI 0), .int (nI i), .int (nI 6), .int q]) (st := []) hA si_184_35 sv_177 sk_184_167 (mc_moves X (sp_wI (sp_sG g 76 dm (g.1 75)) 64 21 (nI (dm + 1))) (f := 0) (fr := i) (to := 6) (by omega) (by omega) (by omega) q) (by omega) rfl (by decide) (by decide) rfl sq_c_177 rfl (Nat.le_of_ble_eq_true rfl) ?_
  exact sr_iretF hA si_184_38 sq_r_184 rfl rfl
