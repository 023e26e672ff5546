theorem sp_tossEq {g : sp_G} {s o fr to : Nat} {m : Int32} (hso : o ≠ s) (h1 : fr < 6) (h2 : to < 6) : sp_wI (sp_wI g o fr (g.1 o fr - (if g.1 o fr < m then g.1 o fr else m))) o to ((sp_wI g o fr (g.1 o fr - (if g.1 o fr < m then g.1 o fr else m))).1 o to + (if g.1 o fr < m then g.1 o fr else m)) = sp_sS g s o (sp_mv (sp_sv g s o) fr to m) := by
  rw [sp_lo_min]
  have ev : sp_sv g s o fr = g.1 o fr := if_pos h1
  have e1 : sp_wI g o fr (g.1 o fr - sp_lo m (g.1 o fr)) = sp_sS g s o (upd (sp_sv g s o) fr (sp_sv g s o fr - sp_lo m (sp_sv g s o fr))) := by
    have := sp_sS_w (g := g) (s := s) (o := o) (v := sp_sv g s o) (x := g.1 o fr - sp_lo m (g.1 o fr)) h1
    rw [sp_sS_0 hso] at this
    rw [this, ev]
  rw [e1, sp_sS_w h2]
  unfold sp_mv
  have e2 : (sp_sS g s o (upd (sp_sv g s o) fr (sp_sv g s o fr - sp_lo m (sp_sv g s o fr)))).1 o to = upd (sp_sv g s o) fr (sp_sv g s o fr - sp_lo m (sp_sv g s o fr)) to := by
    rw [sp_sS_rd, if_pos ⟨rfl, h2⟩]
  rw [e2, ev]
theorem sp_tossEq6 {g : sp_G} {s o fr : Nat} {m : Int32} (hso : o ≠ s) (h1 : fr < 6) : sp_wI (sp_wI g o fr (g.1 o fr - (if g.1 o fr < m then g.1 o fr else m))) s 1 (g.1 s 1 + (if g.1 o fr < m then g.1 o fr else m)) = sp_sS g s o (sp_mv (sp_sv g s o) fr 6 m) := by
  rw [sp_lo_min]
  have ev : sp_sv g s o fr = g.1 o fr := if_pos h1
  have e1 : sp_wI g o fr (g.1 o fr - sp_lo m (g.1 o fr)) = sp_sS g s o (upd (sp_sv g s o) fr (sp_sv g s o fr - sp_lo m (sp_sv g s o fr))) := by
    have := sp_sS_w (g := g) (s := s) (o := o) (v := sp_sv g s o) (x := g.1 o fr - sp_lo m (g.1 o fr)) h1
    rw [sp_sS_0 hso] at this
    rw [this, ev]
  rw [e1, sp_sS_w2 hso (by omega) (by omega)]
  unfold sp_mv
  rw [pk_un (show (6 : Nat) ≠ fr by omega), ev]
  rfl
set_option maxRecDepth 20000 in
theorem xc_tossM (X : sp_X) (g : sp_G) {s o fr n : Nat} (hs : sp_sd s o) (hf : fr < 6) {t : Int32} (ht : t < 0) (m : Int32) : sp_Ct X 1 56 [.ref s, .int (nI fr), .int t, .int m, .int (nI n)] g (sp_Fv (sp_sS g s o (sp_mv (sp_sv g s o) fr 6 m))) := by
  obtain ⟨s1, s2, s3, s4, s5, s6, s7, s8, s9, s10, s11⟩ := id hs
  refine sp_walkN (n := 6) sq_p_56 sq_l_56 (Nat.le_of_ble_eq_true rfl) (fun a hA => ?_)
  show sp_Ev X a 56 0 [.ref s, .int (nI fr), .int t, .int m, .int (nI n), .null] [] g
  refine sr_iload_n hA si_56_0 rfl ?_
  refine sr_aload_n hA si_56_1 rfl ?_
  refine sr_getR (r := o) hA si_56_2 sf_56_9 (by decide) hs.1 hs.2.1 rfl hs.2.2.1 ?_
  refine sr_iload_n hA si_56_5 rfl ?_
  refine sr_ialdNv (v := g.1 o fr) (n := 6) hA si_56_6 hs.2.2.2.1 hs.2.2.2.2.1 hs.2.2.2.2.2.1 (by omega) (by decide) rfl ?_
  refine sr_mmin hA si_56_7 sk_56_37 (by omega) (Nat.le_of_ble_eq_true rfl) ?_
  refine sr_istore (ls1 := [.ref s, .int (nI fr), .int t, .int m, .int (nI n), .int (if g.1 o fr < m then g.1 o fr else m)]) hA si_56_10 (by rw [sq_l_56]; decide) rfl ?_
  refine sr_aload_n hA si_56_12 rfl ?_
  refine sr_getR (r := o) hA si_56_13 sf_56_9 (by decide) hs.1 hs.2.1 rfl hs.2.2.1 ?_
  refine sr_iload_n hA si_56_16 rfl ?_
  refine sr_dup2 hA si_56_17 rfl rfl ?_
  refine sr_ialdNv (v := g.1 o fr) (n := 6) hA si_56_18 hs.2.2.2.1 hs.2.2.2.2.1 hs.2.2.2.2.2.1 (by omega) (by decide) rfl ?_
  refine sr_iload hA si_56_19 rfl ?_
  refine sr_isub hA si_56_21 ?_
  refine sr_iastN (n := 6) hA si_56_22 hs.2.2.2.1 hs.2.2.2.2.1 hs.2.2.2.2.2.1 (by omega) (by decide) ?_
  refine sr_iload_n hA si_56_23 rfl ?_
  refine sr_if_lt (tgt := 33) hA si_56_24 (by decide) (fun c1 => ?_) (fun c1 => absurd ht c1)
  refine sr_aload_n hA si_56_33 rfl ?_
  refine sr_dup hA si_56_34 rfl ?_
  refine sr_getIv (v := g.1 s 1) hA si_56_35 sf_56_21 (by decide) hs.1 hs.2.1 (by decide) (by simp [sp_wI, sp_wL, sp_wA, sp_up, s7, s7.symm]) ?_
  refine sr_iload hA si_56_38 rfl ?_
  refine sr_iadd hA si_56_40 ?_
  refine sr_putI hA si_56_41 sf_56_21 rfl rfl (by decide) hs.1 hs.2.1 rfl ?_
  refine sr_goto (tgt := 58) hA si_56_44 (by decide) ?_
  exact sr_vretF hA si_56_58 sq_r_56 (sp_tossEq6 s7 hf)
set_option maxRecDepth 20000 in
theorem xc_tossH (X : sp_X) (g : sp_G) {s o fr n : Nat} (hs : sp_sd s o) (hf : fr < 6) {t : Nat} (ht : n ≤ t) (htb : t < 2 ^ 31) (m : Int32) : sp_Ct X 1 56 [.ref s, .int (nI fr), .int (nI t), .int m, .int (nI n)] g (sp_Fv (sp_sS g s o (sp_mv (sp_sv g s o) fr 6 m))) := by
  obtain ⟨s1, s2, s3, s4, s5, s6, s7, s8, s9, s10, s11⟩ := id hs
  refine sp_walkN (n := 6) sq_p_56 sq_l_56 (Nat.le_of_ble_eq_true rfl) (fun a hA => ?_)
  show sp_Ev X a 56 0 [.ref s, .int (nI fr), .int (nI t), .int m, .int (nI n), .null] [] g
  refine sr_iload_n hA si_56_0 rfl ?_
  refine sr_aload_n hA si_56_1 rfl ?_
  refine sr_getR (r := o) hA si_56_2 sf_56_9 (by decide) hs.1 hs.2.1 rfl hs.2.2.1 ?_
  refine sr_iload_n hA si_56_5 rfl ?_
  refine sr_ialdNv (v := g.1 o fr) (n := 6) hA si_56_6 hs.2.2.2.1 hs.2.2.2.2.1 hs.2.2.2.2.2.1 (by omega) (by decide) rfl ?_
  refine sr_mmin hA si_56_7 sk_56_37 (by omega) (Nat.le_of_ble_eq_true rfl) ?_
  refine sr_istore (ls1 := [.ref s, .int (nI fr), .int (nI t), .int m, .int (nI n), .int (if g.1 o fr < m then g.1 o fr else m)]) hA si_56_10 (by rw [sq_l_56]; decide) rfl ?_
  refine sr_aload_n hA si_56_12 rfl ?_
  refine sr_getR (r := o) hA si_56_13 sf_56_9 (by decide) hs.1 hs.2.1 rfl hs.2.2.1 ?_
  refine sr_iload_n hA si_56_16 rfl ?_
  refine sr_dup2 hA si_56_17 rfl rfl ?_
  refine sr_ialdNv (v := g.1 o fr) (n := 6) hA si_56_18 hs.2.2.2.1 hs.2.2.2.2.1 hs.2.2.2.2.2.1 (by omega) (by decide) rfl ?_
  refine sr_iload hA si_56_19 rfl ?_
  refine sr_isub hA si_56_21 ?_
  refine sr_iastN (n := 6) hA si_56_22 hs.2.2.2.1 hs.2.2.2.2.1 hs.2.2.2.2.2.1 (by omega) (by decide) ?_
  refine sr_iload_n hA si_56_23 rfl ?_
  refine sr_if_ltN (tgt := 33) hA si_56_24 (by decide) (by omega) ?_
  refine sr_iload_n hA si_56_27 rfl ?_
  refine sr_iload hA si_56_28 rfl ?_
  refine sr_icmp_ltN (tgt := 47) hA si_56_30 (by decide) (by omega) (by omega) (fun c2 => absurd c2 (by omega)) (fun c2 => ?_)
  refine sr_aload_n hA si_56_33 rfl ?_
  refine sr_dup hA si_56_34 rfl ?_
  refine sr_getIv (v := g.1 s 1) hA si_56_35 sf_56_21 (by decide) hs.1 hs.2.1 (by decide) (by simp [sp_wI, sp_wL, sp_wA, sp_up, s7, s7.symm]) ?_
  refine sr_iload hA si_56_38 rfl ?_
  refine sr_iadd hA si_56_40 ?_
  refine sr_putI hA si_56_41 sf_56_21 rfl rfl (by decide) hs.1 hs.2.1 rfl ?_
  refine sr_goto (tgt := 58) hA si_56_44 (by decide) ?_
  exact sr_vretF hA si_56_58 sq_r_56 (sp_tossEq6 s7 hf)
set_option maxRecDepth 20000 in
theorem xc_toss (X : sp_X) (g : sp_G) {s o fr n : Nat} (hs : sp_sd s o) (hf : fr < 6) {t : Nat} (ht : t < n) (hn6 : n ≤ 6) (m : Int32) : sp_Ct X 1 56 [.ref s, .int (nI fr), .int (nI t), .int m, .int (nI n)] g (sp_Fv (sp_sS g s o (sp_mv (sp_sv g s o) fr t m))) := by
  obtain ⟨s1, s2, s3, s4, s5, s6, s7, s8, s9, s10, s11⟩ := id hs
  refine sp_walkN (n := 6) sq_p_56 sq_l_56 (Nat.le_of_ble_eq_true rfl) (fun a hA => ?_)
  show sp_Ev X a 56 0 [.ref s, .int (nI fr), .int (nI t), .int m, .int (nI n), .null] [] g
  refine sr_iload_n hA si_56_0 rfl ?_
  refine sr_aload_n hA si_56_1 rfl ?_
  refine sr_getR (r := o) hA si_56_2 sf_56_9 (by decide) hs.1 hs.2.1 rfl hs.2.2.1 ?_
  refine sr_iload_n hA si_56_5 rfl ?_
  refine sr_ialdNv (v := g.1 o fr) (n := 6) hA si_56_6 hs.2.2.2.1 hs.2.2.2.2.1 hs.2.2.2.2.2.1 (by omega) (by decide) rfl ?_
  refine sr_mmin hA si_56_7 sk_56_37 (by omega) (Nat.le_of_ble_eq_true rfl) ?_
  refine sr_istore (ls1 := [.ref s, .int (nI fr), .int (nI t), .int m, .int (nI n), .int (if g.1 o fr < m then g.1 o fr else m)]) hA si_56_10 (by rw [sq_l_56]; decide) rfl ?_
  refine sr_aload_n hA si_56_12 rfl ?_
  refine sr_getR (r := o) hA si_56_13 sf_56_9 (by decide) hs.1 hs.2.1 rfl hs.2.2.1 ?_
  refine sr_iload_n hA si_56_16 rfl ?_
  refine sr_dup2 hA si_56_17 rfl rfl ?_
  refine sr_ialdNv (v := g.1 o fr) (n := 6) hA si_56_18 hs.2.2.2.1 hs.2.2.2.2.1 hs.2.2.2.2.2.1 (by omega) (by decide) rfl ?_
  refine sr_iload hA si_56_19 rfl ?_
  refine sr_isub hA si_56_21 ?_
  refine sr_iastN (n := 6) hA si_56_22 hs.2.2.2.1 hs.2.2.2.2.1 hs.2.2.2.2.2.1 (by omega) (by decide) ?_
  refine sr_iload_n hA si_56_23 rfl ?_
  refine sr_if_ltN (tgt := 33) hA si_56_24 (by decide) (by omega) ?_
  refine sr_iload_n hA si_56_27 rfl ?_
  refine sr_iload hA si_56_28 rfl ?_
  refine sr_icmp_ltN (tgt := 47) hA si_56_30 (by decide) (by omega) (by omega) (fun c2 => ?_) (fun c2 => absurd c2 (by omega))
  refine sr_aload_n hA si_56_47 rfl ?_
  refine sr_getR (r := o) hA si_56_48 sf_56_9 (by decide) hs.1 hs.2.1 rfl hs.2.2.1 ?_
  refine sr_iload_n hA si_56_51 rfl ?_
  refine sr_dup2 hA si_56_52 rfl rfl ?_
  refine sr_ialdNv (v := (sp_wI g o fr ((g.1 o fr) - (if g.1 o fr < m then g.1 o fr else m))).1 o t) (n := 6) hA si_56_53 hs.2.2.2.1 hs.2.2.2.2.1 hs.2.2.2.2.2.1 (by omega) (by decide) rfl ?_
  refine sr_iload hA si_56_54 rfl ?_
  refine sr_iadd hA si_56_56 ?_
  refine sr_iastN (n := 6) hA si_56_57 hs.2.2.2.1 hs.2.2.2.2.1 hs.2.2.2.2.2.1 (by omega) (by decide) ?_
  exact sr_vretF hA si_56_58 sq_r_56 (sp_tossEq s7 hf (by omega))
theorem sp_fetchEq {g : sp_G} {s o b : Nat} (hso : o ≠ s) (hb : g.1 s 1 = nI b) (h : 0 < b) (hB : b < 2 ^ 31) : sp_wI (sp_wI g s 1 (nI b - nI 1)) o 0 (g.1 o 0 + nI 1) = sp_sS g s o (sp_mv (sp_sv g s o) 6 0 (nI 1)) := by
  have ev : sp_sv g s o 6 = nI b := hb
  have lo : sp_lo (nI 1) (nI b) = nI 1 := by
    unfold sp_lo
    by_cases h1 : 1 < b
    · rw [if_pos (nI_lt h1 hB)]
    · rw [if_neg (fun q => h1 ((nI_ltI (by omega) hB).mp q)), show b = 1 by omega]
  have e1 : sp_wI g s 1 (nI b - nI 1) = sp_sS g s o (upd (sp_sv g s o) 6 (nI b - nI 1)) := by
    have := sp_sS_w2 (g := g) (s := s) (o := o) (i := 1) (v := sp_sv g s o) (x := nI b - nI 1) hso (by omega) (by omega)
    rw [sp_sS_0 hso] at this
    exact this
  rw [e1, sp_sS_w (by omega)]
  unfold sp_mv
  rw [ev, lo]
  rfl
theorem sp_fetchEq0 {g : sp_G} {s o : Nat} (hso : o ≠ s) (hb : g.1 s 1 = nI 0) : g = sp_sS g s o (sp_mv (sp_sv g s o) 6 0 (nI 1)) := by
  have ev : sp_sv g s o 6 = nI 0 := hb
  have e : ∀ i, i < 9 → sp_mv (sp_sv g s o) 6 0 (nI 1) i = sp_sv g s o i := fun i hi => by
    unfold sp_mv
    rw [ev, show sp_lo (nI 1) (nI 0) = nI 0 from by decide]
    unfold upd
    by_cases h0 : i = 0
    · subst h0
      simp [show (nI 0 : Int32) = 0 from rfl]
    · by_cases h6 : i = 6
      · subst h6
        simp [ev, show (nI 0 : Int32) = 0 from rfl]
      · simp [h0, h6]
  rw [sp_sS_c e, sp_sS_0 hso]
set_option maxRecDepth 20000 in
theorem xc_fetch (X : sp_X) (g : sp_G) {s o b : Nat} (hs : sp_sd s o) (hb : g.1 s 1 = nI b) (h0 : 0 < b) (hB : b < 2 ^ 31) : sp_Ct X 0 57 [.ref s] g (sp_Fv (sp_sS g s o (sp_mv (sp_sv g s o) 6 0 (nI 1)))) := by
  obtain ⟨s1, s2, s3, s4, s5, s6, s7, s8, s9, s10, s11⟩ := id hs
  refine sp_walkN (n := 1) sq_p_57 sq_l_57 (Nat.le_of_ble_eq_true rfl) (fun a hA => ?_)
  show sp_Ev X a 57 0 [.ref s] [] g
  refine sr_aload_n hA si_57_0 rfl ?_
  refine sr_getIv (v := nI b) hA si_57_1 sf_57_21 (by decide) hs.1 hs.2.1 (by decide) hb ?_
  refine sr_if_leN (tgt := 27) hA si_57_4 (by decide) (by omega) (fun c1 => absurd c1 (by omega)) (fun c1 => ?_)
  refine sr_aload_n hA si_57_7 rfl ?_
  refine sr_dup hA si_57_8 rfl ?_
  refine sr_getIv (v := nI b) hA si_57_9 sf_57_21 (by decide) hs.1 hs.2.1 (by decide) hb ?_
  refine sr_iconst (v := nI 1) hA si_57_12 (by decide) ?_
  refine sr_isub hA si_57_13 ?_
  refine sr_putI hA si_57_14 sf_57_21 rfl rfl (by decide) hs.1 hs.2.1 rfl ?_
  refine sr_aload_n hA si_57_17 rfl ?_
  refine sr_getR (r := o) hA si_57_18 sf_57_9 (by decide) hs.1 hs.2.1 rfl hs.2.2.1 ?_
  refine sr_iconst (v := nI 0) hA si_57_21 (by decide) ?_
  refine sr_dup2 hA si_57_22 rfl rfl ?_
  refine sr_ialdNv (v := g.1 o 0) (n := 6) hA si_57_23 hs.2.2.2.1 hs.2.2.2.2.1 hs.2.2.2.2.2.1 (by omega) (by decide) (by simp [sp_wI, sp_wL, sp_wA, sp_up, s7, s7.symm]) ?_
  refine sr_iconst (v := nI 1) hA si_57_24 (by decide) ?_
  refine sr_iadd hA si_57_25 ?_
  refine sr_iastN (n := 6) hA si_57_26 hs.2.2.2.1 hs.2.2.2.2.1 hs.2.2.2.2.2.1 (by omega) (by decide) ?_
  exact sr_vretF hA si_57_27 sq_r_57 (sp_fetchEq s7 hb h0 hB)
set_option maxRecDepth 20000 in
theorem xc_fetch0 (X : sp_X) (g : sp_G) {s o : Nat} (hs : sp_sd s o) (hb : g.1 s 1 = nI 0) : sp_Ct X 0 57 [.ref s] g (sp_Fv (sp_sS g s o (sp_mv (sp_sv g s o) 6 0 (nI 1)))) := by
  obtain ⟨s1, s2, s3, s4, s5, s6, s7, s8, s9, s10, s11⟩ := id hs
  refine sp_walkN (n := 1) sq_p_57 sq_l_57 (Nat.le_of_ble_eq_true rfl) (fun a hA => ?_)
  show sp_Ev X a 57 0 [.ref s] [] g
  refine sr_aload_n hA si_57_0 rfl ?_
  refine sr_getIv (v := nI 0) hA si_57_1 sf_57_21 (by decide) hs.1 hs.2.1 (by decide) hb ?_
  refine sr_if_leN (tgt := 27) hA si_57_4 (by decide) (by omega) (fun c1 => ?_) (fun c1 => absurd c1 (by omega))
  exact sr_vretF hA si_57_27 sq_r_57 (sp_fetchEq0 s7 hb)
theorem sp_sfin0 {g : sp_G} {s o : Nat} {x : Int32} (hso : o ≠ s) : sp_wI g s 3 (g.1 s 3 + x) = sp_sS g s o (upd (sp_sv g s o) 8 (sp_sv g s o 8 + x)) := by
  have := sp_sS_w2 (g := g) (s := s) (o := o) (i := 3) (v := sp_sv g s o) (x := g.1 s 3 + x) hso (by omega) (by omega)
  rw [sp_sS_0 hso] at this
  exact this
theorem sp_sfin1 {g : sp_G} {s o : Nat} {v : Nat → Int32} {x : Int32} (hso : o ≠ s) : sp_wI (sp_sS g s o v) s 3 ((sp_sS g s o v).1 s 3 + x) = sp_sS g s o (upd v 8 (v 8 + x)) := by
  have e2 : (sp_sS g s o v).1 s 3 = v 8 := by
    rw [sp_sS_rd, if_neg (by omega), if_pos (by omega)]
  rw [e2, sp_sS_w2 hso (by omega) (by omega)]
theorem sp_sfin2 {g : sp_G} {s o fr to : Nat} {v : Nat → Int32} {m x : Int32} (hso : o ≠ s) (h1 : fr < 9) (h2 : to < 9) : sp_wI (sp_sS (sp_sS g s o v) s o (sp_mv (sp_sv (sp_sS g s o v) s o) fr to m)) s 3 ((sp_sS (sp_sS g s o v) s o (sp_mv (sp_sv (sp_sS g s o v) s o) fr to m)).1 s 3 + x) = sp_sS g s o (upd (sp_mv v fr to m) 8 (sp_mv v fr to m 8 + x)) := by
  rw [sp_sS_2, sp_sS_c (sp_mv_c (w := v) (fun i hi => sp_sv_s hso hi) h1 h2 m), sp_sfin1 hso]
set_option maxRecDepth 20000 in
theorem xc_sound0L (X : sp_X) (g : sp_G) {s o i n : Nat} (hs : sp_sd s o) (hn : g.1 18 3 = nI n) (hb : n ≤ 6) (hi : i < n) (hk : g.1 19 i = nI 0) (hl : i + 1 = n) : sp_Ct X 2 55 [.ref 18, .int (nI i), .ref s] g (sp_Fv (sp_sS g s o (upd (sp_mv (sp_sv g s o) i 6 (nI 1)) 8 ((sp_mv (sp_sv g s o) i 6 (nI 1)) 8 + g.1 21 i)))) := by
  obtain ⟨s1, s2, s3, s4, s5, s6, s7, s8, s9, s10, s11⟩ := id hs
  refine sp_walkN (n := 3) sq_p_55 sq_l_55 (Nat.le_of_ble_eq_true rfl) (fun a hA => ?_)
  show sp_Ev X a 55 0 [.ref 18, .int (nI i), .ref s] [] g
  refine sr_aload_n hA si_55_0 rfl ?_
  refine sr_getR (r := 19) hA si_55_1 sf_55_9 (by decide) (by decide) rfl rfl rfl ?_
  refine sr_iload_n hA si_55_4 rfl ?_
  refine sr_ialdNv (v := nI 0) (n := 6) hA si_55_5 (by decide) rfl rfl (by omega) (by decide) hk ?_
  refine sr_tswI (c := nI 0) (tgt := 40) hA si_55_6 rfl (by decide) (by decide) rfl (by decide) ?_
  refine sr_aload_n hA si_55_40 rfl ?_
  refine sr_iload_n hA si_55_41 rfl ?_
  refine sr_iload_n hA si_55_42 rfl ?_
  refine sr_iconst (v := nI 1) hA si_55_43 (by decide) ?_
  refine sr_iaddN hA si_55_44 ?_
  refine sr_iconst (v := nI 1) hA si_55_45 (by decide) ?_
  refine sr_aload_n hA si_55_46 rfl ?_
  refine sr_getIv (v := nI n) hA si_55_47 sf_55_21 (by decide) (by decide) rfl (by decide) hn ?_
  refine sr_VFv (c := s) (ci := 2) (as := [.int (nI i), .int (nI (i + 1)), .int (nI 1), .int (nI n)]) (st := []) hA si_55_50 sv_56 sk_55_57 (xc_tossH X g hs (by omega) (t := (i + 1)) (by omega) (by omega) (nI 1)) (by omega) rfl (by decide) hs.1 hs.2.1 sq_c_56 rfl (Nat.le_of_ble_eq_true rfl) ?_
  refine sr_goto (tgt := 128) hA si_55_53 (by decide) ?_
  refine sr_aload_n hA si_55_128 rfl ?_
  refine sr_dup hA si_55_129 rfl ?_
  refine sr_getIv (v := (sp_sS g s o (sp_mv (sp_sv g s o) i 6 (nI 1))).1 s 3) hA si_55_130 sf_55_64 (by decide) hs.1 hs.2.1 (by decide) rfl ?_
  refine sr_aload_n hA si_55_133 rfl ?_
  refine sr_getR (r := 21) hA si_55_134 sf_55_18 (by decide) (by decide) rfl rfl rfl ?_
  refine sr_iload_n hA si_55_137 rfl ?_
  refine sr_ialdNv (v := g.1 21 i) (n := 6) hA si_55_138 (by decide) rfl rfl (by omega) (by decide) (by rw [sp_sS_o (by omega) (by omega)]) ?_
  refine sr_iadd hA si_55_139 ?_
  refine sr_putI hA si_55_140 sf_55_64 rfl rfl (by decide) hs.1 hs.2.1 rfl ?_
  exact sr_vretF hA si_55_143 sq_r_55 (sp_sfin1 s7)
set_option maxRecDepth 20000 in
theorem xc_sound0R (X : sp_X) (g : sp_G) {s o i n : Nat} (hs : sp_sd s o) (hn : g.1 18 3 = nI n) (hb : n ≤ 6) (hi : i < n) (hk : g.1 19 i = nI 0) (hl : i + 1 < n) : sp_Ct X 2 55 [.ref 18, .int (nI i), .ref s] g (sp_Fv (sp_sS g s o (upd (sp_mv (sp_sv g s o) i (i + 1) (nI 1)) 8 ((sp_mv (sp_sv g s o) i (i + 1) (nI 1)) 8 + g.1 21 i)))) := by
  obtain ⟨s1, s2, s3, s4, s5, s6, s7, s8, s9, s10, s11⟩ := id hs
  refine sp_walkN (n := 3) sq_p_55 sq_l_55 (Nat.le_of_ble_eq_true rfl) (fun a hA => ?_)
  show sp_Ev X a 55 0 [.ref 18, .int (nI i), .ref s] [] g
  refine sr_aload_n hA si_55_0 rfl ?_
  refine sr_getR (r := 19) hA si_55_1 sf_55_9 (by decide) (by decide) rfl rfl rfl ?_
  refine sr_iload_n hA si_55_4 rfl ?_
  refine sr_ialdNv (v := nI 0) (n := 6) hA si_55_5 (by decide) rfl rfl (by omega) (by decide) hk ?_
  refine sr_tswI (c := nI 0) (tgt := 40) hA si_55_6 rfl (by decide) (by decide) rfl (by decide) ?_
  refine sr_aload_n hA si_55_40 rfl ?_
  refine sr_iload_n hA si_55_41 rfl ?_
  refine sr_iload_n hA si_55_42 rfl ?_
  refine sr_iconst (v := nI 1) hA si_55_43 (by decide) ?_
  refine sr_iaddN hA si_55_44 ?_
  refine sr_iconst (v := nI 1) hA si_55_45 (by decide) ?_
  refine sr_aload_n hA si_55_46 rfl ?_
  refine sr_getIv (v := nI n) hA si_55_47 sf_55_21 (by decide) (by decide) rfl (by decide) hn ?_
  refine sr_VFv (c := s) (ci := 2) (as := [.int (nI i), .int (nI (i + 1)), .int (nI 1), .int (nI n)]) (st := []) hA si_55_50 sv_56 sk_55_57 (xc_toss X g hs (by omega) (t := (i + 1)) (by omega) (by omega) (nI 1)) (by omega) rfl (by decide) hs.1 hs.2.1 sq_c_56 rfl (Nat.le_of_ble_eq_true rfl) ?_
  refine sr_goto (tgt := 128) hA si_55_53 (by decide) ?_
  refine sr_aload_n hA si_55_128 rfl ?_
  refine sr_dup hA si_55_129 rfl ?_
  refine sr_getIv (v := (sp_sS g s o (sp_mv (sp_sv g s o) i (i + 1) (nI 1))).1 s 3) hA si_55_130 sf_55_64 (by decide) hs.1 hs.2.1 (by decide) rfl ?_
  refine sr_aload_n hA si_55_133 rfl ?_
  refine sr_getR (r := 21) hA si_55_134 sf_55_18 (by decide) (by decide) rfl rfl rfl ?_
  refine sr_iload_n hA si_55_137 rfl ?_
  refine sr_ialdNv (v := g.1 21 i) (n := 6) hA si_55_138 (by decide) rfl rfl (by omega) (by decide) (by rw [sp_sS_o (by omega) (by omega)]) ?_
  refine sr_iadd hA si_55_139 ?_
  refine sr_putI hA si_55_140 sf_55_64 rfl rfl (by decide) hs.1 hs.2.1 rfl ?_
  exact sr_vretF hA si_55_143 sq_r_55 (sp_sfin1 s7)
set_option maxRecDepth 20000 in
theorem xc_sound10 (X : sp_X) (g : sp_G) {s o n : Nat} (hs : sp_sd s o) (hn : g.1 18 3 = nI n) (hb : n ≤ 6) (hi : 0 < n) (hk : g.1 19 0 = nI 1)  : sp_Ct X 2 55 [.ref 18, .int (nI 0), .ref s] g (sp_Fv (sp_sS g s o (upd (sp_mv (sp_sv g s o) 0 6 (nI 2)) 8 ((sp_mv (sp_sv g s o) 0 6 (nI 2)) 8 + g.1 21 0)))) := by
  obtain ⟨s1, s2, s3, s4, s5, s6, s7, s8, s9, s10, s11⟩ := id hs
  refine sp_walkN (n := 3) sq_p_55 sq_l_55 (Nat.le_of_ble_eq_true rfl) (fun a hA => ?_)
  show sp_Ev X a 55 0 [.ref 18, .int (nI 0), .ref s] [] g
  refine sr_aload_n hA si_55_0 rfl ?_
  refine sr_getR (r := 19) hA si_55_1 sf_55_9 (by decide) (by decide) rfl rfl rfl ?_
  refine sr_iload_n hA si_55_4 rfl ?_
  refine sr_ialdNv (v := nI 1) (n := 6) hA si_55_5 (by decide) rfl rfl (by omega) (by decide) hk ?_
  refine sr_tswI (c := nI 1) (tgt := 56) hA si_55_6 rfl (by decide) (by decide) rfl (by decide) ?_
  refine sr_aload_n hA si_55_56 rfl ?_
  refine sr_iload_n hA si_55_57 rfl ?_
  refine sr_iload_n hA si_55_58 rfl ?_
  refine sr_iconst (v := nI 1) hA si_55_59 (by decide) ?_
  refine sr_isub hA si_55_60 ?_
  refine sr_iconst (v := nI 2) hA si_55_61 (by decide) ?_
  refine sr_aload_n hA si_55_62 rfl ?_
  refine sr_getIv (v := nI n) hA si_55_63 sf_55_21 (by decide) (by decide) rfl (by decide) hn ?_
  refine sr_VFv (c := s) (ci := 2) (as := [.int (nI 0), .int ((nI 0) - (nI 1)), .int (nI 2), .int (nI n)]) (st := []) hA si_55_66 sv_56 sk_55_57 (xc_tossM X g hs (by omega) (by decide) (nI 2)) (by omega) rfl (by decide) hs.1 hs.2.1 sq_c_56 rfl (Nat.le_of_ble_eq_true rfl) ?_
  refine sr_goto (tgt := 128) hA si_55_69 (by decide) ?_
  refine sr_aload_n hA si_55_128 rfl ?_
  refine sr_dup hA si_55_129 rfl ?_
  refine sr_getIv (v := (sp_sS g s o (sp_mv (sp_sv g s o) 0 6 (nI 2))).1 s 3) hA si_55_130 sf_55_64 (by decide) hs.1 hs.2.1 (by decide) rfl ?_
  refine sr_aload_n hA si_55_133 rfl ?_
  refine sr_getR (r := 21) hA si_55_134 sf_55_18 (by decide) (by decide) rfl rfl rfl ?_
  refine sr_iload_n hA si_55_137 rfl ?_
  refine sr_ialdNv (v := g.1 21 0) (n := 6) hA si_55_138 (by decide) rfl rfl (by omega) (by decide) (by rw [sp_sS_o (by omega) (by omega)]) ?_
  refine sr_iadd hA si_55_139 ?_
  refine sr_putI hA si_55_140 sf_55_64 rfl rfl (by decide) hs.1 hs.2.1 rfl ?_
  exact sr_vretF hA si_55_143 sq_r_55 (sp_sfin1 s7)
set_option maxRecDepth 20000 in
theorem xc_sound1P (X : sp_X) (g : sp_G) {s o i n : Nat} (hs : sp_sd s o) (hn : g.1 18 3 = nI n) (hb : n ≤ 6) (hi : i < n) (hk : g.1 19 i = nI 1) (hl : 0 < i) : sp_Ct X 2 55 [.ref 18, .int (nI i), .ref s] g (sp_Fv (sp_sS g s o (upd (sp_mv (sp_sv g s o) i (i - 1) (nI 2)) 8 ((sp_mv (sp_sv g s o) i (i - 1) (nI 2)) 8 + g.1 21 i)))) := by
  obtain ⟨s1, s2, s3, s4, s5, s6, s7, s8, s9, s10, s11⟩ := id hs
  refine sp_walkN (n := 3) sq_p_55 sq_l_55 (Nat.le_of_ble_eq_true rfl) (fun a hA => ?_)
  show sp_Ev X a 55 0 [.ref 18, .int (nI i), .ref s] [] g
  refine sr_aload_n hA si_55_0 rfl ?_
  refine sr_getR (r := 19) hA si_55_1 sf_55_9 (by decide) (by decide) rfl rfl rfl ?_
  refine sr_iload_n hA si_55_4 rfl ?_
  refine sr_ialdNv (v := nI 1) (n := 6) hA si_55_5 (by decide) rfl rfl (by omega) (by decide) hk ?_
  refine sr_tswI (c := nI 1) (tgt := 56) hA si_55_6 rfl (by decide) (by decide) rfl (by decide) ?_
  refine sr_aload_n hA si_55_56 rfl ?_
  refine sr_iload_n hA si_55_57 rfl ?_
  refine sr_iload_n hA si_55_58 rfl ?_
  refine sr_iconst (v := nI 1) hA si_55_59 (by decide) ?_
  refine sr_isubN hA si_55_60 (by omega) ?_
  refine sr_iconst (v := nI 2) hA si_55_61 (by decide) ?_
  refine sr_aload_n hA si_55_62 rfl ?_
  refine sr_getIv (v := nI n) hA si_55_63 sf_55_21 (by decide) (by decide) rfl (by decide) hn ?_
  refine sr_VFv (c := s) (ci := 2) (as := [.int (nI i), .int (nI (i - 1)), .int (nI 2), .int (nI n)]) (st := []) hA si_55_66 sv_56 sk_55_57 (xc_toss X g hs (by omega) (t := (i - 1)) (by omega) (by omega) (nI 2)) (by omega) rfl (by decide) hs.1 hs.2.1 sq_c_56 rfl (Nat.le_of_ble_eq_true rfl) ?_
  refine sr_goto (tgt := 128) hA si_55_69 (by decide) ?_
  refine sr_aload_n hA si_55_128 rfl ?_
  refine sr_dup hA si_55_129 rfl ?_
  refine sr_getIv (v := (sp_sS g s o (sp_mv (sp_sv g s o) i (i - 1) (nI 2))).1 s 3) hA si_55_130 sf_55_64 (by decide) hs.1 hs.2.1 (by decide) rfl ?_
  refine sr_aload_n hA si_55_133 rfl ?_
  refine sr_getR (r := 21) hA si_55_134 sf_55_18 (by decide) (by decide) rfl rfl rfl ?_
  refine sr_iload_n hA si_55_137 rfl ?_
  refine sr_ialdNv (v := g.1 21 i) (n := 6) hA si_55_138 (by decide) rfl rfl (by omega) (by decide) (by rw [sp_sS_o (by omega) (by omega)]) ?_
  refine sr_iadd hA si_55_139 ?_
  refine sr_putI hA si_55_140 sf_55_64 rfl rfl (by decide) hs.1 hs.2.1 rfl ?_
  exact sr_vretF hA si_55_143 sq_r_55 (sp_sfin1 s7)
set_option maxRecDepth 20000 in
theorem xc_sound2 (X : sp_X) (g : sp_G) {s o i n : Nat} (hs : sp_sd s o) (hn : g.1 18 3 = nI n) (hb : n ≤ 6) (hi : i < n) (hk : g.1 19 i = nI 2)  : sp_Ct X 2 55 [.ref 18, .int (nI i), .ref s] g (sp_Fv (sp_sS g s o (upd (sp_sv g s o) 8 ((sp_sv g s o) 8 + g.1 21 i)))) := by
  obtain ⟨s1, s2, s3, s4, s5, s6, s7, s8, s9, s10, s11⟩ := id hs
  refine sp_walkN (n := 3) sq_p_55 sq_l_55 (Nat.le_of_ble_eq_true rfl) (fun a hA => ?_)
  show sp_Ev X a 55 0 [.ref 18, .int (nI i), .ref s] [] g
  refine sr_aload_n hA si_55_0 rfl ?_
  refine sr_getR (r := 19) hA si_55_1 sf_55_9 (by decide) (by decide) rfl rfl rfl ?_
  refine sr_iload_n hA si_55_4 rfl ?_
  refine sr_ialdNv (v := nI 2) (n := 6) hA si_55_5 (by decide) rfl rfl (by omega) (by decide) hk ?_
  refine sr_tswI (c := nI 2) (tgt := 128) hA si_55_6 rfl (by decide) (by decide) rfl (by decide) ?_
  refine sr_aload_n hA si_55_128 rfl ?_
  refine sr_dup hA si_55_129 rfl ?_
  refine sr_getIv (v := g.1 s 3) hA si_55_130 sf_55_64 (by decide) hs.1 hs.2.1 (by decide) rfl ?_
  refine sr_aload_n hA si_55_133 rfl ?_
  refine sr_getR (r := 21) hA si_55_134 sf_55_18 (by decide) (by decide) rfl rfl rfl ?_
  refine sr_iload_n hA si_55_137 rfl ?_
  refine sr_ialdNv (v := g.1 21 i) (n := 6) hA si_55_138 (by decide) rfl rfl (by omega) (by decide) rfl ?_
  refine sr_iadd hA si_55_139 ?_
  refine sr_putI hA si_55_140 sf_55_64 rfl rfl (by decide) hs.1 hs.2.1 rfl ?_
  exact sr_vretF hA si_55_143 sq_r_55 (sp_sfin0 s7)
set_option maxRecDepth 20000 in
theorem xc_sound5 (X : sp_X) (g : sp_G) {s o i n : Nat} (hs : sp_sd s o) (hn : g.1 18 3 = nI n) (hb : n ≤ 6) (hi : i < n) (hk : g.1 19 i = nI 5)  : sp_Ct X 2 55 [.ref 18, .int (nI i), .ref s] g (sp_Fv (sp_sS g s o (upd (sp_sv g s o) 8 ((sp_sv g s o) 8 + g.1 21 i)))) := by
  obtain ⟨s1, s2, s3, s4, s5, s6, s7, s8, s9, s10, s11⟩ := id hs
  refine sp_walkN (n := 3) sq_p_55 sq_l_55 (Nat.le_of_ble_eq_true rfl) (fun a hA => ?_)
  show sp_Ev X a 55 0 [.ref 18, .int (nI i), .ref s] [] g
  refine sr_aload_n hA si_55_0 rfl ?_
  refine sr_getR (r := 19) hA si_55_1 sf_55_9 (by decide) (by decide) rfl rfl rfl ?_
  refine sr_iload_n hA si_55_4 rfl ?_
  refine sr_ialdNv (v := nI 5) (n := 6) hA si_55_5 (by decide) rfl rfl (by omega) (by decide) hk ?_
  refine sr_tswO (tgt := 128) hA si_55_6 (by decide) (by decide) ?_
  refine sr_aload_n hA si_55_128 rfl ?_
  refine sr_dup hA si_55_129 rfl ?_
  refine sr_getIv (v := g.1 s 3) hA si_55_130 sf_55_64 (by decide) hs.1 hs.2.1 (by decide) rfl ?_
  refine sr_aload_n hA si_55_133 rfl ?_
  refine sr_getR (r := 21) hA si_55_134 sf_55_18 (by decide) (by decide) rfl rfl rfl ?_
  refine sr_iload_n hA si_55_137 rfl ?_
  refine sr_ialdNv (v := g.1 21 i) (n := 6) hA si_55_138 (by decide) rfl rfl (by omega) (by decide) rfl ?_
  refine sr_iadd hA si_55_139 ?_
  refine sr_putI hA si_55_140 sf_55_64 rfl rfl (by decide) hs.1 hs.2.1 rfl ?_
  exact sr_vretF hA si_55_143 sq_r_55 (sp_sfin0 s7)
set_option maxRecDepth 20000 in
theorem xc_sound30 (X : sp_X) (g : sp_G) {s o n : Nat} (hs : sp_sd s o) (hn : g.1 18 3 = nI n) (hb : n ≤ 6) (hi : 0 < n) (hk : g.1 19 0 = nI 3)  {b : Nat} (hbe : g.1 s 1 = nI b) (h0 : 0 < b) (hB : b < 2 ^ 31) : sp_Ct X 2 55 [.ref 18, .int (nI 0), .ref s] g (sp_Fv (sp_sS g s o (upd (sp_mv (sp_sv g s o) 6 0 (nI 1)) 8 ((sp_mv (sp_sv g s o) 6 0 (nI 1)) 8 + g.1 21 0)))) := by
  obtain ⟨s1, s2, s3, s4, s5, s6, s7, s8, s9, s10, s11⟩ := id hs
  refine sp_walkN (n := 3) sq_p_55 sq_l_55 (Nat.le_of_ble_eq_true rfl) (fun a hA => ?_)
  show sp_Ev X a 55 0 [.ref 18, .int (nI 0), .ref s] [] g
  refine sr_aload_n hA si_55_0 rfl ?_
  refine sr_getR (r := 19) hA si_55_1 sf_55_9 (by decide) (by decide) rfl rfl rfl ?_
  refine sr_iload_n hA si_55_4 rfl ?_
  refine sr_ialdNv (v := nI 3) (n := 6) hA si_55_5 (by decide) rfl rfl (by omega) (by decide) hk ?_
  refine sr_tswI (c := nI 3) (tgt := 101) hA si_55_6 rfl (by decide) (by decide) rfl (by decide) ?_
  refine sr_iload_n hA si_55_101 rfl ?_
  refine sr_if_neN (tgt := 112) hA si_55_102 (by decide) (by omega) (fun c1 => absurd c1 (by omega)) (fun c1 => ?_)
  refine sr_aload_n hA si_55_105 rfl ?_
  refine sr_VFv (c := s) (ci := 2) (as := []) (st := []) hA si_55_106 sv_57 sk_55_61 (xc_fetch X g hs hbe h0 hB) (by omega) rfl (by decide) hs.1 hs.2.1 sq_c_57 rfl (Nat.le_of_ble_eq_true rfl) ?_
  refine sr_goto (tgt := 128) hA si_55_109 (by decide) ?_
  refine sr_aload_n hA si_55_128 rfl ?_
  refine sr_dup hA si_55_129 rfl ?_
  refine sr_getIv (v := (sp_sS g s o (sp_mv (sp_sv g s o) 6 0 (nI 1))).1 s 3) hA si_55_130 sf_55_64 (by decide) hs.1 hs.2.1 (by decide) rfl ?_
  refine sr_aload_n hA si_55_133 rfl ?_
  refine sr_getR (r := 21) hA si_55_134 sf_55_18 (by decide) (by decide) rfl rfl rfl ?_
  refine sr_iload_n hA si_55_137 rfl ?_
  refine sr_ialdNv (v := g.1 21 0) (n := 6) hA si_55_138 (by decide) rfl rfl (by omega) (by decide) (by rw [sp_sS_o (by omega) (by omega)]) ?_
  refine sr_iadd hA si_55_139 ?_
  refine sr_putI hA si_55_140 sf_55_64 rfl rfl (by decide) hs.1 hs.2.1 rfl ?_
  exact sr_vretF hA si_55_143 sq_r_55 (sp_sfin1 s7)
set_option maxRecDepth 20000 in
theorem xc_sound3Z (X : sp_X) (g : sp_G) {s o n : Nat} (hs : sp_sd s o) (hn : g.1 18 3 = nI n) (hb : n ≤ 6) (hi : 0 < n) (hk : g.1 19 0 = nI 3)  (hbe : g.1 s 1 = nI 0) : sp_Ct X 2 55 [.ref 18, .int (nI 0), .ref s] g (sp_Fv (sp_sS g s o (upd (sp_mv (sp_sv g s o) 6 0 (nI 1)) 8 ((sp_mv (sp_sv g s o) 6 0 (nI 1)) 8 + g.1 21 0)))) := by
  obtain ⟨s1, s2, s3, s4, s5, s6, s7, s8, s9, s10, s11⟩ := id hs
  refine sp_walkN (n := 3) sq_p_55 sq_l_55 (Nat.le_of_ble_eq_true rfl) (fun a hA => ?_)
  show sp_Ev X a 55 0 [.ref 18, .int (nI 0), .ref s] [] g
  refine sr_aload_n hA si_55_0 rfl ?_
  refine sr_getR (r := 19) hA si_55_1 sf_55_9 (by decide) (by decide) rfl rfl rfl ?_
  refine sr_iload_n hA si_55_4 rfl ?_
  refine sr_ialdNv (v := nI 3) (n := 6) hA si_55_5 (by decide) rfl rfl (by omega) (by decide) hk ?_
  refine sr_tswI (c := nI 3) (tgt := 101) hA si_55_6 rfl (by decide) (by decide) rfl (by decide) ?_
  refine sr_iload_n hA si_55_101 rfl ?_
  refine sr_if_neN (tgt := 112) hA si_55_102 (by decide) (by omega) (fun c1 => absurd c1 (by omega)) (fun c1 => ?_)
  refine sr_aload_n hA si_55_105 rfl ?_
  refine sr_VFv (c := s) (ci := 2) (as := []) (st := []) hA si_55_106 sv_57 sk_55_61 (xc_fetch0 X g hs hbe) (by omega) rfl (by decide) hs.1 hs.2.1 sq_c_57 rfl (Nat.le_of_ble_eq_true rfl) ?_
  refine sr_goto (tgt := 128) hA si_55_109 (by decide) ?_
  refine sr_aload_n hA si_55_128 rfl ?_
  refine sr_dup hA si_55_129 rfl ?_
  refine sr_getIv (v := (sp_sS g s o (sp_mv (sp_sv g s o) 6 0 (nI 1))).1 s 3) hA si_55_130 sf_55_64 (by decide) hs.1 hs.2.1 (by decide) rfl ?_
  refine sr_aload_n hA si_55_133 rfl ?_
  refine sr_getR (r := 21) hA si_55_134 sf_55_18 (by decide) (by decide) rfl rfl rfl ?_
  refine sr_iload_n hA si_55_137 rfl ?_
  refine sr_ialdNv (v := g.1 21 0) (n := 6) hA si_55_138 (by decide) rfl rfl (by omega) (by decide) (by rw [sp_sS_o (by omega) (by omega)]) ?_
  refine sr_iadd hA si_55_139 ?_
  refine sr_putI hA si_55_140 sf_55_64 rfl rfl (by decide) hs.1 hs.2.1 rfl ?_
  exact sr_vretF hA si_55_143 sq_r_55 (sp_sfin1 s7)
set_option maxRecDepth 20000 in
theorem xc_sound3P (X : sp_X) (g : sp_G) {s o i n : Nat} (hs : sp_sd s o) (hn : g.1 18 3 = nI n) (hb : n ≤ 6) (hi : i < n) (hk : g.1 19 i = nI 3) (hl : 0 < i) : sp_Ct X 2 55 [.ref 18, .int (nI i), .ref s] g (sp_Fv (sp_sS g s o (upd (sp_mv (sp_sv g s o) (i - 1) i (nI 1)) 8 ((sp_mv (sp_sv g s o) (i - 1) i (nI 1)) 8 + g.1 21 i)))) := by
  obtain ⟨s1, s2, s3, s4, s5, s6, s7, s8, s9, s10, s11⟩ := id hs
  refine sp_walkN (n := 3) sq_p_55 sq_l_55 (Nat.le_of_ble_eq_true rfl) (fun a hA => ?_)
  show sp_Ev X a 55 0 [.ref 18, .int (nI i), .ref s] [] g
  refine sr_aload_n hA si_55_0 rfl ?_
  refine sr_getR (r := 19) hA si_55_1 sf_55_9 (by decide) (by decide) rfl rfl rfl ?_
  refine sr_iload_n hA si_55_4 rfl ?_
  refine sr_ialdNv (v := nI 3) (n := 6) hA si_55_5 (by decide) rfl rfl (by omega) (by decide) hk ?_
  refine sr_tswI (c := nI 3) (tgt := 101) hA si_55_6 rfl (by decide) (by decide) rfl (by decide) ?_
  refine sr_iload_n hA si_55_101 rfl ?_
  refine sr_if_neN (tgt := 112) hA si_55_102 (by decide) (by omega) (fun c1 => ?_) (fun c1 => absurd c1 (by omega))
  refine sr_aload_n hA si_55_112 rfl ?_
  refine sr_iload_n hA si_55_113 rfl ?_
  refine sr_iconst (v := nI 1) hA si_55_114 (by decide) ?_
  refine sr_isubN hA si_55_115 (by omega) ?_
  refine sr_iload_n hA si_55_116 rfl ?_
  refine sr_iconst (v := nI 1) hA si_55_117 (by decide) ?_
  refine sr_aload_n hA si_55_118 rfl ?_
  refine sr_getIv (v := nI n) hA si_55_119 sf_55_21 (by decide) (by decide) rfl (by decide) hn ?_
  refine sr_VFv (c := s) (ci := 2) (as := [.int (nI (i - 1)), .int (nI i), .int (nI 1), .int (nI n)]) (st := []) hA si_55_122 sv_56 sk_55_57 (xc_toss X g hs (by omega) (t := i) (by omega) (by omega) (nI 1)) (by omega) rfl (by decide) hs.1 hs.2.1 sq_c_56 rfl (Nat.le_of_ble_eq_true rfl) ?_
  refine sr_goto (tgt := 128) hA si_55_125 (by decide) ?_
  refine sr_aload_n hA si_55_128 rfl ?_
  refine sr_dup hA si_55_129 rfl ?_
  refine sr_getIv (v := (sp_sS g s o (sp_mv (sp_sv g s o) (i - 1) i (nI 1))).1 s 3) hA si_55_130 sf_55_64 (by decide) hs.1 hs.2.1 (by decide) rfl ?_
  refine sr_aload_n hA si_55_133 rfl ?_
  refine sr_getR (r := 21) hA si_55_134 sf_55_18 (by decide) (by decide) rfl rfl rfl ?_
  refine sr_iload_n hA si_55_137 rfl ?_
  refine sr_ialdNv (v := g.1 21 i) (n := 6) hA si_55_138 (by decide) rfl rfl (by omega) (by decide) (by rw [sp_sS_o (by omega) (by omega)]) ?_
  refine sr_iadd hA si_55_139 ?_
  refine sr_putI hA si_55_140 sf_55_64 rfl rfl (by decide) hs.1 hs.2.1 rfl ?_
  exact sr_vretF hA si_55_143 sq_r_55 (sp_sfin1 s7)
set_option maxRecDepth 20000 in
theorem xc_sound40L (X : sp_X) (g : sp_G) {s o n : Nat} (hs : sp_sd s o) (hn : g.1 18 3 = nI n) (hb : n ≤ 6) (hi : 0 < n) (hk : g.1 19 0 = nI 4) (hl : 1 = n) : sp_Ct X 2 55 [.ref 18, .int (nI 0), .ref s] g (sp_Fv (sp_sS g s o (upd (sp_mv (sp_mv (sp_sv g s o) 0 6 (nI 1)) 0 6 (nI 1)) 8 ((sp_mv (sp_mv (sp_sv g s o) 0 6 (nI 1)) 0 6 (nI 1)) 8 + g.1 21 0)))) := by
  obtain ⟨s1, s2, s3, s4, s5, s6, s7, s8, s9, s10, s11⟩ := id hs
  refine sp_walkN (n := 3) sq_p_55 sq_l_55 (Nat.le_of_ble_eq_true rfl) (fun a hA => ?_)
  show sp_Ev X a 55 0 [.ref 18, .int (nI 0), .ref s] [] g
  refine sr_aload_n hA si_55_0 rfl ?_
  refine sr_getR (r := 19) hA si_55_1 sf_55_9 (by decide) (by decide) rfl rfl rfl ?_
  refine sr_iload_n hA si_55_4 rfl ?_
  refine sr_ialdNv (v := nI 4) (n := 6) hA si_55_5 (by decide) rfl rfl (by omega) (by decide) hk ?_
  refine sr_tswI (c := nI 4) (tgt := 72) hA si_55_6 rfl (by decide) (by decide) rfl (by decide) ?_
  refine sr_aload_n hA si_55_72 rfl ?_
  refine sr_iload_n hA si_55_73 rfl ?_
  refine sr_iload_n hA si_55_74 rfl ?_
  refine sr_iconst (v := nI 1) hA si_55_75 (by decide) ?_
  refine sr_isub hA si_55_76 ?_
  refine sr_iconst (v := nI 1) hA si_55_77 (by decide) ?_
  refine sr_aload_n hA si_55_78 rfl ?_
  refine sr_getIv (v := nI n) hA si_55_79 sf_55_21 (by decide) (by decide) rfl (by decide) hn ?_
  refine sr_VFv (c := s) (ci := 2) (as := [.int (nI 0), .int ((nI 0) - (nI 1)), .int (nI 1), .int (nI n)]) (st := []) hA si_55_82 sv_56 sk_55_57 (xc_tossM X g hs (by omega) (by decide) (nI 1)) (by omega) rfl (by decide) hs.1 hs.2.1 sq_c_56 rfl (Nat.le_of_ble_eq_true rfl) ?_
  refine sr_aload_n hA si_55_85 rfl ?_
  refine sr_iload_n hA si_55_86 rfl ?_
  refine sr_iload_n hA si_55_87 rfl ?_
  refine sr_iconst (v := nI 1) hA si_55_88 (by decide) ?_
  refine sr_iaddN hA si_55_89 ?_
  refine sr_iconst (v := nI 1) hA si_55_90 (by decide) ?_
  refine sr_aload_n hA si_55_91 rfl ?_
  refine sr_getIv (v := nI n) hA si_55_92 sf_55_21 (by decide) (by decide) rfl (by decide) (by rw [sp_sS_o (by omega) (by omega)]; exact hn) ?_
  refine sr_VFv (c := s) (ci := 2) (as := [.int (nI 0), .int (nI (0 + 1)), .int (nI 1), .int (nI n)]) (st := []) hA si_55_95 sv_56 sk_55_57 (xc_tossH X (sp_sS g s o (sp_mv (sp_sv g s o) 0 6 (nI 1))) hs (by omega) (t := (0 + 1)) (by omega) (by omega) (nI 1)) (by omega) rfl (by decide) hs.1 hs.2.1 sq_c_56 rfl (Nat.le_of_ble_eq_true rfl) ?_
  refine sr_goto (tgt := 128) hA si_55_98 (by decide) ?_
  refine sr_aload_n hA si_55_128 rfl ?_
  refine sr_dup hA si_55_129 rfl ?_
  refine sr_getIv (v := (sp_sS (sp_sS g s o (sp_mv (sp_sv g s o) 0 6 (nI 1))) s o (sp_mv (sp_sv (sp_sS g s o (sp_mv (sp_sv g s o) 0 6 (nI 1))) s o) 0 6 (nI 1))).1 s 3) hA si_55_130 sf_55_64 (by decide) hs.1 hs.2.1 (by decide) rfl ?_
  refine sr_aload_n hA si_55_133 rfl ?_
  refine sr_getR (r := 21) hA si_55_134 sf_55_18 (by decide) (by decide) rfl rfl rfl ?_
  refine sr_iload_n hA si_55_137 rfl ?_
  refine sr_ialdNv (v := g.1 21 0) (n := 6) hA si_55_138 (by decide) rfl rfl (by omega) (by decide) (by rw [sp_sS_o (by omega) (by omega)]; rw [sp_sS_o (by omega) (by omega)]) ?_
  refine sr_iadd hA si_55_139 ?_
  refine sr_putI hA si_55_140 sf_55_64 rfl rfl (by decide) hs.1 hs.2.1 rfl ?_
  exact sr_vretF hA si_55_143 sq_r_55 (sp_sfin2 s7 (by omega) (by omega))
set_option maxRecDepth 20000 in
theorem xc_sound40R (X : sp_X) (g : sp_G) {s o n : Nat} (hs : sp_sd s o) (hn : g.1 18 3 = nI n) (hb : n ≤ 6) (hi : 0 < n) (hk : g.1 19 0 = nI 4) (hl : 1 < n) : sp_Ct X 2 55 [.ref 18, .int (nI 0), .ref s] g (sp_Fv (sp_sS g s o (upd (sp_mv (sp_mv (sp_sv g s o) 0 6 (nI 1)) 0 (0 + 1) (nI 1)) 8 ((sp_mv (sp_mv (sp_sv g s o) 0 6 (nI 1)) 0 (0 + 1) (nI 1)) 8 + g.1 21 0)))) := by
  obtain ⟨s1, s2, s3, s4, s5, s6, s7, s8, s9, s10, s11⟩ := id hs
  refine sp_walkN (n := 3) sq_p_55 sq_l_55 (Nat.le_of_ble_eq_true rfl) (fun a hA => ?_)
  show sp_Ev X a 55 0 [.ref 18, .int (nI 0), .ref s] [] g
  refine sr_aload_n hA si_55_0 rfl ?_
  refine sr_getR (r := 19) hA si_55_1 sf_55_9 (by decide) (by decide) rfl rfl rfl ?_
  refine sr_iload_n hA si_55_4 rfl ?_
  refine sr_ialdNv (v := nI 4) (n := 6) hA si_55_5 (by decide) rfl rfl (by omega) (by decide) hk ?_
  refine sr_tswI (c := nI 4) (tgt := 72) hA si_55_6 rfl (by decide) (by decide) rfl (by decide) ?_
  refine sr_aload_n hA si_55_72 rfl ?_
  refine sr_iload_n hA si_55_73 rfl ?_
  refine sr_iload_n hA si_55_74 rfl ?_
  refine sr_iconst (v := nI 1) hA si_55_75 (by decide) ?_
  refine sr_isub hA si_55_76 ?_
  refine sr_iconst (v := nI 1) hA si_55_77 (by decide) ?_
  refine sr_aload_n hA si_55_78 rfl ?_
  refine sr_getIv (v := nI n) hA si_55_79 sf_55_21 (by decide) (by decide) rfl (by decide) hn ?_
  refine sr_VFv (c := s) (ci := 2) (as := [.int (nI 0), .int ((nI 0) - (nI 1)), .int (nI 1), .int (nI n)]) (st := []) hA si_55_82 sv_56 sk_55_57 (xc_tossM X g hs (by omega) (by decide) (nI 1)) (by omega) rfl (by decide) hs.1 hs.2.1 sq_c_56 rfl (Nat.le_of_ble_eq_true rfl) ?_
  refine sr_aload_n hA si_55_85 rfl ?_
  refine sr_iload_n hA si_55_86 rfl ?_
  refine sr_iload_n hA si_55_87 rfl ?_
  refine sr_iconst (v := nI 1) hA si_55_88 (by decide) ?_
  refine sr_iaddN hA si_55_89 ?_
  refine sr_iconst (v := nI 1) hA si_55_90 (by decide) ?_
  refine sr_aload_n hA si_55_91 rfl ?_
  refine sr_getIv (v := nI n) hA si_55_92 sf_55_21 (by decide) (by decide) rfl (by decide) (by rw [sp_sS_o (by omega) (by omega)]; exact hn) ?_
  refine sr_VFv (c := s) (ci := 2) (as := [.int (nI 0), .int (nI (0 + 1)), .int (nI 1), .int (nI n)]) (st := []) hA si_55_95 sv_56 sk_55_57 (xc_toss X (sp_sS g s o (sp_mv (sp_sv g s o) 0 6 (nI 1))) hs (by omega) (t := (0 + 1)) (by omega) (by omega) (nI 1)) (by omega) rfl (by decide) hs.1 hs.2.1 sq_c_56 rfl (Nat.le_of_ble_eq_true rfl) ?_
  refine sr_goto (tgt := 128) hA si_55_98 (by decide) ?_
  refine sr_aload_n hA si_55_128 rfl ?_
  refine sr_dup hA si_55_129 rfl ?_
  refine sr_getIv (v := (sp_sS (sp_sS g s o (sp_mv (sp_sv g s o) 0 6 (nI 1))) s o (sp_mv (sp_sv (sp_sS g s o (sp_mv (sp_sv g s o) 0 6 (nI 1))) s o) 0 (0 + 1) (nI 1))).1 s 3) hA si_55_130 sf_55_64 (by decide) hs.1 hs.2.1 (by decide) rfl ?_
  refine sr_aload_n hA si_55_133 rfl ?_
  refine sr_getR (r := 21) hA si_55_134 sf_55_18 (by decide) (by decide) rfl rfl rfl ?_
  refine sr_iload_n hA si_55_137 rfl ?_
  refine sr_ialdNv (v := g.1 21 0) (n := 6) hA si_55_138 (by decide) rfl rfl (by omega) (by decide) (by rw [sp_sS_o (by omega) (by omega)]; rw [sp_sS_o (by omega) (by omega)]) ?_
  refine sr_iadd hA si_55_139 ?_
  refine sr_putI hA si_55_140 sf_55_64 rfl rfl (by decide) hs.1 hs.2.1 rfl ?_
  exact sr_vretF hA si_55_143 sq_r_55 (sp_sfin2 s7 (by omega) (by omega))
set_option maxRecDepth 20000 in
theorem xc_sound4PL (X : sp_X) (g : sp_G) {s o i n : Nat} (hs : sp_sd s o) (hn : g.1 18 3 = nI n) (hb : n ≤ 6) (hi : i < n) (hk : g.1 19 i = nI 4) (hl : 0 < i) (hl2 : i + 1 = n) : sp_Ct X 2 55 [.ref 18, .int (nI i), .ref s] g (sp_Fv (sp_sS g s o (upd (sp_mv (sp_mv (sp_sv g s o) i (i - 1) (nI 1)) i 6 (nI 1)) 8 ((sp_mv (sp_mv (sp_sv g s o) i (i - 1) (nI 1)) i 6 (nI 1)) 8 + g.1 21 i)))) := by
  obtain ⟨s1, s2, s3, s4, s5, s6, s7, s8, s9, s10, s11⟩ := id hs
  refine sp_walkN (n := 3) sq_p_55 sq_l_55 (Nat.le_of_ble_eq_true rfl) (fun a hA => ?_)
  show sp_Ev X a 55 0 [.ref 18, .int (nI i), .ref s] [] g
  refine sr_aload_n hA si_55_0 rfl ?_
  refine sr_getR (r := 19) hA si_55_1 sf_55_9 (by decide) (by decide) rfl rfl rfl ?_
  refine sr_iload_n hA si_55_4 rfl ?_
  refine sr_ialdNv (v := nI 4) (n := 6) hA si_55_5 (by decide) rfl rfl (by omega) (by decide) hk ?_
  refine sr_tswI (c := nI 4) (tgt := 72) hA si_55_6 rfl (by decide) (by decide) rfl (by decide) ?_
  refine sr_aload_n hA si_55_72 rfl ?_
  refine sr_iload_n hA si_55_73 rfl ?_
  refine sr_iload_n hA si_55_74 rfl ?_
  refine sr_iconst (v := nI 1) hA si_55_75 (by decide) ?_
  refine sr_isubN hA si_55_76 (by omega) ?_
  refine sr_iconst (v := nI 1) hA si_55_77 (by decide) ?_
  refine sr_aload_n hA si_55_78 rfl ?_
  refine sr_getIv (v := nI n) hA si_55_79 sf_55_21 (by decide) (by decide) rfl (by decide) hn ?_
  refine sr_VFv (c := s) (ci := 2) (as := [.int (nI i), .int (nI (i - 1)), .int (nI 1), .int (nI n)]) (st := []) hA si_55_82 sv_56 sk_55_57 (xc_toss X g hs (by omega) (t := (i - 1)) (by omega) (by omega) (nI 1)) (by omega) rfl (by decide) hs.1 hs.2.1 sq_c_56 rfl (Nat.le_of_ble_eq_true rfl) ?_
  refine sr_aload_n hA si_55_85 rfl ?_
  refine sr_iload_n hA si_55_86 rfl ?_
  refine sr_iload_n hA si_55_87 rfl ?_
  refine sr_iconst (v := nI 1) hA si_55_88 (by decide) ?_
  refine sr_iaddN hA si_55_89 ?_
  refine sr_iconst (v := nI 1) hA si_55_90 (by decide) ?_
  refine sr_aload_n hA si_55_91 rfl ?_
  refine sr_getIv (v := nI n) hA si_55_92 sf_55_21 (by decide) (by decide) rfl (by decide) (by rw [sp_sS_o (by omega) (by omega)]; exact hn) ?_
  refine sr_VFv (c := s) (ci := 2) (as := [.int (nI i), .int (nI (i + 1)), .int (nI 1), .int (nI n)]) (st := []) hA si_55_95 sv_56 sk_55_57 (xc_tossH X (sp_sS g s o (sp_mv (sp_sv g s o) i (i - 1) (nI 1))) hs (by omega) (t := (i + 1)) (by omega) (by omega) (nI 1)) (by omega) rfl (by decide) hs.1 hs.2.1 sq_c_56 rfl (Nat.le_of_ble_eq_true rfl) ?_
  refine sr_goto (tgt := 128) hA si_55_98 (by decide) ?_
  refine sr_aload_n hA si_55_128 rfl ?_
  refine sr_dup hA si_55_129 rfl ?_
  refine sr_getIv (v := (sp_sS (sp_sS g s o (sp_mv (sp_sv g s o) i (i - 1) (nI 1))) s o (sp_mv (sp_sv (sp_sS g s o (sp_mv (sp_sv g s o) i (i - 1) (nI 1))) s o) i 6 (nI 1))).1 s 3) hA si_55_130 sf_55_64 (by decide) hs.1 hs.2.1 (by decide) rfl ?_
  refine sr_aload_n hA si_55_133 rfl ?_
  refine sr_getR (r := 21) hA si_55_134 sf_55_18 (by decide) (by decide) rfl rfl rfl ?_
  refine sr_iload_n hA si_55_137 rfl ?_
  refine sr_ialdNv (v := g.1 21 i) (n := 6) hA si_55_138 (by decide) rfl rfl (by omega) (by decide) (by rw [sp_sS_o (by omega) (by omega)]; rw [sp_sS_o (by omega) (by omega)]) ?_
  refine sr_iadd hA si_55_139 ?_
  refine sr_putI hA si_55_140 sf_55_64 rfl rfl (by decide) hs.1 hs.2.1 rfl ?_
  exact sr_vretF hA si_55_143 sq_r_55 (sp_sfin2 s7 (by omega) (by omega))
set_option maxRecDepth 20000 in
theorem xc_sound4PR (X : sp_X) (g : sp_G) {s o i n : Nat} (hs : sp_sd s o) (hn : g.1 18 3 = nI n) (hb : n ≤ 6) (hi : i < n) (hk : g.1 19 i = nI 4) (hl : 0 < i) (hl2 : i + 1 < n) : sp_Ct X 2 55 [.ref 18, .int (nI i), .ref s] g (sp_Fv (sp_sS g s o (upd (sp_mv (sp_mv (sp_sv g s o) i (i - 1) (nI 1)) i (i + 1) (nI 1)) 8 ((sp_mv (sp_mv (sp_sv g s o) i (i - 1) (nI 1)) i (i + 1) (nI 1)) 8 + g.1 21 i)))) := by
  obtain ⟨s1, s2, s3, s4, s5, s6, s7, s8, s9, s10, s11⟩ := id hs
  refine sp_walkN (n := 3) sq_p_55 sq_l_55 (Nat.le_of_ble_eq_true rfl) (fun a hA => ?_)
  show sp_Ev X a 55 0 [.ref 18, .int (nI i), .ref s] [] g
  refine sr_aload_n hA si_55_0 rfl ?_
  refine sr_getR (r := 19) hA si_55_1 sf_55_9 (by decide) (by decide) rfl rfl rfl ?_
  refine sr_iload_n hA si_55_4 rfl ?_
  refine sr_ialdNv (v := nI 4) (n := 6) hA si_55_5 (by decide) rfl rfl (by omega) (by decide) hk ?_
  refine sr_tswI (c := nI 4) (tgt := 72) hA si_55_6 rfl (by decide) (by decide) rfl (by decide) ?_
  refine sr_aload_n hA si_55_72 rfl ?_
  refine sr_iload_n hA si_55_73 rfl ?_
  refine sr_iload_n hA si_55_74 rfl ?_
  refine sr_iconst (v := nI 1) hA si_55_75 (by decide) ?_
  refine sr_isubN hA si_55_76 (by omega) ?_
  refine sr_iconst (v := nI 1) hA si_55_77 (by decide) ?_
  refine sr_aload_n hA si_55_78 rfl ?_
  refine sr_getIv (v := nI n) hA si_55_79 sf_55_21 (by decide) (by decide) rfl (by decide) hn ?_
  refine sr_VFv (c := s) (ci := 2) (as := [.int (nI i), .int (nI (i - 1)), .int (nI 1), .int (nI n)]) (st := []) hA si_55_82 sv_56 sk_55_57 (xc_toss X g hs (by omega) (t := (i - 1)) (by omega) (by omega) (nI 1)) (by omega) rfl (by decide) hs.1 hs.2.1 sq_c_56 rfl (Nat.le_of_ble_eq_true rfl) ?_
  refine sr_aload_n hA si_55_85 rfl ?_
  refine sr_iload_n hA si_55_86 rfl ?_
  refine sr_iload_n hA si_55_87 rfl ?_
  refine sr_iconst (v := nI 1) hA si_55_88 (by decide) ?_
  refine sr_iaddN hA si_55_89 ?_
  refine sr_iconst (v := nI 1) hA si_55_90 (by decide) ?_
  refine sr_aload_n hA si_55_91 rfl ?_
  refine sr_getIv (v := nI n) hA si_55_92 sf_55_21 (by decide) (by decide) rfl (by decide) (by rw [sp_sS_o (by omega) (by omega)]; exact hn) ?_
  refine sr_VFv (c := s) (ci := 2) (as := [.int (nI i), .int (nI (i + 1)), .int (nI 1), .int (nI n)]) (st := []) hA si_55_95 sv_56 sk_55_57 (xc_toss X (sp_sS g s o (sp_mv (sp_sv g s o) i (i - 1) (nI 1))) hs (by omega) (t := (i + 1)) (by omega) (by omega) (nI 1)) (by omega) rfl (by decide) hs.1 hs.2.1 sq_c_56 rfl (Nat.le_of_ble_eq_true rfl) ?_
  refine sr_goto (tgt := 128) hA si_55_98 (by decide) ?_
  refine sr_aload_n hA si_55_128 rfl ?_
  refine sr_dup hA si_55_129 rfl ?_
  refine sr_getIv (v := (sp_sS (sp_sS g s o (sp_mv (sp_sv g s o) i (i - 1) (nI 1))) s o (sp_mv (sp_sv (sp_sS g s o (sp_mv (sp_sv g s o) i (i - 1) (nI 1))) s o) i (i + 1) (nI 1))).1 s 3) hA si_55_130 sf_55_64 (by decide) hs.1 hs.2.1 (by decide) rfl ?_
  refine sr_aload_n hA si_55_133 rfl ?_
  refine sr_getR (r := 21) hA si_55_134 sf_55_18 (by decide) (by decide) rfl rfl rfl ?_
  refine sr_iload_n hA si_55_137 rfl ?_
  refine sr_ialdNv (v := g.1 21 i) (n := 6) hA si_55_138 (by decide) rfl rfl (by omega) (by decide) (by rw [sp_sS_o (by omega) (by omega)]; rw [sp_sS_o (by omega) (by omega)]) ?_
  refine sr_iadd hA si_55_139 ?_
  refine sr_putI hA si_55_140 sf_55_64 rfl rfl (by decide) hs.1 hs.2.1 rfl ?_
  exact sr_vretF hA si_55_143 sq_r_55 (sp_sfin2 s7 (by omega) (by omega))
/-- sound, whatever the key is -/
theorem xc_sound (X : sp_X) (g : sp_G) {s o i n k b : Nat} (hs : sp_sd s o) (hn : g.1 18 3 = nI n) (hb : n ≤ 6) (hi : i < n) (hk : g.1 19 i = nI k) (hk5 : k ≤ 5) (hbe : g.1 s 1 = nI b) (hB : b < 2 ^ 31) : sp_Ct X 2 55 [.ref 18, .int (nI i), .ref s] g (sp_Fv (sp_sS g s o (sp_pl n (g.1 19) (g.1 21) (sp_sv g s o) i))) := by
  unfold sp_pl sp_ef
  rw [hk]
  rcases (show k = 0 ∨ k = 1 ∨ k = 2 ∨ k = 3 ∨ k = 4 ∨ k = 5 by omega) with rfl | rfl | rfl | rfl | rfl | rfl
  · rw [if_pos (by decide)]
    by_cases hl : i + 1 = n
    · rw [show sp_rg n i = 6 from if_pos hl]
      exact xc_sound0L X g hs hn hb hi hk hl
    · rw [show sp_rg n i = i + 1 from if_neg hl]
      exact xc_sound0R X g hs hn hb hi hk (by omega)
  · rw [if_neg (by decide), if_pos (by decide)]
    rcases Nat.eq_zero_or_pos i with e | hl
    · subst e
      exact xc_sound10 X g hs hn hb hi hk
    · rw [show sp_lf i = i - 1 from if_neg (by omega)]
      exact xc_sound1P X g hs hn hb hi hk hl
  · rw [if_neg (by decide), if_neg (by decide), if_neg (by decide), if_neg (by decide)]
    exact xc_sound2 X g hs hn hb hi hk
  · rw [if_neg (by decide), if_neg (by decide), if_pos (by decide)]
    rcases Nat.eq_zero_or_pos i with e | hl
    · subst e
      rcases Nat.eq_zero_or_pos b with e | h0
      · subst e
        exact xc_sound3Z X g hs hn hb hi hk hbe
      · exact xc_sound30 X g hs hn hb hi hk hbe h0 hB
    · rw [show sp_lf i = i - 1 from if_neg (by omega)]
      exact xc_sound3P X g hs hn hb hi hk hl
  · rw [if_neg (by decide), if_neg (by decide), if_neg (by decide), if_pos (by decide)]
    rcases Nat.eq_zero_or_pos i with e | hl
    · subst e
      rw [show sp_lf 0 = 6 from rfl]
      by_cases hl : 0 + 1 = n
      · rw [show sp_rg n 0 = 6 from if_pos hl]
        exact xc_sound40L X g hs hn hb hi hk hl
      · rw [show sp_rg n 0 = 0 + 1 from if_neg hl]
        exact xc_sound40R X g hs hn hb hi hk (by omega)
    · rw [show sp_lf i = i - 1 from if_neg (by omega)]
      by_cases hl2 : i + 1 = n
      · rw [show sp_rg n i = 6 from if_pos hl2]
        exact xc_sound4PL X g hs hn hb hi hk hl hl2
      · rw [show sp_rg n i = i + 1 from if_neg hl2]
        exact xc_sound4PR X g hs hn hb hi hk hl (by omega)
  · rw [if_neg (by decide), if_neg (by decide), if_neg (by decide), if_neg (by decide)]
    exact xc_sound5 X g hs hn hb hi hk
