def sp_ps (f : Nat → Int32) (z p : Nat) : Nat → Nat
  | 0 => sp_bl0 f z p
  | j + 1 => sp_bl0 f z (sp_ps f z p j + 5)
def sp_ra (g g' : sp_G) : Prop := (∀ c, ¬ (56 ≤ c ∧ c ≤ 62) → g'.1 c = g.1 c) ∧ g'.2 = g.2
abbrev sp_D : Type := Nat → Nat × Nat × Nat × Nat × Nat
def sp_rx2 (g gg : sp_G) (i : Nat) (D : sp_D) (s : Nat) : Prop := sp_ra g gg ∧ gg.1 57 3 = nI i ∧ gg.1 56 2 = nI s ∧ (∀ j, j < i → gg.1 58 j = nI (D j).1 ∧ gg.1 59 j = nI (D j).2.1 ∧ gg.1 62 j = nI (10 * (D j).2.2.1 + (D j).2.2.2.1) ∧ gg.1 60 j = nI (D j).2.2.2.2) ∧ (∀ j, i ≤ j → j < 6 → gg.1 62 j = 0) ∧ gg.1 61 1 = 0 ∧ gg.1 61 2 = 0 ∧ gg.1 61 3 = 0
def sp_gks (f : Nat → Int32) (z p i : Nat) (D : sp_D) : Prop := i ≤ 6 ∧ ∀ j, j < i → sp_ps f z p j < z ∧ sp_gk f z (sp_ps f z p j) (D j)
theorem sp_ra.rf {g : sp_G} : sp_ra g g := ⟨fun _ _ => rfl, rfl⟩
theorem sp_ra.wI {g g1 : sp_G} (h : sp_ra g g1) {c j : Nat} {v : Int32} (hc : 56 ≤ c ∧ c ≤ 62) : sp_ra g (sp_wI g1 c j v) := ⟨fun c' hc' => by rw [sp_wI_ne (by rintro rfl; exact hc' hc)]; exact h.1 c' hc', h.2⟩
theorem sp_ra.sS {g g1 : sp_G} (h : sp_ra g g1) {v : Nat → Int32} : sp_ra g (sp_sS g1 61 62 v) := ⟨fun c' hc' => by rw [sp_sS_o (by omega) (by omega)]; exact h.1 c' hc', h.2⟩
theorem sp_TX.ra {t z : Nat} {f : Nat → Int32} {g g1 : sp_G} (h : sp_TX t z f g) (k : sp_ra g g1) : sp_TX t z f g1 := by
  obtain ⟨h1, h2, h3, h4⟩ := h
  exact ⟨h1, h2, by rw [k.1 16 (by omega)]; exact h3, fun i hi => by rw [k.1 (12 + t) (by omega)]; exact h4 i hi⟩
theorem sp_ps_le {f : Nat → Int32} {z p : Nat} (hp : p ≤ z) {i : Nat} {D : sp_D} (h : sp_gks f z p i D) : ∀ j, j ≤ i → sp_ps f z p j ≤ z
  | 0, _ => (sp_bl0_in hp).2.1
  | j + 1, hj => (sp_bl0_in (h.2 j (by omega)).2.2.1).2.1
abbrev sp_rw2 (g : sp_G) (i : Nat) (D : Nat × Nat × Nat × Nat × Nat) : sp_G := sp_wI (sp_wI (sp_wI (sp_wI (sp_wI g 58 i (nI D.1)) 59 i (nI D.2.1)) 62 i (nI (10 * D.2.2.1 + D.2.2.2.1))) 60 i (nI D.2.2.2.2)) 57 3 (nI (i + 1))
theorem sp_rx2.step {g gg : sp_G} {i s : Nat} {D : sp_D} (h : sp_rx2 g gg i D s) (hi : i < 6) : sp_rx2 g (sp_rw2 gg i (D i)) (i + 1) D s := by
  obtain ⟨h1, h2, h3, h4, h5, h6, h7, h8⟩ := h
  refine ⟨((((h1.wI (by omega)).wI (by omega)).wI (by omega)).wI (by omega)).wI (by omega), rfl, h3, fun j hj => ?_, fun j h9 h10 => ?_, h6, h7, h8⟩
  · by_cases e : j = i
    · subst e
      refine ⟨?_, ?_, ?_, ?_⟩ <;> simp [sp_rd]
    · have := h4 j (by omega)
      refine ⟨?_, ?_, ?_, ?_⟩ <;> simp [sp_rd, e, this]
  · have := h5 j (by omega) h10
    simp [sp_rd, this, show j ≠ i by omega]
theorem sp_clearEq {g : sp_G} {s o : Nat} (hso : o ≠ s) : sp_wI (sp_wI (sp_wI (sp_fill g o 6 (nI 0)) s 1 (nI 0)) s 2 (nI 0)) s 3 (nI 0) = sp_sS g s o (fun _ => nI 0) := sp_gext (fun c j => by
  rw [sp_rd, sp_rd, sp_rd, sp_rdF, sp_sS_rd]
  by_cases h1 : c = o
  · subst h1
    rw [if_neg (by omega), if_neg (by omega), if_neg (by omega)]
    by_cases h2 : j < 6
    · rw [if_pos ⟨rfl, h2⟩, if_pos ⟨rfl, h2⟩]
    · rw [if_neg (by omega), if_neg (by omega), if_neg (by omega)]
  · by_cases h2 : c = s
    · subst h2
      by_cases h3 : j = 3
      · subst h3; simp [h1]
      by_cases h4 : j = 2
      · subst h4; simp [h1]
      by_cases h5 : j = 1
      · subst h5; simp [h1]
      · rw [if_neg (by omega), if_neg (by omega), if_neg (by omega), if_neg (by omega), if_neg (by omega), if_neg (by omega)]
    · rw [if_neg (by omega), if_neg (by omega), if_neg (by omega), if_neg (by omega), if_neg (by omega), if_neg (by omega)]) rfl
set_option maxRecDepth 20000 in
theorem xc_clear (X : sp_X) (g : sp_G) {s o : Nat} (hs : sp_sd s o) : sp_Ct X 1 31 [.ref s] g (sp_Fv (sp_sS g s o (fun _ => nI 0))) := by
  refine sp_walkN (n := 1) sq_p_31 sq_l_31 (Nat.le_of_ble_eq_true rfl) (fun a hA => ?_)
  show sp_Ev X a 31 0 [.ref s] [] g
  refine sr_aload_n hA si_31_0 rfl ?_
  refine sr_getR (r := o) hA si_31_1 sf_31_9 (by decide) hs.1 hs.2.1 rfl hs.2.2.1 ?_
  refine sr_iconst (v := nI 0) hA si_31_4 (by decide) ?_
  refine sr_SFv (as := [.ref o, .int (nI 0)]) (st := []) hA si_31_5 ss_3 sk_31_15 (xc_fill X g (nI 0) hs.2.2.2.1 hs.2.2.2.2.1 hs.2.2.2.2.2.1 (by decide)) (by omega) rfl rfl (Nat.le_of_ble_eq_true rfl) ?_
  refine sr_aload_n hA si_31_8 rfl ?_
  refine sr_iconst (v := nI 0) hA si_31_9 (by decide) ?_
  refine sr_putI hA si_31_10 sf_31_21 rfl rfl (by decide) hs.1 hs.2.1 rfl ?_
  refine sr_aload_n hA si_31_13 rfl ?_
  refine sr_iconst (v := nI 0) hA si_31_14 (by decide) ?_
  refine sr_putI hA si_31_15 sf_31_25 rfl rfl (by decide) hs.1 hs.2.1 rfl ?_
  refine sr_aload_n hA si_31_18 rfl ?_
  refine sr_iconst (v := nI 0) hA si_31_19 (by decide) ?_
  refine sr_putI hA si_31_20 sf_31_28 rfl rfl (by decide) hs.1 hs.2.1 rfl ?_
  exact sr_vretF hA si_31_23 sq_r_31 (sp_clearEq hs.2.2.2.2.2.2.1)
set_option maxRecDepth 20000 in
theorem xl_rksS {X : sp_X} {ac : sp_Ac} {g : sp_G} {t z p s : Nat} {f : Nat → Int32} {D : sp_D} (hT : sp_TX t z f g) (hp : p ≤ z) {i0 : Nat} (hg : sp_gks f z p i0 D) (hend : sp_ps f z p i0 = z) (hA : sp_Act X 34 3 (sp_Ri (fun x g' => x = (-9) ∧ sp_rx2 g g' i0 D s)) ac) : ∀ (m : Nat) (i : Nat) (gg : sp_G) (pl : Nat), i + m = i0 → sp_rx2 g gg i D s → pl = sp_ps f z p i → sp_Ev X ac 34 18 [.ref 56, .ref 10, .int (nI t), .null, .int (nI z), .int (nI pl), .int (nI i), .null] [] gg := by
  intro m
  induction m with
  | zero =>
    intro i gg pl h0_ h1_ h2_
    obtain ⟨ht, hz, -, -⟩ := id hT
    obtain ⟨hg6, hgs⟩ := id hg
    have hei : i = i0 := by omega
    rw [← hei] at hend
    rw [← h2_] at hend
    refine sr_iload hA si_34_18 rfl ?_
    refine sr_bipush (v := nI 6) hA si_34_20 (by decide) ?_
    refine sr_icmp_geN (tgt := 82) hA si_34_22 (by decide) (by omega) (by omega) (fun c1 => ?_) (fun c1 => ?_)
    · refine sr_iload hA si_34_82 rfl ?_
      refine sr_iload hA si_34_84 rfl ?_
      refine sr_icmp_geN (tgt := 94) hA si_34_86 (by decide) (by omega) (by omega) (fun c2 => ?_) (fun c2 => absurd c2 (by omega))
      refine sr_bipush (v := (-9)) hA si_34_94 (by decide) ?_
      exact sr_iretR hA si_34_96 sq_r_34 ⟨rfl, by rw [show i0 = i by omega]; exact h1_⟩
    · refine sr_iload hA si_34_25 rfl ?_
      refine sr_iload hA si_34_27 rfl ?_
      refine sr_icmp_geN (tgt := 82) hA si_34_29 (by decide) (by omega) (by omega) (fun c3 => ?_) (fun c3 => absurd c3 (by omega))
      refine sr_iload hA si_34_82 rfl ?_
      refine sr_iload hA si_34_84 rfl ?_
      refine sr_icmp_geN (tgt := 94) hA si_34_86 (by decide) (by omega) (by omega) (fun c4 => ?_) (fun c4 => absurd c4 (by omega))
      refine sr_bipush (v := (-9)) hA si_34_94 (by decide) ?_
      exact sr_iretR hA si_34_96 sq_r_34 ⟨rfl, by rw [show i0 = i by omega]; exact h1_⟩
  | succ m ih =>
    intro i gg pl h0_ h1_ h2_
    obtain ⟨ht, hz, -, -⟩ := id hT
    obtain ⟨hg6, hgs⟩ := id hg
    obtain ⟨hps, hgk⟩ := hgs i (by omega)
    rw [← h2_] at hps hgk
    have hnx : pl + 5 ≤ z := hgk.2.1
    refine sr_iload hA si_34_18 rfl ?_
    refine sr_bipush (v := nI 6) hA si_34_20 (by decide) ?_
    refine sr_icmp_geN (tgt := 82) hA si_34_22 (by decide) (by omega) (by omega) (fun c1 => absurd c1 (by omega)) (fun c1 => ?_)
    refine sr_iload hA si_34_25 rfl ?_
    refine sr_iload hA si_34_27 rfl ?_
    refine sr_icmp_geN (tgt := 82) hA si_34_29 (by decide) (by omega) (by omega) (fun c2 => absurd c2 (by omega)) (fun c2 => ?_)
    refine sr_aload_n hA si_34_32 rfl ?_
    refine sr_aload_n hA si_34_33 rfl ?_
    refine sr_iload_n hA si_34_34 rfl ?_
    refine sr_iload hA si_34_35 rfl ?_
    refine sr_iload hA si_34_37 rfl ?_
    refine sr_VFi (c := 56) (ci := 1) (as := [.ref 10, .int (nI t), .int (nI pl), .int (nI i)]) (st := []) hA si_34_39 sv_35 sk_34_55 (xc_rkD X gg (hT.ra h1_.1) (by omega) hgk) (by omega) rfl (by decide) (by decide) rfl sq_c_35 rfl (Nat.le_of_ble_eq_true rfl) ?_
    refine sr_istore (ls1 := [.ref 56, .ref 10, .int (nI t), .null, .int (nI z), .int (nI pl), .int (nI i), .int (-9)]) hA si_34_42 (by rw [sq_l_34]; decide) rfl ?_
    refine sr_iload hA si_34_44 rfl ?_
    refine sr_bipush (v := (-9)) hA si_34_46 (by decide) ?_
    refine sr_icmp_eq (tgt := 54) hA si_34_48 (by decide) (fun c3 => ?_) (fun c3 => absurd rfl c3)
    refine sr_aload_n hA si_34_54 rfl ?_
    refine sr_getR (r := 57) hA si_34_55 sf_34_12 (by decide) (by decide) rfl rfl rfl ?_
    refine sr_iload hA si_34_58 rfl ?_
    refine sr_iconst (v := nI 1) hA si_34_60 (by decide) ?_
    refine sr_iaddN hA si_34_61 ?_
    refine sr_putI hA si_34_62 sf_34_35 rfl rfl (by decide) (by decide) rfl rfl ?_
    refine sr_aload_n hA si_34_65 rfl ?_
    refine sr_iload_n hA si_34_66 rfl ?_
    refine sr_iload hA si_34_67 rfl ?_
    refine sr_iconst (v := nI 5) hA si_34_69 (by decide) ?_
    refine sr_iaddN hA si_34_70 ?_
    refine sr_SFi (as := [.ref 10, .int (nI t), .int (nI (pl + 5))]) (st := []) hA si_34_71 ss_32 sk_34_41 (xc_skip X (sp_wI (sp_wI (sp_wI (sp_wI (sp_wI gg 58 i (nI (D i).1)) 59 i (nI (D i).2.1)) 62 i (nI (10 * (D i).2.2.1 + (D i).2.2.2.1))) 60 i (nI (D i).2.2.2.2)) 57 3 (nI (i + 1))) (hT.ra (h1_.step (by omega)).1) (p := (pl + 5)) hnx) (by omega) rfl rfl (Nat.le_of_ble_eq_true rfl) ?_
    refine sr_istore (ls1 := [.ref 56, .ref 10, .int (nI t), .null, .int (nI z), .int (nI (sp_bl0 f z (pl + 5))), .int (nI i), .int (-9)]) hA si_34_74 (by rw [sq_l_34]; decide) rfl ?_
    refine sr_iincN (x := i) (y := 1) (ls1 := [.ref 56, .ref 10, .int (nI t), .null, .int (nI z), .int (nI (sp_bl0 f z (pl + 5))), .int (nI (i + 1)), .int (-9)]) hA si_34_76 rfl rfl (by rw [sq_l_34]; decide) rfl ?_
    refine sr_goto (tgt := 18) hA si_34_79 (by decide) ?_
    refine sr_fg (ls1 := [.ref 56, .ref 10, .int (nI t), .null, .int (nI z), .int (nI (sp_bl0 f z (pl + 5))), .int (nI (i + 1)), .null]) ⟨Or.inr rfl, Or.inr rfl, Or.inr rfl, Or.inl rfl, Or.inr rfl, Or.inr rfl, Or.inr rfl, Or.inl rfl, trivial⟩ ?_
    exact ih (i + 1) (sp_rw2 gg i (D i)) _ (by omega) (h1_.step (by omega)) (by rw [h2_]; rfl)
set_option maxRecDepth 20000 in
theorem xc_rksS (X : sp_X) (g : sp_G) {g0 : sp_G} {t z p s : Nat} {f : Nat → Int32} {D : sp_D} (hT : sp_TX t z f g0) (hp : p ≤ z) {i0 : Nat} (hg : sp_gks f z p i0 D) (hend : sp_ps f z p i0 = z) (h1 : sp_rx2 g0 g 0 D s) : sp_Ct X 3 34 [.ref 56, .ref 10, .int (nI t), .int (nI p)] g (sp_Ri (fun x g' => x = (-9) ∧ sp_rx2 g0 g' i0 D s)) := by
  obtain ⟨ht, hz, -, -⟩ := id hT
  refine sp_walkN (n := 8) sq_p_34 sq_l_34 (Nat.le_of_ble_eq_true rfl) (fun ac hA => ?_)
  show sp_Ev X ac 34 0 [.ref 56, .ref 10, .int (nI t), .int (nI p), .null, .null, .null, .null] [] g
  refine sr_aload_n hA si_34_0 rfl ?_
  refine sr_iload_n hA si_34_1 rfl ?_
  refine sr_VFi (c := 10) (ci := 5) (as := [.int (nI t)]) (st := []) hA si_34_2 sv_26 sk_34_29 (xc_sizeT X g (z := nI z) (by omega) ((hT.ra h1.1).2.2.1)) (by omega) rfl (by decide) (by decide) rfl sq_c_26 rfl (Nat.le_of_ble_eq_true rfl) ?_
  refine sr_istore (ls1 := [.ref 56, .ref 10, .int (nI t), .int (nI p), .int (nI z), .null, .null, .null]) hA si_34_5 (by rw [sq_l_34]; decide) rfl ?_
  refine sr_aload_n hA si_34_7 rfl ?_
  refine sr_iload_n hA si_34_8 rfl ?_
  refine sr_iload_n hA si_34_9 rfl ?_
  refine sr_SFi (as := [.ref 10, .int (nI t), .int (nI p)]) (st := []) hA si_34_10 ss_32 sk_34_41 (xc_skip X g (hT.ra h1.1) (p := p) hp) (by omega) rfl rfl (Nat.le_of_ble_eq_true rfl) ?_
  refine sr_istore (ls1 := [.ref 56, .ref 10, .int (nI t), .int (nI p), .int (nI z), .int (nI (sp_bl0 f z p)), .null, .null]) hA si_34_13 (by rw [sq_l_34]; decide) rfl ?_
  refine sr_iconst (v := nI 0) hA si_34_15 (by decide) ?_
  refine sr_istore (ls1 := [.ref 56, .ref 10, .int (nI t), .int (nI p), .int (nI z), .int (nI (sp_bl0 f z p)), .int (nI 0), .null]) hA si_34_16 (by rw [sq_l_34]; decide) rfl ?_
  refine sr_fg (ls1 := [.ref 56, .ref 10, .int (nI t), .null, .int (nI z), .int (nI (sp_bl0 f z p)), .int (nI 0), .null]) ⟨Or.inr rfl, Or.inr rfl, Or.inr rfl, Or.inl rfl, Or.inr rfl, Or.inr rfl, Or.inr rfl, Or.inl rfl, trivial⟩ ?_
  exact xl_rksS hT hp hg hend hA i0 0 g _ (by omega) h1 rfl
set_option maxRecDepth 20000 in
theorem xl_rks6 {X : sp_X} {ac : sp_Ac} {g : sp_G} {t z p s : Nat} {f : Nat → Int32} {D : sp_D} (hT : sp_TX t z f g) (hp : p ≤ z) {i0 : Nat} (hg : sp_gks f z p i0 D) (hi6 : i0 = 6) (hend : sp_ps f z p i0 < z) (hA : sp_Act X 34 3 (sp_Ri (fun x g' => x = nI (sp_ps f z p i0) ∧ sp_rx2 g g' i0 D s)) ac) : ∀ (m : Nat) (i : Nat) (gg : sp_G) (pl : Nat), i + m = i0 → sp_rx2 g gg i D s → pl = sp_ps f z p i → sp_Ev X ac 34 18 [.ref 56, .ref 10, .int (nI t), .null, .int (nI z), .int (nI pl), .int (nI i), .null] [] gg := by
  intro m
  induction m with
  | zero =>
    intro i gg pl h0_ h1_ h2_
    obtain ⟨ht, hz, -, -⟩ := id hT
    obtain ⟨hg6, hgs⟩ := id hg
    have hei : i = i0 := by omega
    rw [← hei] at hend
    rw [← h2_] at hend
    refine sr_iload hA si_34_18 rfl ?_
    refine sr_bipush (v := nI 6) hA si_34_20 (by decide) ?_
    refine sr_icmp_geN (tgt := 82) hA si_34_22 (by decide) (by omega) (by omega) (fun c1 => ?_) (fun c1 => absurd c1 (by omega))
    refine sr_iload hA si_34_82 rfl ?_
    refine sr_iload hA si_34_84 rfl ?_
    refine sr_icmp_geN (tgt := 94) hA si_34_86 (by decide) (by omega) (by omega) (fun c2 => absurd c2 (by omega)) (fun c2 => ?_)
    refine sr_iload hA si_34_89 rfl ?_
    refine sr_goto (tgt := 96) hA si_34_91 (by decide) ?_
    exact sr_iretR hA si_34_96 sq_r_34 ⟨by rw [h2_, show i0 = i by omega], by rw [show i0 = i by omega]; exact h1_⟩
  | succ m ih =>
    intro i gg pl h0_ h1_ h2_
    obtain ⟨ht, hz, -, -⟩ := id hT
    obtain ⟨hg6, hgs⟩ := id hg
    obtain ⟨hps, hgk⟩ := hgs i (by omega)
    rw [← h2_] at hps hgk
    have hnx : pl + 5 ≤ z := hgk.2.1
    refine sr_iload hA si_34_18 rfl ?_
    refine sr_bipush (v := nI 6) hA si_34_20 (by decide) ?_
    refine sr_icmp_geN (tgt := 82) hA si_34_22 (by decide) (by omega) (by omega) (fun c1 => absurd c1 (by omega)) (fun c1 => ?_)
    refine sr_iload hA si_34_25 rfl ?_
    refine sr_iload hA si_34_27 rfl ?_
    refine sr_icmp_geN (tgt := 82) hA si_34_29 (by decide) (by omega) (by omega) (fun c2 => absurd c2 (by omega)) (fun c2 => ?_)
    refine sr_aload_n hA si_34_32 rfl ?_
    refine sr_aload_n hA si_34_33 rfl ?_
    refine sr_iload_n hA si_34_34 rfl ?_
    refine sr_iload hA si_34_35 rfl ?_
    refine sr_iload hA si_34_37 rfl ?_
    refine sr_VFi (c := 56) (ci := 1) (as := [.ref 10, .int (nI t), .int (nI pl), .int (nI i)]) (st := []) hA si_34_39 sv_35 sk_34_55 (xc_rkD X gg (hT.ra h1_.1) (by omega) hgk) (by omega) rfl (by decide) (by decide) rfl sq_c_35 rfl (Nat.le_of_ble_eq_true rfl) ?_
    refine sr_istore (ls1 := [.ref 56, .ref 10, .int (nI t), .null, .int (nI z), .int (nI pl), .int (nI i), .int (-9)]) hA si_34_42 (by rw [sq_l_34]; decide) rfl ?_
    refine sr_iload hA si_34_44 rfl ?_
    refine sr_bipush (v := (-9)) hA si_34_46 (by decide) ?_
    refine sr_icmp_eq (tgt := 54) hA si_34_48 (by decide) (fun c3 => ?_) (fun c3 => absurd rfl c3)
    refine sr_aload_n hA si_34_54 rfl ?_
    refine sr_getR (r := 57) hA si_34_55 sf_34_12 (by decide) (by decide) rfl rfl rfl ?_
    refine sr_iload hA si_34_58 rfl ?_
    refine sr_iconst (v := nI 1) hA si_34_60 (by decide) ?_
    refine sr_iaddN hA si_34_61 ?_
    refine sr_putI hA si_34_62 sf_34_35 rfl rfl (by decide) (by decide) rfl rfl ?_
    refine sr_aload_n hA si_34_65 rfl ?_
    refine sr_iload_n hA si_34_66 rfl ?_
    refine sr_iload hA si_34_67 rfl ?_
    refine sr_iconst (v := nI 5) hA si_34_69 (by decide) ?_
    refine sr_iaddN hA si_34_70 ?_
    refine sr_SFi (as := [.ref 10, .int (nI t), .int (nI (pl + 5))]) (st := []) hA si_34_71 ss_32 sk_34_41 (xc_skip X (sp_wI (sp_wI (sp_wI (sp_wI (sp_wI gg 58 i (nI (D i).1)) 59 i (nI (D i).2.1)) 62 i (nI (10 * (D i).2.2.1 + (D i).2.2.2.1))) 60 i (nI (D i).2.2.2.2)) 57 3 (nI (i + 1))) (hT.ra (h1_.step (by omega)).1) (p := (pl + 5)) hnx) (by omega) rfl rfl (Nat.le_of_ble_eq_true rfl) ?_
    refine sr_istore (ls1 := [.ref 56, .ref 10, .int (nI t), .null, .int (nI z), .int (nI (sp_bl0 f z (pl + 5))), .int (nI i), .int (-9)]) hA si_34_74 (by rw [sq_l_34]; decide) rfl ?_
    refine sr_iincN (x := i) (y := 1) (ls1 := [.ref 56, .ref 10, .int (nI t), .null, .int (nI z), .int (nI (sp_bl0 f z (pl + 5))), .int (nI (i + 1)), .int (-9)]) hA si_34_76 rfl rfl (by rw [sq_l_34]; decide) rfl ?_
    refine sr_goto (tgt := 18) hA si_34_79 (by decide) ?_
    refine sr_fg (ls1 := [.ref 56, .ref 10, .int (nI t), .null, .int (nI z), .int (nI (sp_bl0 f z (pl + 5))), .int (nI (i + 1)), .null]) ⟨Or.inr rfl, Or.inr rfl, Or.inr rfl, Or.inl rfl, Or.inr rfl, Or.inr rfl, Or.inr rfl, Or.inl rfl, trivial⟩ ?_
    exact ih (i + 1) (sp_rw2 gg i (D i)) _ (by omega) (h1_.step (by omega)) (by rw [h2_]; rfl)
set_option maxRecDepth 20000 in
theorem xc_rks6 (X : sp_X) (g : sp_G) {g0 : sp_G} {t z p s : Nat} {f : Nat → Int32} {D : sp_D} (hT : sp_TX t z f g0) (hp : p ≤ z) {i0 : Nat} (hg : sp_gks f z p i0 D) (hi6 : i0 = 6) (hend : sp_ps f z p i0 < z) (h1 : sp_rx2 g0 g 0 D s) : sp_Ct X 3 34 [.ref 56, .ref 10, .int (nI t), .int (nI p)] g (sp_Ri (fun x g' => x = nI (sp_ps f z p i0) ∧ sp_rx2 g0 g' i0 D s)) := by
  obtain ⟨ht, hz, -, -⟩ := id hT
  refine sp_walkN (n := 8) sq_p_34 sq_l_34 (Nat.le_of_ble_eq_true rfl) (fun ac hA => ?_)
  show sp_Ev X ac 34 0 [.ref 56, .ref 10, .int (nI t), .int (nI p), .null, .null, .null, .null] [] g
  refine sr_aload_n hA si_34_0 rfl ?_
  refine sr_iload_n hA si_34_1 rfl ?_
  refine sr_VFi (c := 10) (ci := 5) (as := [.int (nI t)]) (st := []) hA si_34_2 sv_26 sk_34_29 (xc_sizeT X g (z := nI z) (by omega) ((hT.ra h1.1).2.2.1)) (by omega) rfl (by decide) (by decide) rfl sq_c_26 rfl (Nat.le_of_ble_eq_true rfl) ?_
  refine sr_istore (ls1 := [.ref 56, .ref 10, .int (nI t), .int (nI p), .int (nI z), .null, .null, .null]) hA si_34_5 (by rw [sq_l_34]; decide) rfl ?_
  refine sr_aload_n hA si_34_7 rfl ?_
  refine sr_iload_n hA si_34_8 rfl ?_
  refine sr_iload_n hA si_34_9 rfl ?_
  refine sr_SFi (as := [.ref 10, .int (nI t), .int (nI p)]) (st := []) hA si_34_10 ss_32 sk_34_41 (xc_skip X g (hT.ra h1.1) (p := p) hp) (by omega) rfl rfl (Nat.le_of_ble_eq_true rfl) ?_
  refine sr_istore (ls1 := [.ref 56, .ref 10, .int (nI t), .int (nI p), .int (nI z), .int (nI (sp_bl0 f z p)), .null, .null]) hA si_34_13 (by rw [sq_l_34]; decide) rfl ?_
  refine sr_iconst (v := nI 0) hA si_34_15 (by decide) ?_
  refine sr_istore (ls1 := [.ref 56, .ref 10, .int (nI t), .int (nI p), .int (nI z), .int (nI (sp_bl0 f z p)), .int (nI 0), .null]) hA si_34_16 (by rw [sq_l_34]; decide) rfl ?_
  refine sr_fg (ls1 := [.ref 56, .ref 10, .int (nI t), .null, .int (nI z), .int (nI (sp_bl0 f z p)), .int (nI 0), .null]) ⟨Or.inr rfl, Or.inr rfl, Or.inr rfl, Or.inl rfl, Or.inr rfl, Or.inr rfl, Or.inr rfl, Or.inl rfl, trivial⟩ ?_
  exact xl_rks6 hT hp hg hi6 hend hA i0 0 g _ (by omega) h1 rfl
set_option maxRecDepth 20000 in
theorem xl_rksB {X : sp_X} {ac : sp_Ac} {g : sp_G} {t z p s : Nat} {f : Nat → Int32} {D : sp_D} (hT : sp_TX t z f g) (hp : p ≤ z) {i0 : Nat} (hg : sp_gks f z p i0 D) (hi6 : i0 < 6) (hend : sp_ps f z p i0 < z) {e : Nat} (heb : e < 2 ^ 31) (hbad0 : sp_nk2 f z (sp_ps f z p i0) e) (hA : sp_Act X 34 3 (sp_Ri (fun x g' => x = nI e ∧ sp_rx2 g g' i0 D s)) ac) : ∀ (m : Nat) (i : Nat) (gg : sp_G) (pl : Nat), i + m = i0 → sp_rx2 g gg i D s → pl = sp_ps f z p i → sp_Ev X ac 34 18 [.ref 56, .ref 10, .int (nI t), .null, .int (nI z), .int (nI pl), .int (nI i), .null] [] gg := by
  intro m
  induction m with
  | zero =>
    intro i gg pl h0_ h1_ h2_
    obtain ⟨ht, hz, -, -⟩ := id hT
    obtain ⟨hg6, hgs⟩ := id hg
    have hei : i = i0 := by omega
    rw [← hei] at hend
    rw [← h2_] at hend
    have hbad : sp_nk2 f z pl e := by rw [h2_, hei]; exact hbad0
    refine sr_iload hA si_34_18 rfl ?_
    refine sr_bipush (v := nI 6) hA si_34_20 (by decide) ?_
    refine sr_icmp_geN (tgt := 82) hA si_34_22 (by decide) (by omega) (by omega) (fun c1 => absurd c1 (by omega)) (fun c1 => ?_)
    refine sr_iload hA si_34_25 rfl ?_
    refine sr_iload hA si_34_27 rfl ?_
    refine sr_icmp_geN (tgt := 82) hA si_34_29 (by decide) (by omega) (by omega) (fun c2 => absurd c2 (by omega)) (fun c2 => ?_)
    refine sr_aload_n hA si_34_32 rfl ?_
    refine sr_aload_n hA si_34_33 rfl ?_
    refine sr_iload_n hA si_34_34 rfl ?_
    refine sr_iload hA si_34_35 rfl ?_
    refine sr_iload hA si_34_37 rfl ?_
    refine sr_VFi (c := 56) (ci := 1) (as := [.ref 10, .int (nI t), .int (nI pl), .int (nI i)]) (st := []) hA si_34_39 sv_35 sk_34_55 (xc_rkB X gg (hT.ra h1_.1) (by omega) (by omega) hbad) (by omega) rfl (by decide) (by decide) rfl sq_c_35 rfl (Nat.le_of_ble_eq_true rfl) ?_
    refine sr_istore (ls1 := [.ref 56, .ref 10, .int (nI t), .null, .int (nI z), .int (nI pl), .int (nI i), .int (nI e)]) hA si_34_42 (by rw [sq_l_34]; decide) rfl ?_
    refine sr_iload hA si_34_44 rfl ?_
    refine sr_bipush (v := (-9)) hA si_34_46 (by decide) ?_
    refine sr_icmp_eq (tgt := 54) hA si_34_48 (by decide) (fun c3 => absurd c3 (sp_nm9 (by omega))) (fun c3 => ?_)
    refine sr_iload hA si_34_51 rfl ?_
    exact sr_iretR hA si_34_53 sq_r_34 ⟨rfl, by rw [show i0 = i by omega]; exact h1_⟩
  | succ m ih =>
    intro i gg pl h0_ h1_ h2_
    obtain ⟨ht, hz, -, -⟩ := id hT
    obtain ⟨hg6, hgs⟩ := id hg
    obtain ⟨hps, hgk⟩ := hgs i (by omega)
    rw [← h2_] at hps hgk
    have hnx : pl + 5 ≤ z := hgk.2.1
    refine sr_iload hA si_34_18 rfl ?_
    refine sr_bipush (v := nI 6) hA si_34_20 (by decide) ?_
    refine sr_icmp_geN (tgt := 82) hA si_34_22 (by decide) (by omega) (by omega) (fun c1 => absurd c1 (by omega)) (fun c1 => ?_)
    refine sr_iload hA si_34_25 rfl ?_
    refine sr_iload hA si_34_27 rfl ?_
    refine sr_icmp_geN (tgt := 82) hA si_34_29 (by decide) (by omega) (by omega) (fun c2 => absurd c2 (by omega)) (fun c2 => ?_)
    refine sr_aload_n hA si_34_32 rfl ?_
    refine sr_aload_n hA si_34_33 rfl ?_
    refine sr_iload_n hA si_34_34 rfl ?_
    refine sr_iload hA si_34_35 rfl ?_
    refine sr_iload hA si_34_37 rfl ?_
    refine sr_VFi (c := 56) (ci := 1) (as := [.ref 10, .int (nI t), .int (nI pl), .int (nI i)]) (st := []) hA si_34_39 sv_35 sk_34_55 (xc_rkD X gg (hT.ra h1_.1) (by omega) hgk) (by omega) rfl (by decide) (by decide) rfl sq_c_35 rfl (Nat.le_of_ble_eq_true rfl) ?_
    refine sr_istore (ls1 := [.ref 56, .ref 10, .int (nI t), .null, .int (nI z), .int (nI pl), .int (nI i), .int (-9)]) hA si_34_42 (by rw [sq_l_34]; decide) rfl ?_
    refine sr_iload hA si_34_44 rfl ?_
    refine sr_bipush (v := (-9)) hA si_34_46 (by decide) ?_
    refine sr_icmp_eq (tgt := 54) hA si_34_48 (by decide) (fun c3 => ?_) (fun c3 => absurd rfl c3)
    refine sr_aload_n hA si_34_54 rfl ?_
    refine sr_getR (r := 57) hA si_34_55 sf_34_12 (by decide) (by decide) rfl rfl rfl ?_
    refine sr_iload hA si_34_58 rfl ?_
    refine sr_iconst (v := nI 1) hA si_34_60 (by decide) ?_
    refine sr_iaddN hA si_34_61 ?_
    refine sr_putI hA si_34_62 sf_34_35 rfl rfl (by decide) (by decide) rfl rfl ?_
    refine sr_aload_n hA si_34_65 rfl ?_
    refine sr_iload_n hA si_34_66 rfl ?_
    refine sr_iload hA si_34_67 rfl ?_
    refine sr_iconst (v := nI 5) hA si_34_69 (by decide) ?_
    refine sr_iaddN hA si_34_70 ?_
    refine sr_SFi (as := [.ref 10, .int (nI t), .int (nI (pl + 5))]) (st := []) hA si_34_71 ss_32 sk_34_41 (xc_skip X (sp_wI (sp_wI (sp_wI (sp_wI (sp_wI gg 58 i (nI (D i).1)) 59 i (nI (D i).2.1)) 62 i (nI (10 * (D i).2.2.1 + (D i).2.2.2.1))) 60 i (nI (D i).2.2.2.2)) 57 3 (nI (i + 1))) (hT.ra (h1_.step (by omega)).1) (p := (pl + 5)) hnx) (by omega) rfl rfl (Nat.le_of_ble_eq_true rfl) ?_
    refine sr_istore (ls1 := [.ref 56, .ref 10, .int (nI t), .null, .int (nI z), .int (nI (sp_bl0 f z (pl + 5))), .int (nI i), .int (-9)]) hA si_34_74 (by rw [sq_l_34]; decide) rfl ?_
    refine sr_iincN (x := i) (y := 1) (ls1 := [.ref 56, .ref 10, .int (nI t), .null, .int (nI z), .int (nI (sp_bl0 f z (pl + 5))), .int (nI (i + 1)), .int (-9)]) hA si_34_76 rfl rfl (by rw [sq_l_34]; decide) rfl ?_
    refine sr_goto (tgt := 18) hA si_34_79 (by decide) ?_
    refine sr_fg (ls1 := [.ref 56, .ref 10, .int (nI t), .null, .int (nI z), .int (nI (sp_bl0 f z (pl + 5))), .int (nI (i + 1)), .null]) ⟨Or.inr rfl, Or.inr rfl, Or.inr rfl, Or.inl rfl, Or.inr rfl, Or.inr rfl, Or.inr rfl, Or.inl rfl, trivial⟩ ?_
    exact ih (i + 1) (sp_rw2 gg i (D i)) _ (by omega) (h1_.step (by omega)) (by rw [h2_]; rfl)
set_option maxRecDepth 20000 in
theorem xc_rksB (X : sp_X) (g : sp_G) {g0 : sp_G} {t z p s : Nat} {f : Nat → Int32} {D : sp_D} (hT : sp_TX t z f g0) (hp : p ≤ z) {i0 : Nat} (hg : sp_gks f z p i0 D) (hi6 : i0 < 6) (hend : sp_ps f z p i0 < z) {e : Nat} (heb : e < 2 ^ 31) (hbad0 : sp_nk2 f z (sp_ps f z p i0) e) (h1 : sp_rx2 g0 g 0 D s) : sp_Ct X 3 34 [.ref 56, .ref 10, .int (nI t), .int (nI p)] g (sp_Ri (fun x g' => x = nI e ∧ sp_rx2 g0 g' i0 D s)) := by
  obtain ⟨ht, hz, -, -⟩ := id hT
  refine sp_walkN (n := 8) sq_p_34 sq_l_34 (Nat.le_of_ble_eq_true rfl) (fun ac hA => ?_)
  show sp_Ev X ac 34 0 [.ref 56, .ref 10, .int (nI t), .int (nI p), .null, .null, .null, .null] [] g
  refine sr_aload_n hA si_34_0 rfl ?_
  refine sr_iload_n hA si_34_1 rfl ?_
  refine sr_VFi (c := 10) (ci := 5) (as := [.int (nI t)]) (st := []) hA si_34_2 sv_26 sk_34_29 (xc_sizeT X g (z := nI z) (by omega) ((hT.ra h1.1).2.2.1)) (by omega) rfl (by decide) (by decide) rfl sq_c_26 rfl (Nat.le_of_ble_eq_true rfl) ?_
  refine sr_istore (ls1 := [.ref 56, .ref 10, .int (nI t), .int (nI p), .int (nI z), .null, .null, .null]) hA si_34_5 (by rw [sq_l_34]; decide) rfl ?_
  refine sr_aload_n hA si_34_7 rfl ?_
  refine sr_iload_n hA si_34_8 rfl ?_
  refine sr_iload_n hA si_34_9 rfl ?_
  refine sr_SFi (as := [.ref 10, .int (nI t), .int (nI p)]) (st := []) hA si_34_10 ss_32 sk_34_41 (xc_skip X g (hT.ra h1.1) (p := p) hp) (by omega) rfl rfl (Nat.le_of_ble_eq_true rfl) ?_
  refine sr_istore (ls1 := [.ref 56, .ref 10, .int (nI t), .int (nI p), .int (nI z), .int (nI (sp_bl0 f z p)), .null, .null]) hA si_34_13 (by rw [sq_l_34]; decide) rfl ?_
  refine sr_iconst (v := nI 0) hA si_34_15 (by decide) ?_
  refine sr_istore (ls1 := [.ref 56, .ref 10, .int (nI t), .int (nI p), .int (nI z), .int (nI (sp_bl0 f z p)), .int (nI 0), .null]) hA si_34_16 (by rw [sq_l_34]; decide) rfl ?_
  refine sr_fg (ls1 := [.ref 56, .ref 10, .int (nI t), .null, .int (nI z), .int (nI (sp_bl0 f z p)), .int (nI 0), .null]) ⟨Or.inr rfl, Or.inr rfl, Or.inr rfl, Or.inl rfl, Or.inr rfl, Or.inr rfl, Or.inr rfl, Or.inl rfl, trivial⟩ ?_
  exact xl_rksB hT hp hg hi6 hend heb hbad0 hA i0 0 g _ (by omega) h1 rfl
/-- what the reader finds at the head of a text: a spade s at the place p, or a fault at e -/
def sp_hd (f : Nat → Int32) (z p s : Nat) : Prop := p = sp_bl0 f z 0 ∧ p + 1 < z ∧ f p = nI 112 ∧ 1 ≤ s ∧ sp_dg1 (f (p + 1)) s
def sp_hb (f : Nat → Int32) (z e : Nat) : Prop := (sp_bl0 f z 0 = z ∧ e = z) ∨ (sp_bl0 f z 0 < z ∧ f (sp_bl0 f z 0) ≠ nI 112 ∧ e = sp_bl0 f z 0) ∨ (sp_bl0 f z 0 < z ∧ f (sp_bl0 f z 0) = nI 112 ∧ e = sp_bl0 f z 0 + 1 ∧ (e = z ∨ (e < z ∧ (sp_dg0 (f e) ∨ sp_dg1 (f e) 0))))
theorem sp_hd_or (f : Nat → Int32) (z : Nat) : (∃ p s, sp_hd f z p s) ∨ ∃ e, sp_hb f z e := by
  have h := sp_bl0_in (f := f) (z := z) (p := 0) (by omega)
  by_cases h1 : sp_bl0 f z 0 = z
  · exact Or.inr ⟨z, Or.inl ⟨h1, rfl⟩⟩
  by_cases h2 : f (sp_bl0 f z 0) = nI 112
  rotate_left
  · exact Or.inr ⟨_, Or.inr (Or.inl ⟨by omega, h2, rfl⟩)⟩
  by_cases h3 : sp_bl0 f z 0 + 1 = z
  · exact Or.inr ⟨_, Or.inr (Or.inr ⟨by omega, h2, rfl, Or.inl h3⟩)⟩
  rcases sp_dg_or (f (sp_bl0 f z 0 + 1)) with ⟨d, hd⟩ | hd
  · by_cases hd0 : d = 0
    · subst hd0; exact Or.inr ⟨_, Or.inr (Or.inr ⟨by omega, h2, rfl, Or.inr ⟨by omega, Or.inr hd⟩⟩)⟩
    · exact Or.inl ⟨_, d, rfl, by omega, h2, by omega, hd⟩
  · exact Or.inr ⟨_, Or.inr (Or.inr ⟨by omega, h2, rfl, Or.inr ⟨by omega, Or.inl hd⟩⟩)⟩
/-- all that a text can be -/
theorem sp_txt_or (f : Nat → Int32) (z p : Nat) (hp : p ≤ z) : ∃ i D, sp_gks f z p i D ∧ (sp_ps f z p i = z ∨ (i = 6 ∧ sp_ps f z p i < z) ∨ (i < 6 ∧ sp_ps f z p i < z ∧ ∃ e, sp_nk2 f z (sp_ps f z p i) e)) := by
  have key : ∀ m i D, i + m = 6 → sp_gks f z p i D → ∃ i D, sp_gks f z p i D ∧ (sp_ps f z p i = z ∨ (i = 6 ∧ sp_ps f z p i < z) ∨ (i < 6 ∧ sp_ps f z p i < z ∧ ∃ e, sp_nk2 f z (sp_ps f z p i) e)) := fun m => by
    induction m with
    | zero =>
      intro i D hi h
      have := sp_ps_le hp h i (Nat.le_refl _)
      refine ⟨i, D, h, ?_⟩
      by_cases e : sp_ps f z p i = z
      · exact Or.inl e
      · exact Or.inr (Or.inl ⟨by omega, by omega⟩)
    | succ m ih =>
      intro i D hi h
      have := sp_ps_le hp h i (Nat.le_refl _)
      by_cases e : sp_ps f z p i = z
      · exact ⟨i, D, h, Or.inl e⟩
      rcases sp_key_or f z (sp_ps f z p i) with ⟨d, hd⟩ | ⟨e, he⟩
      · refine ih (i + 1) (fun j => if j = i then d else D j) (by omega) ⟨by omega, fun j hj => ?_⟩
        by_cases ej : j = i
        · subst ej; exact ⟨by omega, by show sp_gk f z _ (if j = j then d else D j); rw [if_pos rfl]; exact hd⟩
        · show _ ∧ sp_gk f z _ (if j = i then d else D j)
          rw [if_neg ej]; exact h.2 j (by omega)
      · exact ⟨i, D, h, Or.inr (Or.inr ⟨by omega, by omega, e, he⟩)⟩
  exact key 6 0 (fun _ => (0, 0, 0, 0, 0)) rfl ⟨by omega, fun j hj => absurd hj (by omega)⟩
set_option maxRecDepth 20000 in
theorem xc_readA (X : sp_X) (g : sp_G) {t z b : Nat} {f : Nat → Int32} (hT : sp_TX t z f g) (hb0 : sp_bl0 f z 0 = b) (hbz : b = z) : sp_Ct X 4 30 [.ref 56, .ref 10, .int (nI t)] g (sp_Ri (fun x g' => x = nI z ∧ sp_ra g g')) := by
  obtain ⟨ht, hz, -, -⟩ := id hT
  refine sp_walkN (n := 5) sq_p_30 sq_l_30 (Nat.le_of_ble_eq_true rfl) (fun a hA => ?_)
  show sp_Ev X a 30 0 [.ref 56, .ref 10, .int (nI t), .null, .null] [] g
  refine sr_aload_n hA si_30_0 rfl ?_
  refine sr_iload_n hA si_30_1 rfl ?_
  refine sr_VFi (c := 10) (ci := 5) (as := [.int (nI t)]) (st := []) hA si_30_2 sv_26 sk_30_29 (xc_sizeT X g (z := nI z) (by omega) (hT.2.2.1)) (by omega) rfl (by decide) (by decide) rfl sq_c_26 rfl (Nat.le_of_ble_eq_true rfl) ?_
  refine sr_istore_n (ls1 := [.ref 56, .ref 10, .int (nI t), .int (nI z), .null]) hA si_30_5 rfl (by rw [sq_l_30]; decide) rfl ?_
  refine sr_aload_n hA si_30_6 rfl ?_
  refine sr_getR (r := 57) hA si_30_7 sf_30_12 (by decide) (by decide) rfl rfl rfl ?_
  refine sr_iconst (v := nI 0) hA si_30_10 (by decide) ?_
  refine sr_putI hA si_30_11 sf_30_35 rfl rfl (by decide) (by decide) rfl rfl ?_
  refine sr_aload_n hA si_30_14 rfl ?_
  refine sr_getR (r := 61) hA si_30_15 sf_30_21 (by decide) (by decide) rfl rfl rfl ?_
  refine sr_VFv (c := 61) (ci := 2) (as := []) (st := []) hA si_30_18 sv_31 sk_30_38 (xc_clear X (sp_wI g 57 3 (nI 0)) sp_sd61) (by omega) rfl (by decide) (by decide) rfl sq_c_31 rfl (Nat.le_of_ble_eq_true rfl) ?_
  refine sr_aload_n hA si_30_21 rfl ?_
  refine sr_iload_n hA si_30_22 rfl ?_
  refine sr_iconst (v := nI 0) hA si_30_23 (by decide) ?_
  refine sr_SFi (as := [.ref 10, .int (nI t), .int (nI 0)]) (st := []) hA si_30_24 ss_32 sk_30_41 (xc_skip X (sp_sS (sp_wI g 57 3 (nI 0)) 61 62 (fun _ => nI 0)) (hT.ra (sp_ra.rf.wI (by omega)).sS) (p := 0) (by omega)) (by omega) rfl rfl (Nat.le_of_ble_eq_true rfl) ?_
  rw [hb0]
  refine sr_istore (ls1 := [.ref 56, .ref 10, .int (nI t), .int (nI z), .int (nI b)]) hA si_30_27 (by rw [sq_l_30]; decide) rfl ?_
  refine sr_iload hA si_30_29 rfl ?_
  refine sr_iload_n hA si_30_31 rfl ?_
  refine sr_icmp_geN (tgt := 50) hA si_30_32 (by decide) (by omega) (by omega) (fun c1 => ?_) (fun c1 => absurd c1 (by omega))
  refine sr_iload hA si_30_50 rfl ?_
  refine sr_iconst (v := nI 1) hA si_30_52 (by decide) ?_
  refine sr_iaddN hA si_30_53 ?_
  refine sr_iload_n hA si_30_54 rfl ?_
  refine sr_icmp_ltN (tgt := 60) hA si_30_55 (by decide) (by omega) (by omega) (fun c2 => absurd c2 (by omega)) (fun c2 => ?_)
  refine sr_iload_n hA si_30_58 rfl ?_
  exact sr_iretR hA si_30_59 sq_r_30 ⟨rfl, (sp_ra.rf.wI (by omega)).sS⟩
set_option maxRecDepth 20000 in
theorem xc_readB (X : sp_X) (g : sp_G) {t z b : Nat} {f : Nat → Int32} (hT : sp_TX t z f g) (hb0 : sp_bl0 f z 0 = b) (hbz : b < z) (hne : f b ≠ nI 112) : sp_Ct X 4 30 [.ref 56, .ref 10, .int (nI t)] g (sp_Ri (fun x g' => x = nI b ∧ sp_ra g g')) := by
  obtain ⟨ht, hz, -, -⟩ := id hT
  refine sp_walkN (n := 5) sq_p_30 sq_l_30 (Nat.le_of_ble_eq_true rfl) (fun a hA => ?_)
  show sp_Ev X a 30 0 [.ref 56, .ref 10, .int (nI t), .null, .null] [] g
  refine sr_aload_n hA si_30_0 rfl ?_
  refine sr_iload_n hA si_30_1 rfl ?_
  refine sr_VFi (c := 10) (ci := 5) (as := [.int (nI t)]) (st := []) hA si_30_2 sv_26 sk_30_29 (xc_sizeT X g (z := nI z) (by omega) (hT.2.2.1)) (by omega) rfl (by decide) (by decide) rfl sq_c_26 rfl (Nat.le_of_ble_eq_true rfl) ?_
  refine sr_istore_n (ls1 := [.ref 56, .ref 10, .int (nI t), .int (nI z), .null]) hA si_30_5 rfl (by rw [sq_l_30]; decide) rfl ?_
  refine sr_aload_n hA si_30_6 rfl ?_
  refine sr_getR (r := 57) hA si_30_7 sf_30_12 (by decide) (by decide) rfl rfl rfl ?_
  refine sr_iconst (v := nI 0) hA si_30_10 (by decide) ?_
  refine sr_putI hA si_30_11 sf_30_35 rfl rfl (by decide) (by decide) rfl rfl ?_
  refine sr_aload_n hA si_30_14 rfl ?_
  refine sr_getR (r := 61) hA si_30_15 sf_30_21 (by decide) (by decide) rfl rfl rfl ?_
  refine sr_VFv (c := 61) (ci := 2) (as := []) (st := []) hA si_30_18 sv_31 sk_30_38 (xc_clear X (sp_wI g 57 3 (nI 0)) sp_sd61) (by omega) rfl (by decide) (by decide) rfl sq_c_31 rfl (Nat.le_of_ble_eq_true rfl) ?_
  refine sr_aload_n hA si_30_21 rfl ?_
  refine sr_iload_n hA si_30_22 rfl ?_
  refine sr_iconst (v := nI 0) hA si_30_23 (by decide) ?_
  refine sr_SFi (as := [.ref 10, .int (nI t), .int (nI 0)]) (st := []) hA si_30_24 ss_32 sk_30_41 (xc_skip X (sp_sS (sp_wI g 57 3 (nI 0)) 61 62 (fun _ => nI 0)) (hT.ra (sp_ra.rf.wI (by omega)).sS) (p := 0) (by omega)) (by omega) rfl rfl (Nat.le_of_ble_eq_true rfl) ?_
  rw [hb0]
  refine sr_istore (ls1 := [.ref 56, .ref 10, .int (nI t), .int (nI z), .int (nI b)]) hA si_30_27 (by rw [sq_l_30]; decide) rfl ?_
  refine sr_iload hA si_30_29 rfl ?_
  refine sr_iload_n hA si_30_31 rfl ?_
  refine sr_icmp_geN (tgt := 50) hA si_30_32 (by decide) (by omega) (by omega) (fun c1 => absurd c1 (by omega)) (fun c1 => ?_)
  refine sr_aload_n hA si_30_35 rfl ?_
  refine sr_iload_n hA si_30_36 rfl ?_
  refine sr_iload hA si_30_37 rfl ?_
  refine sr_VFi (c := 10) (ci := 5) (as := [.int (nI t), .int (nI b)]) (st := []) hA si_30_39 sv_18 sk_30_45 (xc_getT X (sp_sS (sp_wI g 57 3 (nI 0)) 61 62 (fun _ => nI 0)) (v := f b) (by omega) (by omega) (((hT.ra (sp_ra.rf.wI (by omega)).sS).2.2.2 b (by omega)).trans rfl)) (by omega) rfl (by decide) (by decide) rfl sq_c_18 rfl (Nat.le_of_ble_eq_true rfl) ?_
  refine sr_bipush (v := nI 112) hA si_30_42 (by decide) ?_
  refine sr_icmp_eq (tgt := 50) hA si_30_44 (by decide) (fun c2 => absurd c2 hne) (fun c2 => ?_)
  refine sr_iload hA si_30_47 rfl ?_
  exact sr_iretR hA si_30_49 sq_r_30 ⟨rfl, (sp_ra.rf.wI (by omega)).sS⟩
set_option maxRecDepth 20000 in
theorem xc_readC (X : sp_X) (g : sp_G) {t z b : Nat} {f : Nat → Int32} (hT : sp_TX t z f g) (hb0 : sp_bl0 f z 0 = b) (hbz : b + 1 = z) (hpe : f b = nI 112) : sp_Ct X 4 30 [.ref 56, .ref 10, .int (nI t)] g (sp_Ri (fun x g' => x = nI z ∧ sp_ra g g')) := by
  obtain ⟨ht, hz, -, -⟩ := id hT
  refine sp_walkN (n := 5) sq_p_30 sq_l_30 (Nat.le_of_ble_eq_true rfl) (fun a hA => ?_)
  show sp_Ev X a 30 0 [.ref 56, .ref 10, .int (nI t), .null, .null] [] g
  refine sr_aload_n hA si_30_0 rfl ?_
  refine sr_iload_n hA si_30_1 rfl ?_
  refine sr_VFi (c := 10) (ci := 5) (as := [.int (nI t)]) (st := []) hA si_30_2 sv_26 sk_30_29 (xc_sizeT X g (z := nI z) (by omega) (hT.2.2.1)) (by omega) rfl (by decide) (by decide) rfl sq_c_26 rfl (Nat.le_of_ble_eq_true rfl) ?_
  refine sr_istore_n (ls1 := [.ref 56, .ref 10, .int (nI t), .int (nI z), .null]) hA si_30_5 rfl (by rw [sq_l_30]; decide) rfl ?_
  refine sr_aload_n hA si_30_6 rfl ?_
  refine sr_getR (r := 57) hA si_30_7 sf_30_12 (by decide) (by decide) rfl rfl rfl ?_
  refine sr_iconst (v := nI 0) hA si_30_10 (by decide) ?_
  refine sr_putI hA si_30_11 sf_30_35 rfl rfl (by decide) (by decide) rfl rfl ?_
  refine sr_aload_n hA si_30_14 rfl ?_
  refine sr_getR (r := 61) hA si_30_15 sf_30_21 (by decide) (by decide) rfl rfl rfl ?_
  refine sr_VFv (c := 61) (ci := 2) (as := []) (st := []) hA si_30_18 sv_31 sk_30_38 (xc_clear X (sp_wI g 57 3 (nI 0)) sp_sd61) (by omega) rfl (by decide) (by decide) rfl sq_c_31 rfl (Nat.le_of_ble_eq_true rfl) ?_
  refine sr_aload_n hA si_30_21 rfl ?_
  refine sr_iload_n hA si_30_22 rfl ?_
  refine sr_iconst (v := nI 0) hA si_30_23 (by decide) ?_
  refine sr_SFi (as := [.ref 10, .int (nI t), .int (nI 0)]) (st := []) hA si_30_24 ss_32 sk_30_41 (xc_skip X (sp_sS (sp_wI g 57 3 (nI 0)) 61 62 (fun _ => nI 0)) (hT.ra (sp_ra.rf.wI (by omega)).sS) (p := 0) (by omega)) (by omega) rfl rfl (Nat.le_of_ble_eq_true rfl) ?_
  rw [hb0]
  refine sr_istore (ls1 := [.ref 56, .ref 10, .int (nI t), .int (nI z), .int (nI b)]) hA si_30_27 (by rw [sq_l_30]; decide) rfl ?_
  refine sr_iload hA si_30_29 rfl ?_
  refine sr_iload_n hA si_30_31 rfl ?_
  refine sr_icmp_geN (tgt := 50) hA si_30_32 (by decide) (by omega) (by omega) (fun c1 => absurd c1 (by omega)) (fun c1 => ?_)
  refine sr_aload_n hA si_30_35 rfl ?_
  refine sr_iload_n hA si_30_36 rfl ?_
  refine sr_iload hA si_30_37 rfl ?_
  refine sr_VFi (c := 10) (ci := 5) (as := [.int (nI t), .int (nI b)]) (st := []) hA si_30_39 sv_18 sk_30_45 (xc_getT X (sp_sS (sp_wI g 57 3 (nI 0)) 61 62 (fun _ => nI 0)) (v := nI 112) (by omega) (by omega) (((hT.ra (sp_ra.rf.wI (by omega)).sS).2.2.2 b (by omega)).trans hpe)) (by omega) rfl (by decide) (by decide) rfl sq_c_18 rfl (Nat.le_of_ble_eq_true rfl) ?_
  refine sr_bipush (v := nI 112) hA si_30_42 (by decide) ?_
  refine sr_icmp_eqN (tgt := 50) hA si_30_44 (by decide) (by omega) (by omega) (fun c2 => ?_) (fun c2 => absurd c2 (by omega))
  refine sr_iload hA si_30_50 rfl ?_
  refine sr_iconst (v := nI 1) hA si_30_52 (by decide) ?_
  refine sr_iaddN hA si_30_53 ?_
  refine sr_iload_n hA si_30_54 rfl ?_
  refine sr_icmp_ltN (tgt := 60) hA si_30_55 (by decide) (by omega) (by omega) (fun c3 => absurd c3 (by omega)) (fun c3 => ?_)
  refine sr_iload_n hA si_30_58 rfl ?_
  exact sr_iretR hA si_30_59 sq_r_30 ⟨rfl, (sp_ra.rf.wI (by omega)).sS⟩
set_option maxRecDepth 20000 in
theorem xc_readD (X : sp_X) (g : sp_G) {t z b : Nat} {f : Nat → Int32} (hT : sp_TX t z f g) (hb0 : sp_bl0 f z 0 = b) (hbz : b + 1 < z) (hpe : f b = nI 112) (hdg : sp_dg0 (f (b + 1))) : sp_Ct X 4 30 [.ref 56, .ref 10, .int (nI t)] g (sp_Ri (fun x g' => x = nI (b + 1) ∧ sp_ra g g')) := by
  obtain ⟨ht, hz, -, -⟩ := id hT
  refine sp_walkN (n := 5) sq_p_30 sq_l_30 (Nat.le_of_ble_eq_true rfl) (fun a hA => ?_)
  show sp_Ev X a 30 0 [.ref 56, .ref 10, .int (nI t), .null, .null] [] g
  refine sr_aload_n hA si_30_0 rfl ?_
  refine sr_iload_n hA si_30_1 rfl ?_
  refine sr_VFi (c := 10) (ci := 5) (as := [.int (nI t)]) (st := []) hA si_30_2 sv_26 sk_30_29 (xc_sizeT X g (z := nI z) (by omega) (hT.2.2.1)) (by omega) rfl (by decide) (by decide) rfl sq_c_26 rfl (Nat.le_of_ble_eq_true rfl) ?_
  refine sr_istore_n (ls1 := [.ref 56, .ref 10, .int (nI t), .int (nI z), .null]) hA si_30_5 rfl (by rw [sq_l_30]; decide) rfl ?_
  refine sr_aload_n hA si_30_6 rfl ?_
  refine sr_getR (r := 57) hA si_30_7 sf_30_12 (by decide) (by decide) rfl rfl rfl ?_
  refine sr_iconst (v := nI 0) hA si_30_10 (by decide) ?_
  refine sr_putI hA si_30_11 sf_30_35 rfl rfl (by decide) (by decide) rfl rfl ?_
  refine sr_aload_n hA si_30_14 rfl ?_
  refine sr_getR (r := 61) hA si_30_15 sf_30_21 (by decide) (by decide) rfl rfl rfl ?_
  refine sr_VFv (c := 61) (ci := 2) (as := []) (st := []) hA si_30_18 sv_31 sk_30_38 (xc_clear X (sp_wI g 57 3 (nI 0)) sp_sd61) (by omega) rfl (by decide) (by decide) rfl sq_c_31 rfl (Nat.le_of_ble_eq_true rfl) ?_
  refine sr_aload_n hA si_30_21 rfl ?_
  refine sr_iload_n hA si_30_22 rfl ?_
  refine sr_iconst (v := nI 0) hA si_30_23 (by decide) ?_
  refine sr_SFi (as := [.ref 10, .int (nI t), .int (nI 0)]) (st := []) hA si_30_24 ss_32 sk_30_41 (xc_skip X (sp_sS (sp_wI g 57 3 (nI 0)) 61 62 (fun _ => nI 0)) (hT.ra (sp_ra.rf.wI (by omega)).sS) (p := 0) (by omega)) (by omega) rfl rfl (Nat.le_of_ble_eq_true rfl) ?_
  rw [hb0]
  refine sr_istore (ls1 := [.ref 56, .ref 10, .int (nI t), .int (nI z), .int (nI b)]) hA si_30_27 (by rw [sq_l_30]; decide) rfl ?_
  refine sr_iload hA si_30_29 rfl ?_
  refine sr_iload_n hA si_30_31 rfl ?_
  refine sr_icmp_geN (tgt := 50) hA si_30_32 (by decide) (by omega) (by omega) (fun c1 => absurd c1 (by omega)) (fun c1 => ?_)
  refine sr_aload_n hA si_30_35 rfl ?_
  refine sr_iload_n hA si_30_36 rfl ?_
  refine sr_iload hA si_30_37 rfl ?_
  refine sr_VFi (c := 10) (ci := 5) (as := [.int (nI t), .int (nI b)]) (st := []) hA si_30_39 sv_18 sk_30_45 (xc_getT X (sp_sS (sp_wI g 57 3 (nI 0)) 61 62 (fun _ => nI 0)) (v := nI 112) (by omega) (by omega) (((hT.ra (sp_ra.rf.wI (by omega)).sS).2.2.2 b (by omega)).trans hpe)) (by omega) rfl (by decide) (by decide) rfl sq_c_18 rfl (Nat.le_of_ble_eq_true rfl) ?_
  refine sr_bipush (v := nI 112) hA si_30_42 (by decide) ?_
  refine sr_icmp_eqN (tgt := 50) hA si_30_44 (by decide) (by omega) (by omega) (fun c2 => ?_) (fun c2 => absurd c2 (by omega))
  refine sr_iload hA si_30_50 rfl ?_
  refine sr_iconst (v := nI 1) hA si_30_52 (by decide) ?_
  refine sr_iaddN hA si_30_53 ?_
  refine sr_iload_n hA si_30_54 rfl ?_
  refine sr_icmp_ltN (tgt := 60) hA si_30_55 (by decide) (by omega) (by omega) (fun c3 => ?_) (fun c3 => absurd c3 (by omega))
  refine sr_aload_n hA si_30_60 rfl ?_
  refine sr_aload_n hA si_30_61 rfl ?_
  refine sr_iload_n hA si_30_62 rfl ?_
  refine sr_iload hA si_30_63 rfl ?_
  refine sr_iconst (v := nI 1) hA si_30_65 (by decide) ?_
  refine sr_iaddN hA si_30_66 ?_
  refine sr_SFi (as := [.ref 10, .int (nI t), .int (nI (b + 1))]) (st := [.ref 56]) hA si_30_67 ss_33 sk_30_49 (xc_fig0 X (sp_sS (sp_wI g 57 3 (nI 0)) 61 62 (fun _ => nI 0)) (hT.ra (sp_ra.rf.wI (by omega)).sS) (p := b + 1) (by omega) hdg) (by omega) rfl rfl (Nat.le_of_ble_eq_true rfl) ?_
  refine sr_putI hA si_30_70 sf_30_25 rfl rfl (by decide) (by decide) rfl rfl ?_
  refine sr_aload_n hA si_30_73 rfl ?_
  refine sr_getIv (v := (-1)) hA si_30_74 sf_30_25 (by decide) (by decide) rfl (by decide) rfl ?_
  refine sr_iconst (v := nI 1) hA si_30_77 (by decide) ?_
  refine sr_icmp_ge (tgt := 86) hA si_30_78 (by decide) (fun c4 => absurd c4 (sp_n4 (by decide) (by omega))) (fun c4 => ?_)
  refine sr_iload hA si_30_81 rfl ?_
  refine sr_iconst (v := nI 1) hA si_30_83 (by decide) ?_
  refine sr_iaddN hA si_30_84 ?_
  exact sr_iretR hA si_30_85 sq_r_30 ⟨rfl, ((sp_ra.rf.wI (by omega)).sS).wI (by omega)⟩
set_option maxRecDepth 20000 in
theorem xc_readE (X : sp_X) (g : sp_G) {t z b : Nat} {f : Nat → Int32} (hT : sp_TX t z f g) (hb0 : sp_bl0 f z 0 = b) (hbz : b + 1 < z) (hpe : f b = nI 112) (hdg : sp_dg1 (f (b + 1)) 0) : sp_Ct X 4 30 [.ref 56, .ref 10, .int (nI t)] g (sp_Ri (fun x g' => x = nI (b + 1) ∧ sp_ra g g')) := by
  obtain ⟨ht, hz, -, -⟩ := id hT
  refine sp_walkN (n := 5) sq_p_30 sq_l_30 (Nat.le_of_ble_eq_true rfl) (fun a hA => ?_)
  show sp_Ev X a 30 0 [.ref 56, .ref 10, .int (nI t), .null, .null] [] g
  refine sr_aload_n hA si_30_0 rfl ?_
  refine sr_iload_n hA si_30_1 rfl ?_
  refine sr_VFi (c := 10) (ci := 5) (as := [.int (nI t)]) (st := []) hA si_30_2 sv_26 sk_30_29 (xc_sizeT X g (z := nI z) (by omega) (hT.2.2.1)) (by omega) rfl (by decide) (by decide) rfl sq_c_26 rfl (Nat.le_of_ble_eq_true rfl) ?_
  refine sr_istore_n (ls1 := [.ref 56, .ref 10, .int (nI t), .int (nI z), .null]) hA si_30_5 rfl (by rw [sq_l_30]; decide) rfl ?_
  refine sr_aload_n hA si_30_6 rfl ?_
  refine sr_getR (r := 57) hA si_30_7 sf_30_12 (by decide) (by decide) rfl rfl rfl ?_
  refine sr_iconst (v := nI 0) hA si_30_10 (by decide) ?_
  refine sr_putI hA si_30_11 sf_30_35 rfl rfl (by decide) (by decide) rfl rfl ?_
  refine sr_aload_n hA si_30_14 rfl ?_
  refine sr_getR (r := 61) hA si_30_15 sf_30_21 (by decide) (by decide) rfl rfl rfl ?_
  refine sr_VFv (c := 61) (ci := 2) (as := []) (st := []) hA si_30_18 sv_31 sk_30_38 (xc_clear X (sp_wI g 57 3 (nI 0)) sp_sd61) (by omega) rfl (by decide) (by decide) rfl sq_c_31 rfl (Nat.le_of_ble_eq_true rfl) ?_
  refine sr_aload_n hA si_30_21 rfl ?_
  refine sr_iload_n hA si_30_22 rfl ?_
  refine sr_iconst (v := nI 0) hA si_30_23 (by decide) ?_
  refine sr_SFi (as := [.ref 10, .int (nI t), .int (nI 0)]) (st := []) hA si_30_24 ss_32 sk_30_41 (xc_skip X (sp_sS (sp_wI g 57 3 (nI 0)) 61 62 (fun _ => nI 0)) (hT.ra (sp_ra.rf.wI (by omega)).sS) (p := 0) (by omega)) (by omega) rfl rfl (Nat.le_of_ble_eq_true rfl) ?_
  rw [hb0]
  refine sr_istore (ls1 := [.ref 56, .ref 10, .int (nI t), .int (nI z), .int (nI b)]) hA si_30_27 (by rw [sq_l_30]; decide) rfl ?_
  refine sr_iload hA si_30_29 rfl ?_
  refine sr_iload_n hA si_30_31 rfl ?_
  refine sr_icmp_geN (tgt := 50) hA si_30_32 (by decide) (by omega) (by omega) (fun c1 => absurd c1 (by omega)) (fun c1 => ?_)
  refine sr_aload_n hA si_30_35 rfl ?_
  refine sr_iload_n hA si_30_36 rfl ?_
  refine sr_iload hA si_30_37 rfl ?_
  refine sr_VFi (c := 10) (ci := 5) (as := [.int (nI t), .int (nI b)]) (st := []) hA si_30_39 sv_18 sk_30_45 (xc_getT X (sp_sS (sp_wI g 57 3 (nI 0)) 61 62 (fun _ => nI 0)) (v := nI 112) (by omega) (by omega) (((hT.ra (sp_ra.rf.wI (by omega)).sS).2.2.2 b (by omega)).trans hpe)) (by omega) rfl (by decide) (by decide) rfl sq_c_18 rfl (Nat.le_of_ble_eq_true rfl) ?_
  refine sr_bipush (v := nI 112) hA si_30_42 (by decide) ?_
  refine sr_icmp_eqN (tgt := 50) hA si_30_44 (by decide) (by omega) (by omega) (fun c2 => ?_) (fun c2 => absurd c2 (by omega))
  refine sr_iload hA si_30_50 rfl ?_
  refine sr_iconst (v := nI 1) hA si_30_52 (by decide) ?_
  refine sr_iaddN hA si_30_53 ?_
  refine sr_iload_n hA si_30_54 rfl ?_
  refine sr_icmp_ltN (tgt := 60) hA si_30_55 (by decide) (by omega) (by omega) (fun c3 => ?_) (fun c3 => absurd c3 (by omega))
  refine sr_aload_n hA si_30_60 rfl ?_
  refine sr_aload_n hA si_30_61 rfl ?_
  refine sr_iload_n hA si_30_62 rfl ?_
  refine sr_iload hA si_30_63 rfl ?_
  refine sr_iconst (v := nI 1) hA si_30_65 (by decide) ?_
  refine sr_iaddN hA si_30_66 ?_
  refine sr_SFi (as := [.ref 10, .int (nI t), .int (nI (b + 1))]) (st := [.ref 56]) hA si_30_67 ss_33 sk_30_49 (xc_fig1 X (sp_sS (sp_wI g 57 3 (nI 0)) 61 62 (fun _ => nI 0)) (hT.ra (sp_ra.rf.wI (by omega)).sS) (p := b + 1) (d := 0) (by omega) hdg) (by omega) rfl rfl (Nat.le_of_ble_eq_true rfl) ?_
  refine sr_putI hA si_30_70 sf_30_25 rfl rfl (by decide) (by decide) rfl rfl ?_
  refine sr_aload_n hA si_30_73 rfl ?_
  refine sr_getIv (v := nI 0) hA si_30_74 sf_30_25 (by decide) (by decide) rfl (by decide) rfl ?_
  refine sr_iconst (v := nI 1) hA si_30_77 (by decide) ?_
  refine sr_icmp_geN (tgt := 86) hA si_30_78 (by decide) (by omega) (by omega) (fun c4 => absurd c4 (by omega)) (fun c4 => ?_)
  refine sr_iload hA si_30_81 rfl ?_
  refine sr_iconst (v := nI 1) hA si_30_83 (by decide) ?_
  refine sr_iaddN hA si_30_84 ?_
  exact sr_iretR hA si_30_85 sq_r_30 ⟨rfl, ((sp_ra.rf.wI (by omega)).sS).wI (by omega)⟩
set_option maxRecDepth 20000 in
theorem xc_readKS (X : sp_X) (g : sp_G) {t z b : Nat} {f : Nat → Int32} (hT : sp_TX t z f g) (hb0 : sp_bl0 f z 0 = b) (hbz : b + 1 < z) (hpe : f b = nI 112) {s i0 : Nat} {D : sp_D} (hs1 : 1 ≤ s) (hdg : sp_dg1 (f (b + 1)) s) (hg : sp_gks f z (b + 2) i0 D) (hend : sp_ps f z (b + 2) i0 = z) : sp_Ct X 4 30 [.ref 56, .ref 10, .int (nI t)] g (sp_Ri (fun x g' => x = (-9) ∧ sp_rx2 g g' i0 D s)) := by
  obtain ⟨ht, hz, -, -⟩ := id hT
  have hs9 := hdg.1
  have hr0 : sp_rx2 g (sp_wI (sp_sS (sp_wI g 57 3 (nI 0)) 61 62 (fun _ => nI 0)) 56 2 (nI s)) 0 D s := ⟨((sp_ra.rf.wI (by omega)).sS).wI (by omega), rfl, rfl, fun j hj => absurd hj (by omega), fun j _ hj => if_pos ⟨rfl, hj⟩, rfl, rfl, rfl⟩
  refine sp_walkN (n := 5) sq_p_30 sq_l_30 (Nat.le_of_ble_eq_true rfl) (fun a hA => ?_)
  show sp_Ev X a 30 0 [.ref 56, .ref 10, .int (nI t), .null, .null] [] g
  refine sr_aload_n hA si_30_0 rfl ?_
  refine sr_iload_n hA si_30_1 rfl ?_
  refine sr_VFi (c := 10) (ci := 5) (as := [.int (nI t)]) (st := []) hA si_30_2 sv_26 sk_30_29 (xc_sizeT X g (z := nI z) (by omega) (hT.2.2.1)) (by omega) rfl (by decide) (by decide) rfl sq_c_26 rfl (Nat.le_of_ble_eq_true rfl) ?_
  refine sr_istore_n (ls1 := [.ref 56, .ref 10, .int (nI t), .int (nI z), .null]) hA si_30_5 rfl (by rw [sq_l_30]; decide) rfl ?_
  refine sr_aload_n hA si_30_6 rfl ?_
  refine sr_getR (r := 57) hA si_30_7 sf_30_12 (by decide) (by decide) rfl rfl rfl ?_
  refine sr_iconst (v := nI 0) hA si_30_10 (by decide) ?_
  refine sr_putI hA si_30_11 sf_30_35 rfl rfl (by decide) (by decide) rfl rfl ?_
  refine sr_aload_n hA si_30_14 rfl ?_
  refine sr_getR (r := 61) hA si_30_15 sf_30_21 (by decide) (by decide) rfl rfl rfl ?_
  refine sr_VFv (c := 61) (ci := 2) (as := []) (st := []) hA si_30_18 sv_31 sk_30_38 (xc_clear X (sp_wI g 57 3 (nI 0)) sp_sd61) (by omega) rfl (by decide) (by decide) rfl sq_c_31 rfl (Nat.le_of_ble_eq_true rfl) ?_
  refine sr_aload_n hA si_30_21 rfl ?_
  refine sr_iload_n hA si_30_22 rfl ?_
  refine sr_iconst (v := nI 0) hA si_30_23 (by decide) ?_
  refine sr_SFi (as := [.ref 10, .int (nI t), .int (nI 0)]) (st := []) hA si_30_24 ss_32 sk_30_41 (xc_skip X (sp_sS (sp_wI g 57 3 (nI 0)) 61 62 (fun _ => nI 0)) (hT.ra (sp_ra.rf.wI (by omega)).sS) (p := 0) (by omega)) (by omega) rfl rfl (Nat.le_of_ble_eq_true rfl) ?_
  rw [hb0]
  refine sr_istore (ls1 := [.ref 56, .ref 10, .int (nI t), .int (nI z), .int (nI b)]) hA si_30_27 (by rw [sq_l_30]; decide) rfl ?_
  refine sr_iload hA si_30_29 rfl ?_
  refine sr_iload_n hA si_30_31 rfl ?_
  refine sr_icmp_geN (tgt := 50) hA si_30_32 (by decide) (by omega) (by omega) (fun c1 => absurd c1 (by omega)) (fun c1 => ?_)
  refine sr_aload_n hA si_30_35 rfl ?_
  refine sr_iload_n hA si_30_36 rfl ?_
  refine sr_iload hA si_30_37 rfl ?_
  refine sr_VFi (c := 10) (ci := 5) (as := [.int (nI t), .int (nI b)]) (st := []) hA si_30_39 sv_18 sk_30_45 (xc_getT X (sp_sS (sp_wI g 57 3 (nI 0)) 61 62 (fun _ => nI 0)) (v := nI 112) (by omega) (by omega) (((hT.ra (sp_ra.rf.wI (by omega)).sS).2.2.2 b (by omega)).trans hpe)) (by omega) rfl (by decide) (by decide) rfl sq_c_18 rfl (Nat.le_of_ble_eq_true rfl) ?_
  refine sr_bipush (v := nI 112) hA si_30_42 (by decide) ?_
  refine sr_icmp_eqN (tgt := 50) hA si_30_44 (by decide) (by omega) (by omega) (fun c2 => ?_) (fun c2 => absurd c2 (by omega))
  refine sr_iload hA si_30_50 rfl ?_
  refine sr_iconst (v := nI 1) hA si_30_52 (by decide) ?_
  refine sr_iaddN hA si_30_53 ?_
  refine sr_iload_n hA si_30_54 rfl ?_
  refine sr_icmp_ltN (tgt := 60) hA si_30_55 (by decide) (by omega) (by omega) (fun c3 => ?_) (fun c3 => absurd c3 (by omega))
  refine sr_aload_n hA si_30_60 rfl ?_
  refine sr_aload_n hA si_30_61 rfl ?_
  refine sr_iload_n hA si_30_62 rfl ?_
  refine sr_iload hA si_30_63 rfl ?_
  refine sr_iconst (v := nI 1) hA si_30_65 (by decide) ?_
  refine sr_iaddN hA si_30_66 ?_
  refine sr_SFi (as := [.ref 10, .int (nI t), .int (nI (b + 1))]) (st := [.ref 56]) hA si_30_67 ss_33 sk_30_49 (xc_fig1 X (sp_sS (sp_wI g 57 3 (nI 0)) 61 62 (fun _ => nI 0)) (hT.ra (sp_ra.rf.wI (by omega)).sS) (p := b + 1) (d := s) (by omega) hdg) (by omega) rfl rfl (Nat.le_of_ble_eq_true rfl) ?_
  refine sr_putI hA si_30_70 sf_30_25 rfl rfl (by decide) (by decide) rfl rfl ?_
  refine sr_aload_n hA si_30_73 rfl ?_
  refine sr_getIv (v := nI s) hA si_30_74 sf_30_25 (by decide) (by decide) rfl (by decide) rfl ?_
  refine sr_iconst (v := nI 1) hA si_30_77 (by decide) ?_
  refine sr_icmp_geN (tgt := 86) hA si_30_78 (by decide) (by omega) (by omega) (fun c4 => ?_) (fun c4 => absurd c4 (by omega))
  refine sr_aload_n hA si_30_86 rfl ?_
  refine sr_aload_n hA si_30_87 rfl ?_
  refine sr_iload_n hA si_30_88 rfl ?_
  refine sr_iload hA si_30_89 rfl ?_
  refine sr_iconst (v := nI 2) hA si_30_91 (by decide) ?_
  refine sr_iaddN hA si_30_92 ?_
  refine sr_VRi (c := 56) (ci := 1) (as := [.ref 10, .int (nI t), .int (nI (b + 2))]) (st := []) hA si_30_93 sv_34 sk_30_52 (xc_rksS X (sp_wI (sp_sS (sp_wI g 57 3 (nI 0)) 61 62 (fun _ => nI 0)) 56 2 (nI s)) (g0 := g) (p := b + 2) hT (by omega) hg hend hr0) (by omega) rfl (by decide) (by decide) rfl sq_c_34 rfl (Nat.le_of_ble_eq_true rfl) (fun xv gx qx => ?_)
  obtain ⟨exv, qx⟩ := qx
  subst exv
  exact sr_iretR hA si_30_96 sq_r_30 ⟨rfl, qx⟩
set_option maxRecDepth 20000 in
theorem xc_readK6 (X : sp_X) (g : sp_G) {t z b : Nat} {f : Nat → Int32} (hT : sp_TX t z f g) (hb0 : sp_bl0 f z 0 = b) (hbz : b + 1 < z) (hpe : f b = nI 112) {s i0 : Nat} {D : sp_D} (hs1 : 1 ≤ s) (hdg : sp_dg1 (f (b + 1)) s) (hg : sp_gks f z (b + 2) i0 D) (hi6 : i0 = 6) (hend : sp_ps f z (b + 2) i0 < z) : sp_Ct X 4 30 [.ref 56, .ref 10, .int (nI t)] g (sp_Ri (fun x g' => x = nI (sp_ps f z (b + 2) i0) ∧ sp_rx2 g g' i0 D s)) := by
  obtain ⟨ht, hz, -, -⟩ := id hT
  have hs9 := hdg.1
  have hr0 : sp_rx2 g (sp_wI (sp_sS (sp_wI g 57 3 (nI 0)) 61 62 (fun _ => nI 0)) 56 2 (nI s)) 0 D s := ⟨((sp_ra.rf.wI (by omega)).sS).wI (by omega), rfl, rfl, fun j hj => absurd hj (by omega), fun j _ hj => if_pos ⟨rfl, hj⟩, rfl, rfl, rfl⟩
  refine sp_walkN (n := 5) sq_p_30 sq_l_30 (Nat.le_of_ble_eq_true rfl) (fun a hA => ?_)
  show sp_Ev X a 30 0 [.ref 56, .ref 10, .int (nI t), .null, .null] [] g
  refine sr_aload_n hA si_30_0 rfl ?_
  refine sr_iload_n hA si_30_1 rfl ?_
  refine sr_VFi (c := 10) (ci := 5) (as := [.int (nI t)]) (st := []) hA si_30_2 sv_26 sk_30_29 (xc_sizeT X g (z := nI z) (by omega) (hT.2.2.1)) (by omega) rfl (by decide) (by decide) rfl sq_c_26 rfl (Nat.le_of_ble_eq_true rfl) ?_
  refine sr_istore_n (ls1 := [.ref 56, .ref 10, .int (nI t), .int (nI z), .null]) hA si_30_5 rfl (by rw [sq_l_30]; decide) rfl ?_
  refine sr_aload_n hA si_30_6 rfl ?_
  refine sr_getR (r := 57) hA si_30_7 sf_30_12 (by decide) (by decide) rfl rfl rfl ?_
  refine sr_iconst (v := nI 0) hA si_30_10 (by decide) ?_
  refine sr_putI hA si_30_11 sf_30_35 rfl rfl (by decide) (by decide) rfl rfl ?_
  refine sr_aload_n hA si_30_14 rfl ?_
  refine sr_getR (r := 61) hA si_30_15 sf_30_21 (by decide) (by decide) rfl rfl rfl ?_
  refine sr_VFv (c := 61) (ci := 2) (as := []) (st := []) hA si_30_18 sv_31 sk_30_38 (xc_clear X (sp_wI g 57 3 (nI 0)) sp_sd61) (by omega) rfl (by decide) (by decide) rfl sq_c_31 rfl (Nat.le_of_ble_eq_true rfl) ?_
  refine sr_aload_n hA si_30_21 rfl ?_
  refine sr_iload_n hA si_30_22 rfl ?_
  refine sr_iconst (v := nI 0) hA si_30_23 (by decide) ?_
  refine sr_SFi (as := [.ref 10, .int (nI t), .int (nI 0)]) (st := []) hA si_30_24 ss_32 sk_30_41 (xc_skip X (sp_sS (sp_wI g 57 3 (nI 0)) 61 62 (fun _ => nI 0)) (hT.ra (sp_ra.rf.wI (by omega)).sS) (p := 0) (by omega)) (by omega) rfl rfl (Nat.le_of_ble_eq_true rfl) ?_
  rw [hb0]
  refine sr_istore (ls1 := [.ref 56, .ref 10, .int (nI t), .int (nI z), .int (nI b)]) hA si_30_27 (by rw [sq_l_30]; decide) rfl ?_
  refine sr_iload hA si_30_29 rfl ?_
  refine sr_iload_n hA si_30_31 rfl ?_
  refine sr_icmp_geN (tgt := 50) hA si_30_32 (by decide) (by omega) (by omega) (fun c1 => absurd c1 (by omega)) (fun c1 => ?_)
  refine sr_aload_n hA si_30_35 rfl ?_
  refine sr_iload_n hA si_30_36 rfl ?_
  refine sr_iload hA si_30_37 rfl ?_
  refine sr_VFi (c := 10) (ci := 5) (as := [.int (nI t), .int (nI b)]) (st := []) hA si_30_39 sv_18 sk_30_45 (xc_getT X (sp_sS (sp_wI g 57 3 (nI 0)) 61 62 (fun _ => nI 0)) (v := nI 112) (by omega) (by omega) (((hT.ra (sp_ra.rf.wI (by omega)).sS).2.2.2 b (by omega)).trans hpe)) (by omega) rfl (by decide) (by decide) rfl sq_c_18 rfl (Nat.le_of_ble_eq_true rfl) ?_
  refine sr_bipush (v := nI 112) hA si_30_42 (by decide) ?_
  refine sr_icmp_eqN (tgt := 50) hA si_30_44 (by decide) (by omega) (by omega) (fun c2 => ?_) (fun c2 => absurd c2 (by omega))
  refine sr_iload hA si_30_50 rfl ?_
  refine sr_iconst (v := nI 1) hA si_30_52 (by decide) ?_
  refine sr_iaddN hA si_30_53 ?_
  refine sr_iload_n hA si_30_54 rfl ?_
  refine sr_icmp_ltN (tgt := 60) hA si_30_55 (by decide) (by omega) (by omega) (fun c3 => ?_) (fun c3 => absurd c3 (by omega))
  refine sr_aload_n hA si_30_60 rfl ?_
  refine sr_aload_n hA si_30_61 rfl ?_
  refine sr_iload_n hA si_30_62 rfl ?_
  refine sr_iload hA si_30_63 rfl ?_
  refine sr_iconst (v := nI 1) hA si_30_65 (by decide) ?_
  refine sr_iaddN hA si_30_66 ?_
  refine sr_SFi (as := [.ref 10, .int (nI t), .int (nI (b + 1))]) (st := [.ref 56]) hA si_30_67 ss_33 sk_30_49 (xc_fig1 X (sp_sS (sp_wI g 57 3 (nI 0)) 61 62 (fun _ => nI 0)) (hT.ra (sp_ra.rf.wI (by omega)).sS) (p := b + 1) (d := s) (by omega) hdg) (by omega) rfl rfl (Nat.le_of_ble_eq_true rfl) ?_
  refine sr_putI hA si_30_70 sf_30_25 rfl rfl (by decide) (by decide) rfl rfl ?_
  refine sr_aload_n hA si_30_73 rfl ?_
  refine sr_getIv (v := nI s) hA si_30_74 sf_30_25 (by decide) (by decide) rfl (by decide) rfl ?_
  refine sr_iconst (v := nI 1) hA si_30_77 (by decide) ?_
  refine sr_icmp_geN (tgt := 86) hA si_30_78 (by decide) (by omega) (by omega) (fun c4 => ?_) (fun c4 => absurd c4 (by omega))
  refine sr_aload_n hA si_30_86 rfl ?_
  refine sr_aload_n hA si_30_87 rfl ?_
  refine sr_iload_n hA si_30_88 rfl ?_
  refine sr_iload hA si_30_89 rfl ?_
  refine sr_iconst (v := nI 2) hA si_30_91 (by decide) ?_
  refine sr_iaddN hA si_30_92 ?_
  refine sr_VRi (c := 56) (ci := 1) (as := [.ref 10, .int (nI t), .int (nI (b + 2))]) (st := []) hA si_30_93 sv_34 sk_30_52 (xc_rks6 X (sp_wI (sp_sS (sp_wI g 57 3 (nI 0)) 61 62 (fun _ => nI 0)) 56 2 (nI s)) (g0 := g) (p := b + 2) hT (by omega) hg hi6 hend hr0) (by omega) rfl (by decide) (by decide) rfl sq_c_34 rfl (Nat.le_of_ble_eq_true rfl) (fun xv gx qx => ?_)
  obtain ⟨exv, qx⟩ := qx
  subst exv
  exact sr_iretR hA si_30_96 sq_r_30 ⟨rfl, qx⟩
set_option maxRecDepth 20000 in
theorem xc_readKB (X : sp_X) (g : sp_G) {t z b : Nat} {f : Nat → Int32} (hT : sp_TX t z f g) (hb0 : sp_bl0 f z 0 = b) (hbz : b + 1 < z) (hpe : f b = nI 112) {s i0 : Nat} {D : sp_D} (hs1 : 1 ≤ s) (hdg : sp_dg1 (f (b + 1)) s) (hg : sp_gks f z (b + 2) i0 D) (hi6 : i0 < 6) (hend : sp_ps f z (b + 2) i0 < z) {e : Nat} (heb : e < 2 ^ 31) (hbad0 : sp_nk2 f z (sp_ps f z (b + 2) i0) e) : sp_Ct X 4 30 [.ref 56, .ref 10, .int (nI t)] g (sp_Ri (fun x g' => x = nI e ∧ sp_rx2 g g' i0 D s)) := by
  obtain ⟨ht, hz, -, -⟩ := id hT
  have hs9 := hdg.1
  have hr0 : sp_rx2 g (sp_wI (sp_sS (sp_wI g 57 3 (nI 0)) 61 62 (fun _ => nI 0)) 56 2 (nI s)) 0 D s := ⟨((sp_ra.rf.wI (by omega)).sS).wI (by omega), rfl, rfl, fun j hj => absurd hj (by omega), fun j _ hj => if_pos ⟨rfl, hj⟩, rfl, rfl, rfl⟩
  refine sp_walkN (n := 5) sq_p_30 sq_l_30 (Nat.le_of_ble_eq_true rfl) (fun a hA => ?_)
  show sp_Ev X a 30 0 [.ref 56, .ref 10, .int (nI t), .null, .null] [] g
  refine sr_aload_n hA si_30_0 rfl ?_
  refine sr_iload_n hA si_30_1 rfl ?_
  refine sr_VFi (c := 10) (ci := 5) (as := [.int (nI t)]) (st := []) hA si_30_2 sv_26 sk_30_29 (xc_sizeT X g (z := nI z) (by omega) (hT.2.2.1)) (by omega) rfl (by decide) (by decide) rfl sq_c_26 rfl (Nat.le_of_ble_eq_true rfl) ?_
  refine sr_istore_n (ls1 := [.ref 56, .ref 10, .int (nI t), .int (nI z), .null]) hA si_30_5 rfl (by rw [sq_l_30]; decide) rfl ?_
  refine sr_aload_n hA si_30_6 rfl ?_
  refine sr_getR (r := 57) hA si_30_7 sf_30_12 (by decide) (by decide) rfl rfl rfl ?_
  refine sr_iconst (v := nI 0) hA si_30_10 (by decide) ?_
  refine sr_putI hA si_30_11 sf_30_35 rfl rfl (by decide) (by decide) rfl rfl ?_
  refine sr_aload_n hA si_30_14 rfl ?_
  refine sr_getR (r := 61) hA si_30_15 sf_30_21 (by decide) (by decide) rfl rfl rfl ?_
  refine sr_VFv (c := 61) (ci := 2) (as := []) (st := []) hA si_30_18 sv_31 sk_30_38 (xc_clear X (sp_wI g 57 3 (nI 0)) sp_sd61) (by omega) rfl (by decide) (by decide) rfl sq_c_31 rfl (Nat.le_of_ble_eq_true rfl) ?_
  refine sr_aload_n hA si_30_21 rfl ?_
  refine sr_iload_n hA si_30_22 rfl ?_
  refine sr_iconst (v := nI 0) hA si_30_23 (by decide) ?_
  refine sr_SFi (as := [.ref 10, .int (nI t), .int (nI 0)]) (st := []) hA si_30_24 ss_32 sk_30_41 (xc_skip X (sp_sS (sp_wI g 57 3 (nI 0)) 61 62 (fun _ => nI 0)) (hT.ra (sp_ra.rf.wI (by omega)).sS) (p := 0) (by omega)) (by omega) rfl rfl (Nat.le_of_ble_eq_true rfl) ?_
  rw [hb0]
  refine sr_istore (ls1 := [.ref 56, .ref 10, .int (nI t), .int (nI z), .int (nI b)]) hA si_30_27 (by rw [sq_l_30]; decide) rfl ?_
  refine sr_iload hA si_30_29 rfl ?_
  refine sr_iload_n hA si_30_31 rfl ?_
  refine sr_icmp_geN (tgt := 50) hA si_30_32 (by decide) (by omega) (by omega) (fun c1 => absurd c1 (by omega)) (fun c1 => ?_)
  refine sr_aload_n hA si_30_35 rfl ?_
  refine sr_iload_n hA si_30_36 rfl ?_
  refine sr_iload hA si_30_37 rfl ?_
  refine sr_VFi (c := 10) (ci := 5) (as := [.int (nI t), .int (nI b)]) (st := []) hA si_30_39 sv_18 sk_30_45 (xc_getT X (sp_sS (sp_wI g 57 3 (nI 0)) 61 62 (fun _ => nI 0)) (v := nI 112) (by omega) (by omega) (((hT.ra (sp_ra.rf.wI (by omega)).sS).2.2.2 b (by omega)).trans hpe)) (by omega) rfl (by decide) (by decide) rfl sq_c_18 rfl (Nat.le_of_ble_eq_true rfl) ?_
  refine sr_bipush (v := nI 112) hA si_30_42 (by decide) ?_
  refine sr_icmp_eqN (tgt := 50) hA si_30_44 (by decide) (by omega) (by omega) (fun c2 => ?_) (fun c2 => absurd c2 (by omega))
  refine sr_iload hA si_30_50 rfl ?_
  refine sr_iconst (v := nI 1) hA si_30_52 (by decide) ?_
  refine sr_iaddN hA si_30_53 ?_
  refine sr_iload_n hA si_30_54 rfl ?_
  refine sr_icmp_ltN (tgt := 60) hA si_30_55 (by decide) (by omega) (by omega) (fun c3 => ?_) (fun c3 => absurd c3 (by omega))
  refine sr_aload_n hA si_30_60 rfl ?_
  refine sr_aload_n hA si_30_61 rfl ?_
  refine sr_iload_n hA si_30_62 rfl ?_
  refine sr_iload hA si_30_63 rfl ?_
  refine sr_iconst (v := nI 1) hA si_30_65 (by decide) ?_
  refine sr_iaddN hA si_30_66 ?_
  refine sr_SFi (as := [.ref 10, .int (nI t), .int (nI (b + 1))]) (st := [.ref 56]) hA si_30_67 ss_33 sk_30_49 (xc_fig1 X (sp_sS (sp_wI g 57 3 (nI 0)) 61 62 (fun _ => nI 0)) (hT.ra (sp_ra.rf.wI (by omega)).sS) (p := b + 1) (d := s) (by omega) hdg) (by omega) rfl rfl (Nat.le_of_ble_eq_true rfl) ?_
  refine sr_putI hA si_30_70 sf_30_25 rfl rfl (by decide) (by decide) rfl rfl ?_
  refine sr_aload_n hA si_30_73 rfl ?_
  refine sr_getIv (v := nI s) hA si_30_74 sf_30_25 (by decide) (by decide) rfl (by decide) rfl ?_
  refine sr_iconst (v := nI 1) hA si_30_77 (by decide) ?_
  refine sr_icmp_geN (tgt := 86) hA si_30_78 (by decide) (by omega) (by omega) (fun c4 => ?_) (fun c4 => absurd c4 (by omega))
  refine sr_aload_n hA si_30_86 rfl ?_
  refine sr_aload_n hA si_30_87 rfl ?_
  refine sr_iload_n hA si_30_88 rfl ?_
  refine sr_iload hA si_30_89 rfl ?_
  refine sr_iconst (v := nI 2) hA si_30_91 (by decide) ?_
  refine sr_iaddN hA si_30_92 ?_
  refine sr_VRi (c := 56) (ci := 1) (as := [.ref 10, .int (nI t), .int (nI (b + 2))]) (st := []) hA si_30_93 sv_34 sk_30_52 (xc_rksB X (sp_wI (sp_sS (sp_wI g 57 3 (nI 0)) 61 62 (fun _ => nI 0)) 56 2 (nI s)) (g0 := g) (p := b + 2) hT (by omega) hg hi6 hend heb hbad0 hr0) (by omega) rfl (by decide) (by decide) rfl sq_c_34 rfl (Nat.le_of_ble_eq_true rfl) (fun xv gx qx => ?_)
  obtain ⟨exv, qx⟩ := qx
  subst exv
  exact sr_iretR hA si_30_96 sq_r_30 ⟨rfl, qx⟩
theorem xc_readF (X : sp_X) (g : sp_G) {t z e : Nat} {f : Nat → Int32} (hT : sp_TX t z f g) (h : sp_hb f z e) : sp_Ct X 4 30 [.ref 56, .ref 10, .int (nI t)] g (sp_Ri (fun x g' => x = nI e ∧ sp_ra g g')) := by
  rcases h with ⟨h1, rfl⟩ | ⟨h1, h2, rfl⟩ | ⟨h1, h2, rfl, h3 | ⟨h3, h4 | h4⟩⟩
  · exact xc_readA X g hT rfl h1
  · exact xc_readB X g hT rfl h1 h2
  · have := xc_readC X g hT rfl h3 h2
    rw [← h3] at this
    exact this
  · exact xc_readD X g hT rfl h3 h2 h4
  · exact xc_readE X g hT rfl h3 h2 h4
