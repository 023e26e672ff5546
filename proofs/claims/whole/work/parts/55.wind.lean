set_option maxRecDepth 20000 in
theorem xl_wind {X : sp_X} {ac : sp_Ac} {g : sp_G} {n dm q R0 : Nat} {K T P : Nat → Int32} {Q : Nat → Nat × (Nat → Int32)} (hQ : ∀ t, Q (t + 1) = sp_wn n K T P (Q t)) (hq : dm + q ≤ 60) (hK : sp_KX n K T P g) (hA : sp_Act X 118 8 (sp_Ri (fun x g' => x = nI R0 ∧ sp_wx g g' dm Q R0)) ac) : ∀ (m : Nat) (t : Nat) (gg : sp_G) (w : Nat), t + m = q → sp_wx g gg dm Q t → w = (Q t).1 → w < 2147483647 → sp_oB n (99 + 9 * (dm + t)) (700 * (dm + t)) (Q t).2 → sp_wt (fun t => sp_set n K T (Q t).2) m t = R0 → sp_Ev X ac 118 60 [.ref 0, .int (nI q), .null, .long (nL w), .null, .int (nI t), .null, .null] [] gg := by
  intro m
  induction m with
  | zero =>
    intro t gg w h0_ h1_ h2_ h3_ h4_ h5_
    refine sr_iload hA si_118_60 rfl ?_
    refine sr_iload_n hA si_118_62 rfl ?_
    refine sr_icmp_geN (tgt := 143) hA si_118_63 (by decide) (by omega) (by omega) (fun c1 => ?_) (fun c1 => absurd c1 (by omega))
    refine sr_iload_n hA si_118_143 rfl ?_
    exact sr_iretR hA si_118_144 sq_r_118 ⟨by rw [← h5_]; show nI q = nI t; rw [show q = t by omega], by rw [← h5_]; exact h1_⟩
  | succ m ih =>
    intro t gg w h0_ h1_ h2_ h3_ h4_ h5_
    obtain ⟨hn, hn6, hn3⟩ := id hK
    have hSs : (sp_set n K T (Q t).2) < 64 := sp_set64 hn6
    have hp6 := sp_pc6 _ hSs
    have hKg := h1_.KX hK
    have hvg := h1_.2.2.2.2.1
    by_cases h0 : (sp_set n K T (Q t).2) = 0
    · have hz0 := (sp_pc0 _ hSs).mpr h0
      refine sr_iload hA si_118_60 rfl ?_
      refine sr_iload_n hA si_118_62 rfl ?_
      refine sr_icmp_geN (tgt := 143) hA si_118_63 (by decide) (by omega) (by omega) (fun c1 => absurd c1 (by omega)) (fun c1 => ?_)
      refine sr_aload_n hA si_118_66 rfl ?_
      refine sr_getR (r := 18) hA si_118_67 sf_118_32 (by decide) (by decide) rfl rfl rfl ?_
      refine sr_aload_n hA si_118_70 rfl ?_
      refine sr_getR (r := 41) hA si_118_71 sf_118_36 (by decide) (by decide) rfl rfl rfl ?_
      refine sr_VFi (c := 18) (ci := 0) (as := [.ref 41]) (st := []) hA si_118_74 sv_50 sk_118_175 (xa_playable X gg (v := (Q t).2) sp_sd41 hKg hvg) (by omega) rfl (by decide) (by decide) rfl sq_c_50 rfl (Nat.le_of_ble_eq_true rfl) ?_
      refine sr_istore (ls1 := [.ref 0, .int (nI q), .null, .long (nL w), .null, .int (nI t), .int (nI (sp_set n K T (Q t).2)), .null]) hA si_118_77 (by rw [sq_l_118]; decide) rfl ?_
      refine sr_iload hA si_118_79 rfl ?_
      refine sr_SFi (as := [.int (nI (sp_set n K T (Q t).2))]) (st := []) hA si_118_81 ss_51 sk_118_179 (xc_bitCount X gg hSs) (by omega) rfl rfl (Nat.le_of_ble_eq_true rfl) ?_
      refine sr_istore (ls1 := [.ref 0, .int (nI q), .null, .long (nL w), .null, .int (nI t), .int (nI (sp_set n K T (Q t).2)), .int (nI (sp_pc (sp_set n K T (Q t).2)))]) hA si_118_84 (by rw [sq_l_118]; decide) rfl ?_
      refine sr_iload hA si_118_86 rfl ?_
      refine sr_if_neN (tgt := 94) hA si_118_88 (by decide) (by omega) (fun c2 => absurd c2 (by omega)) (fun c2 => ?_)
      refine sr_iload hA si_118_91 rfl ?_
      have e9 : sp_wt (fun t => sp_set n K T (Q t).2) (m + 1) t = t := if_pos h0
      rw [e9] at h5_
      exact sr_iretR hA si_118_93 sq_r_118 ⟨by rw [← h5_], by rw [← h5_]; exact h1_⟩
    · have hpc : sp_pc (sp_set n K T (Q t).2) ≠ 0 := fun e => h0 ((sp_pc0 _ hSs).mp e)
      have hrk : (w * 48271 % 2147483647) % sp_pc (sp_set n K T (Q t).2) < sp_pc (sp_set n K T (Q t).2) := Nat.mod_lt _ (by omega)
      have hw2 : (w * 48271 % 2147483647) < 2147483647 := Nat.mod_lt _ (by omega)
      obtain ⟨hb6, hbit⟩ := sp_bb_in (sp_set n K T (Q t).2) 6 0 ((w * 48271 % 2147483647) % sp_pc (sp_set n K T (Q t).2)) (by rw [sp_rc_pc _ hSs]; exact hrk)
      rw [sp_set_bit] at hbit
      have hbn : sp_bb (sp_set n K T (Q t).2) 6 0 ((w * 48271 % 2147483647) % sp_pc (sp_set n K T (Q t).2)) < n := by
        by_cases e : sp_bb (sp_set n K T (Q t).2) 6 0 ((w * 48271 % 2147483647) % sp_pc (sp_set n K T (Q t).2)) < n
        · exact e
        · rw [if_neg (fun z => e z.1)] at hbit; exact absurd hbit (by decide)
      have hQ1 : (Q (t + 1)).1 = (w * 48271 % 2147483647) := by rw [hQ, h2_]; rfl
      have hQ2 : (Q (t + 1)).2 = sp_pl n K P (Q t).2 (sp_bb (sp_set n K T (Q t).2) 6 0 ((w * 48271 % 2147483647) % sp_pc (sp_set n K T (Q t).2))) := by rw [hQ, h2_]; rfl
      obtain ⟨aa, eaa⟩ : ∃ z, z = sp_bb (sp_set n K T (Q t).2) 6 0 ((w * 48271 % 2147483647) % sp_pc (sp_set n K T (Q t).2)) := ⟨_, rfl⟩
      rw [← eaa] at hbn hQ2 hb6
      refine sr_iload hA si_118_60 rfl ?_
      refine sr_iload_n hA si_118_62 rfl ?_
      refine sr_icmp_geN (tgt := 143) hA si_118_63 (by decide) (by omega) (by omega) (fun c1 => absurd c1 (by omega)) (fun c1 => ?_)
      refine sr_aload_n hA si_118_66 rfl ?_
      refine sr_getR (r := 18) hA si_118_67 sf_118_32 (by decide) (by decide) rfl rfl rfl ?_
      refine sr_aload_n hA si_118_70 rfl ?_
      refine sr_getR (r := 41) hA si_118_71 sf_118_36 (by decide) (by decide) rfl rfl rfl ?_
      refine sr_VFi (c := 18) (ci := 0) (as := [.ref 41]) (st := []) hA si_118_74 sv_50 sk_118_175 (xa_playable X gg (v := (Q t).2) sp_sd41 hKg hvg) (by omega) rfl (by decide) (by decide) rfl sq_c_50 rfl (Nat.le_of_ble_eq_true rfl) ?_
      refine sr_istore (ls1 := [.ref 0, .int (nI q), .null, .long (nL w), .null, .int (nI t), .int (nI (sp_set n K T (Q t).2)), .null]) hA si_118_77 (by rw [sq_l_118]; decide) rfl ?_
      refine sr_iload hA si_118_79 rfl ?_
      refine sr_SFi (as := [.int (nI (sp_set n K T (Q t).2))]) (st := []) hA si_118_81 ss_51 sk_118_179 (xc_bitCount X gg hSs) (by omega) rfl rfl (Nat.le_of_ble_eq_true rfl) ?_
      refine sr_istore (ls1 := [.ref 0, .int (nI q), .null, .long (nL w), .null, .int (nI t), .int (nI (sp_set n K T (Q t).2)), .int (nI (sp_pc (sp_set n K T (Q t).2)))]) hA si_118_84 (by rw [sq_l_118]; decide) rfl ?_
      refine sr_iload hA si_118_86 rfl ?_
      refine sr_if_neN (tgt := 94) hA si_118_88 (by decide) (by omega) (fun c2 => ?_) (fun c2 => absurd c2 (by omega))
      refine sr_lload_n hA si_118_94 rfl ?_
      refine sr_ldc2 hA si_118_95 sc_118_288 ?_
      refine sr_lmul hA si_118_98 ?_
      refine sr_ldc2 hA si_118_99 sc_118_286 ?_
      refine sr_lrem hA si_118_102 (by decide) ?_
      rw [sp_lotE h3_]
      refine sr_lstore_n (ls1 := [.ref 0, .int (nI q), .null, .long (nL (w * 48271 % 2147483647)), .null, .int (nI t), .int (nI (sp_set n K T (Q t).2)), .int (nI (sp_pc (sp_set n K T (Q t).2)))]) hA si_118_103 rfl (by rw [sq_l_118]; decide) rfl ?_
      refine sr_aload_n hA si_118_104 rfl ?_
      refine sr_getR (r := 18) hA si_118_105 sf_118_32 (by decide) (by decide) rfl rfl rfl ?_
      refine sr_iload hA si_118_108 rfl ?_
      refine sr_lload_n hA si_118_110 rfl ?_
      refine sr_iload hA si_118_111 rfl ?_
      refine sr_i2l hA si_118_113 ?_
      refine sr_lrem hA si_118_114 (by rw [nL_i (by omega)]; exact nL_ne (by omega) hpc) ?_
      rw [sp_rkL (by omega) (by omega)]
      refine sr_l2i hA si_118_115 ?_
      rw [nL_32 (by omega)]
      refine sr_SFi (as := [.int (nI (sp_set n K T (Q t).2)), .int (nI ((w * 48271 % 2147483647) % sp_pc (sp_set n K T (Q t).2)))]) (st := [.ref 18]) hA si_118_116 ss_119 sk_118_290 (xc_bitAt X gg (s := sp_set n K T (Q t).2) hSs hrk) (by omega) rfl rfl (Nat.le_of_ble_eq_true rfl) ?_
      rw [← eaa]
      refine sr_aload_n hA si_118_119 rfl ?_
      refine sr_getR (r := 41) hA si_118_120 sf_118_36 (by decide) (by decide) rfl rfl rfl ?_
      refine sr_VRv (c := 18) (ci := 0) (as := [.int (nI aa), .ref 41]) (st := []) hA si_118_123 sv_55 sk_118_192 (xa_sound X gg (v := (Q t).2) sp_sd41 hKg hbn hvg h4_ (by omega)) (by omega) rfl (by decide) (by decide) rfl sq_c_55 rfl (Nat.le_of_ble_eq_true rfl) (fun g1 q1 => ?_)
      refine sr_aload_n hA si_118_126 rfl ?_
      refine sr_getR (r := 47) hA si_118_127 sf_118_49 (by decide) (by decide) rfl rfl rfl ?_
      refine sr_aload_n hA si_118_130 rfl ?_
      refine sr_getR (r := 41) hA si_118_131 sf_118_36 (by decide) (by decide) rfl rfl rfl ?_
      refine sr_VFv (c := 47) (ci := 6) (as := [.ref 41]) (st := []) hA si_118_134 sv_58 sk_118_196 (xc_add X g1 (dm := dm + t) (by rw [q1.1.1 47 (by decide) (by decide)]; exact h1_.2.2.2.1) (by omega)) (by omega) rfl (by decide) (by decide) rfl sq_c_58 rfl (Nat.le_of_ble_eq_true rfl) ?_
      refine sr_iincN (x := t) (y := 1) (ls1 := [.ref 0, .int (nI q), .null, .long (nL (w * 48271 % 2147483647)), .null, .int (nI (t + 1)), .int (nI (sp_set n K T (Q t).2)), .int (nI (sp_pc (sp_set n K T (Q t).2)))]) hA si_118_137 rfl rfl (by rw [sq_l_118]; decide) rfl ?_
      refine sr_goto (tgt := 60) hA si_118_140 (by decide) ?_
      refine sr_fg (ls1 := [.ref 0, .int (nI q), .null, .long (nL (w * 48271 % 2147483647)), .null, .int (nI (t + 1)), .null, .null]) ⟨Or.inr rfl, Or.inr rfl, Or.inl rfl, Or.inr rfl, Or.inl rfl, Or.inr rfl, Or.inl rfl, Or.inl rfl, trivial⟩ ?_
      have e9 : sp_wt (fun t => sp_set n K T (Q t).2) (m + 1) t = sp_wt (fun t => sp_set n K T (Q t).2) m (t + 1) := if_neg h0
      rw [e9] at h5_
      exact ih (t + 1) _ (w * 48271 % 2147483647) (by omega) (h1_.step q1.1 (by rw [hQ2]; exact q1.2)) hQ1.symm hw2 (by rw [hQ2]; exact sp_oB.le (sp_oB.pl h4_ hn6 hbn (by omega) (by omega)) (by omega) (by omega)) h5_
set_option maxRecDepth 20000 in
theorem ml_wind {X : sp_X} {ac : sp_Ac} {g : sp_G} {n dm q R0 : Nat} {K T P : Nat → Int32} {Q : Nat → Nat × (Nat → Int32)} (hQ : ∀ t, Q (t + 1) = sp_wn n K T P (Q t)) (hq : dm + q ≤ 60) (hK : sp_KM n K T P g) (hA : sp_Act X 221 8 (sp_Ri (fun x g' => x = nI R0 ∧ sp_wm g g' dm Q R0)) ac) : ∀ (m : Nat) (t : Nat) (gg : sp_G) (w : Nat), t + m = q → sp_wm g gg dm Q t → w = (Q t).1 → w < 2147483647 → sp_oB n (99 + 9 * (dm + t)) (700 * (dm + t)) (Q t).2 → sp_wt (fun t => sp_set n K T (Q t).2) m t = R0 → sp_Ev X ac 221 53 [.ref 64, .int (nI q), .null, .long (nL w), .null, .int (nI t), .null, .null, .null] [] gg := by
  intro m
  induction m with
  | zero =>
    intro t gg w h0_ h1_ h2_ h3_ h4_ h5_
    refine sr_iload hA si_221_53 rfl ?_
    refine sr_iload_n hA si_221_55 rfl ?_
    refine sr_icmp_geN (tgt := 156) hA si_221_56 (by decide) (by omega) (by omega) (fun c1 => ?_) (fun c1 => absurd c1 (by omega))
    refine sr_iload hA si_221_156 rfl ?_
    exact sr_iretR hA si_221_158 sq_r_221 ⟨by rw [← h5_]; rfl, by rw [← h5_]; exact h1_⟩
  | succ m ih =>
    intro t gg w h0_ h1_ h2_ h3_ h4_ h5_
    obtain ⟨hn, hn6, hn3⟩ := id hK
    have hSs : (sp_set n K T (Q t).2) < 64 := sp_set64 hn6
    have hp6 := sp_pc6 _ hSs
    have hKg := h1_.KM hK
    have hvg := h1_.2.2.2.2.1
    by_cases h0 : (sp_set n K T (Q t).2) = 0
    · refine sr_iload hA si_221_53 rfl ?_
      refine sr_iload_n hA si_221_55 rfl ?_
      refine sr_icmp_geN (tgt := 156) hA si_221_56 (by decide) (by omega) (by omega) (fun c1 => absurd c1 (by omega)) (fun c1 => ?_)
      refine sr_aload_n hA si_221_59 rfl ?_
      refine sr_iconst (v := nI 0) hA si_221_60 (by decide) ?_
      refine sr_VFi (c := 64) (ci := 8) (as := [.int (nI 0)]) (st := []) hA si_221_61 sv_170 sk_221_183 (ma_canSet X gg (f := 0) (v := (Q t).2) (by omega) hKg hvg) (by omega) rfl (by decide) (by decide) rfl sq_c_170 rfl (Nat.le_of_ble_eq_true rfl) ?_
      refine sr_if_eqN (tgt := 156) hA si_221_64 (by decide) (by omega) (fun c2 => ?_) (fun c2 => absurd c2 (by omega))
      refine sr_iload hA si_221_156 rfl ?_
      have e9 : sp_wt (fun t => sp_set n K T (Q t).2) (m + 1) t = t := if_pos h0
      rw [e9] at h5_
      exact sr_iretR hA si_221_158 sq_r_221 ⟨by rw [← h5_], by rw [← h5_]; exact h1_⟩
    · have hpc : sp_pc (sp_set n K T (Q t).2) ≠ 0 := fun e => h0 ((sp_pc0 _ hSs).mp e)
      have hrk : (w * 48271 % 2147483647) % sp_pc (sp_set n K T (Q t).2) < sp_pc (sp_set n K T (Q t).2) := Nat.mod_lt _ (by omega)
      have hw2 : (w * 48271 % 2147483647) < 2147483647 := Nat.mod_lt _ (by omega)
      obtain ⟨hb6, hbit⟩ := sp_bb_in (sp_set n K T (Q t).2) 6 0 ((w * 48271 % 2147483647) % sp_pc (sp_set n K T (Q t).2)) (by rw [sp_rc_pc _ hSs]; exact hrk)
      rw [sp_set_bit] at hbit
      have hbn : sp_bb (sp_set n K T (Q t).2) 6 0 ((w * 48271 % 2147483647) % sp_pc (sp_set n K T (Q t).2)) < n := by
        by_cases e : sp_bb (sp_set n K T (Q t).2) 6 0 ((w * 48271 % 2147483647) % sp_pc (sp_set n K T (Q t).2)) < n
        · exact e
        · rw [if_neg (fun z => e z.1)] at hbit; exact absurd hbit (by decide)
      have hQ1 : (Q (t + 1)).1 = (w * 48271 % 2147483647) := by rw [hQ, h2_]; rfl
      have hQ2 : (Q (t + 1)).2 = sp_pl n K P (Q t).2 (sp_bb (sp_set n K T (Q t).2) 6 0 ((w * 48271 % 2147483647) % sp_pc (sp_set n K T (Q t).2))) := by rw [hQ, h2_]; rfl
      obtain ⟨aa, eaa⟩ : ∃ z, z = sp_bb (sp_set n K T (Q t).2) 6 0 ((w * 48271 % 2147483647) % sp_pc (sp_set n K T (Q t).2)) := ⟨_, rfl⟩
      rw [← eaa] at hbn hQ2 hb6
      refine sr_iload hA si_221_53 rfl ?_
      refine sr_iload_n hA si_221_55 rfl ?_
      refine sr_icmp_geN (tgt := 156) hA si_221_56 (by decide) (by omega) (by omega) (fun c1 => absurd c1 (by omega)) (fun c1 => ?_)
      refine sr_aload_n hA si_221_59 rfl ?_
      refine sr_iconst (v := nI 0) hA si_221_60 (by decide) ?_
      refine sr_VFi (c := 64) (ci := 8) (as := [.int (nI 0)]) (st := []) hA si_221_61 sv_170 sk_221_183 (ma_canSet X gg (f := 0) (v := (Q t).2) (by omega) hKg hvg) (by omega) rfl (by decide) (by decide) rfl sq_c_170 rfl (Nat.le_of_ble_eq_true rfl) ?_
      refine sr_if_eqN (tgt := 156) hA si_221_64 (by decide) (by omega) (fun c2 => absurd c2 (by omega)) (fun c2 => ?_)
      refine sr_ldc2 hA si_221_67 sc_221_282 ?_
      refine sr_lload_n hA si_221_70 rfl ?_
      refine sr_lmul hA si_221_71 ?_
      refine sr_ldc2 hA si_221_72 sc_221_284 ?_
      refine sr_lrem hA si_221_75 (by decide) ?_
      rw [sp_lotE2 h3_]
      refine sr_lstore_n (ls1 := [.ref 64, .int (nI q), .null, .long (nL (w * 48271 % 2147483647)), .null, .int (nI t), .null, .null, .null]) hA si_221_76 rfl (by rw [sq_l_221]; decide) rfl ?_
      refine sr_aload_n hA si_221_77 rfl ?_
      refine sr_iconst (v := nI 0) hA si_221_78 (by decide) ?_
      refine sr_VFi (c := 64) (ci := 8) (as := [.int (nI 0)]) (st := []) hA si_221_79 sv_170 sk_221_183 (ma_canSet X gg (f := 0) (v := (Q t).2) (by omega) hKg hvg) (by omega) rfl (by decide) (by decide) rfl sq_c_170 rfl (Nat.le_of_ble_eq_true rfl) ?_
      refine sr_istore (ls1 := [.ref 64, .int (nI q), .null, .long (nL (w * 48271 % 2147483647)), .null, .int (nI t), .int (nI (sp_set n K T (Q t).2)), .null, .null]) hA si_221_82 (by rw [sq_l_221]; decide) rfl ?_
      refine sr_lload_n hA si_221_84 rfl ?_
      refine sr_iload hA si_221_85 rfl ?_
      refine sr_SFi (as := [.int (nI (sp_set n K T (Q t).2))]) (st := [.long (nL (w * 48271 % 2147483647))]) hA si_221_87 ss_171 sk_221_186 (mc_bits X gg hSs) (by omega) rfl rfl (Nat.le_of_ble_eq_true rfl) ?_
      refine sr_i2l hA si_221_90 ?_
      refine sr_lrem hA si_221_91 (by rw [nL_i (by omega)]; exact nL_ne (by omega) hpc) ?_
      rw [sp_rkL (by omega) (by omega)]
      refine sr_l2i hA si_221_92 ?_
      rw [nL_32 (by omega)]
      refine sr_istore (ls1 := [.ref 64, .int (nI q), .null, .long (nL (w * 48271 % 2147483647)), .null, .int (nI t), .int (nI (sp_set n K T (Q t).2)), .int (nI ((w * 48271 % 2147483647) % sp_pc (sp_set n K T (Q t).2))), .null]) hA si_221_93 (by rw [sq_l_221]; decide) rfl ?_
      refine sr_iconst (v := nI 0) hA si_221_95 (by decide) ?_
      refine sr_istore (ls1 := [.ref 64, .int (nI q), .null, .long (nL (w * 48271 % 2147483647)), .null, .int (nI t), .int (nI (sp_set n K T (Q t).2)), .int (nI ((w * 48271 % 2147483647) % sp_pc (sp_set n K T (Q t).2))), .int (nI 0)]) hA si_221_96 (by rw [sq_l_221]; decide) rfl ?_
      refine ml_bb (R0 := aa) hSs (by omega) ?_ hA 6 0 _ rfl (by rw [sp_rc_pc _ hSs]; exact hrk) eaa.symm
      refine sr_aload_n hA si_221_139 rfl ?_
      refine sr_VFv (c := 64) (ci := 8) (as := []) (st := []) hA si_221_140 sv_174 sk_221_189 (mc_remember X gg (dm := dm + t) h1_.2.2.2.1 (by omega)) (by omega) rfl (by decide) (by decide) rfl sq_c_174 rfl (Nat.le_of_ble_eq_true rfl) ?_
      refine sr_aload_n hA si_221_143 rfl ?_
      refine sr_iconst (v := nI 0) hA si_221_144 (by decide) ?_
      refine sr_iload hA si_221_145 rfl ?_
      refine sr_VRv (c := 64) (ci := 8) (as := [.int (nI 0), .int (nI aa)]) (st := []) hA si_221_147 sv_175 sk_221_192 (ma_plays X (sp_wI (sp_sG gg 76 (dm + t) (gg.1 75)) 64 21 (nI (dm + t + 1))) (f := 0) (i := aa) (v := (Q t).2) (by omega) (sp_KM.rem hKg) hbn hvg) (by omega) rfl (by decide) (by decide) rfl sq_c_175 rfl (Nat.le_of_ble_eq_true rfl) (fun g1 q1 => ?_)
      refine sr_iincN (x := t) (y := 1) (ls1 := [.ref 64, .int (nI q), .null, .long (nL (w * 48271 % 2147483647)), .null, .int (nI (t + 1)), .null, .null, .int (nI aa)]) hA si_221_150 rfl rfl (by rw [sq_l_221]; decide) rfl ?_
      refine sr_goto (tgt := 53) hA si_221_153 (by decide) ?_
      refine sr_fg (ls1 := [.ref 64, .int (nI q), .null, .long (nL (w * 48271 % 2147483647)), .null, .int (nI (t + 1)), .null, .null, .null]) ⟨Or.inr rfl, Or.inr rfl, Or.inl rfl, Or.inr rfl, Or.inl rfl, Or.inr rfl, Or.inl rfl, Or.inl rfl, Or.inl rfl, trivial⟩ ?_
      have e9 : sp_wt (fun t => sp_set n K T (Q t).2) (m + 1) t = sp_wt (fun t => sp_set n K T (Q t).2) m (t + 1) := if_neg h0
      rw [e9] at h5_
      exact ih (t + 1) _ (w * 48271 % 2147483647) (by omega) (h1_.step q1.1 (by rw [hQ2]; exact q1.2)) hQ1.symm hw2 (by rw [hQ2]; exact sp_oB.le (sp_oB.pl h4_ hn6 hbn (by omega) (by omega)) (by omega) (by omega)) h5_
set_option maxRecDepth 20000 in
theorem xc_wind_a (X : sp_X) (g : sp_G) {q : Int32} (hq : q < 0) (s : Int32) : sp_Ct X 9 118 [.ref 0, .int q, .int s] g (sp_Fi (-1) g) := by
  refine sp_walkN (n := 8) sq_p_118 sq_l_118 (Nat.le_of_ble_eq_true rfl) (fun a hA => ?_)
  show sp_Ev X a 118 0 [.ref 0, .int q, .int s, .null, .null, .null, .null, .null] [] g
  refine sr_iload_n hA si_118_0 rfl ?_
  refine sr_iconst (v := nI 1) hA si_118_1 (by decide) ?_
  refine sr_icmp_lt (tgt := 25) hA si_118_2 (by decide) (fun c1 => ?_) (fun c1 => absurd (sp_n1 hq (by omega)) c1)
  refine sr_iconst (v := (-1)) hA si_118_25 (by decide) ?_
  exact sr_iretF hA si_118_26 sq_r_118 rfl rfl
set_option maxRecDepth 20000 in
theorem xc_wind_a0 (X : sp_X) (g : sp_G) (s : Int32) : sp_Ct X 9 118 [.ref 0, .int (nI 0), .int s] g (sp_Fi (-1) g) := by
  refine sp_walkN (n := 8) sq_p_118 sq_l_118 (Nat.le_of_ble_eq_true rfl) (fun a hA => ?_)
  show sp_Ev X a 118 0 [.ref 0, .int (nI 0), .int s, .null, .null, .null, .null, .null] [] g
  refine sr_iload_n hA si_118_0 rfl ?_
  refine sr_iconst (v := nI 1) hA si_118_1 (by decide) ?_
  refine sr_icmp_ltN (tgt := 25) hA si_118_2 (by decide) (by omega) (by omega) (fun c1 => ?_) (fun c1 => absurd c1 (by omega))
  refine sr_iconst (v := (-1)) hA si_118_25 (by decide) ?_
  exact sr_iretF hA si_118_26 sq_r_118 rfl rfl
set_option maxRecDepth 20000 in
theorem xc_wind_b (X : sp_X) (g : sp_G) {q : Nat} (hq : 61 ≤ q) (hqb : q < 2 ^ 31) (s : Int32) : sp_Ct X 9 118 [.ref 0, .int (nI q), .int s] g (sp_Fi (-1) g) := by
  refine sp_walkN (n := 8) sq_p_118 sq_l_118 (Nat.le_of_ble_eq_true rfl) (fun a hA => ?_)
  show sp_Ev X a 118 0 [.ref 0, .int (nI q), .int s, .null, .null, .null, .null, .null] [] g
  refine sr_iload_n hA si_118_0 rfl ?_
  refine sr_iconst (v := nI 1) hA si_118_1 (by decide) ?_
  refine sr_icmp_ltN (tgt := 25) hA si_118_2 (by decide) (by omega) (by omega) (fun c1 => absurd c1 (by omega)) (fun c1 => ?_)
  refine sr_iload_n hA si_118_5 rfl ?_
  refine sr_bipush (v := nI 60) hA si_118_6 (by decide) ?_
  refine sr_icmp_gtN (tgt := 25) hA si_118_8 (by decide) (by omega) (by omega) (fun c2 => ?_) (fun c2 => absurd c2 (by omega))
  refine sr_iconst (v := (-1)) hA si_118_25 (by decide) ?_
  exact sr_iretF hA si_118_26 sq_r_118 rfl rfl
set_option maxRecDepth 20000 in
theorem xc_wind_c (X : sp_X) (g : sp_G) {q : Nat} (hq1 : 1 ≤ q) (hq60 : q ≤ 60) {s : Int32} (hs : s < 0) : sp_Ct X 9 118 [.ref 0, .int (nI q), .int s] g (sp_Fi (-1) g) := by
  refine sp_walkN (n := 8) sq_p_118 sq_l_118 (Nat.le_of_ble_eq_true rfl) (fun a hA => ?_)
  show sp_Ev X a 118 0 [.ref 0, .int (nI q), .int s, .null, .null, .null, .null, .null] [] g
  refine sr_iload_n hA si_118_0 rfl ?_
  refine sr_iconst (v := nI 1) hA si_118_1 (by decide) ?_
  refine sr_icmp_ltN (tgt := 25) hA si_118_2 (by decide) (by omega) (by omega) (fun c1 => absurd c1 (by omega)) (fun c1 => ?_)
  refine sr_iload_n hA si_118_5 rfl ?_
  refine sr_bipush (v := nI 60) hA si_118_6 (by decide) ?_
  refine sr_icmp_gtN (tgt := 25) hA si_118_8 (by decide) (by omega) (by omega) (fun c2 => absurd c2 (by omega)) (fun c2 => ?_)
  refine sr_iload_n hA si_118_11 rfl ?_
  refine sr_iconst (v := nI 1) hA si_118_12 (by decide) ?_
  refine sr_icmp_lt (tgt := 25) hA si_118_13 (by decide) (fun c3 => ?_) (fun c3 => absurd (sp_n1 hs (by omega)) c3)
  refine sr_iconst (v := (-1)) hA si_118_25 (by decide) ?_
  exact sr_iretF hA si_118_26 sq_r_118 rfl rfl
set_option maxRecDepth 20000 in
theorem xc_wind_c0 (X : sp_X) (g : sp_G) {q : Nat} (hq1 : 1 ≤ q) (hq60 : q ≤ 60) : sp_Ct X 9 118 [.ref 0, .int (nI q), .int (nI 0)] g (sp_Fi (-1) g) := by
  refine sp_walkN (n := 8) sq_p_118 sq_l_118 (Nat.le_of_ble_eq_true rfl) (fun a hA => ?_)
  show sp_Ev X a 118 0 [.ref 0, .int (nI q), .int (nI 0), .null, .null, .null, .null, .null] [] g
  refine sr_iload_n hA si_118_0 rfl ?_
  refine sr_iconst (v := nI 1) hA si_118_1 (by decide) ?_
  refine sr_icmp_ltN (tgt := 25) hA si_118_2 (by decide) (by omega) (by omega) (fun c1 => absurd c1 (by omega)) (fun c1 => ?_)
  refine sr_iload_n hA si_118_5 rfl ?_
  refine sr_bipush (v := nI 60) hA si_118_6 (by decide) ?_
  refine sr_icmp_gtN (tgt := 25) hA si_118_8 (by decide) (by omega) (by omega) (fun c2 => absurd c2 (by omega)) (fun c2 => ?_)
  refine sr_iload_n hA si_118_11 rfl ?_
  refine sr_iconst (v := nI 1) hA si_118_12 (by decide) ?_
  refine sr_icmp_ltN (tgt := 25) hA si_118_13 (by decide) (by omega) (by omega) (fun c3 => ?_) (fun c3 => absurd c3 (by omega))
  refine sr_iconst (v := (-1)) hA si_118_25 (by decide) ?_
  exact sr_iretF hA si_118_26 sq_r_118 rfl rfl
set_option maxRecDepth 20000 in
theorem xc_wind_d (X : sp_X) (g : sp_G) {q : Nat} (hq1 : 1 ≤ q) (hq60 : q ≤ 60) : sp_Ct X 9 118 [.ref 0, .int (nI q), .int (nI 2147483647)] g (sp_Fi (-1) g) := by
  refine sp_walkN (n := 8) sq_p_118 sq_l_118 (Nat.le_of_ble_eq_true rfl) (fun a hA => ?_)
  show sp_Ev X a 118 0 [.ref 0, .int (nI q), .int (nI 2147483647), .null, .null, .null, .null, .null] [] g
  refine sr_iload_n hA si_118_0 rfl ?_
  refine sr_iconst (v := nI 1) hA si_118_1 (by decide) ?_
  refine sr_icmp_ltN (tgt := 25) hA si_118_2 (by decide) (by omega) (by omega) (fun c1 => absurd c1 (by omega)) (fun c1 => ?_)
  refine sr_iload_n hA si_118_5 rfl ?_
  refine sr_bipush (v := nI 60) hA si_118_6 (by decide) ?_
  refine sr_icmp_gtN (tgt := 25) hA si_118_8 (by decide) (by omega) (by omega) (fun c2 => absurd c2 (by omega)) (fun c2 => ?_)
  refine sr_iload_n hA si_118_11 rfl ?_
  refine sr_iconst (v := nI 1) hA si_118_12 (by decide) ?_
  refine sr_icmp_ltN (tgt := 25) hA si_118_13 (by decide) (by omega) (by omega) (fun c3 => absurd c3 (by omega)) (fun c3 => ?_)
  refine sr_iload_n hA si_118_16 rfl ?_
  refine sr_i2l hA si_118_17 ?_
  refine sr_ldc2 hA si_118_18 sc_118_286 ?_
  refine sr_lcmp hA si_118_21 ?_
  refine sr_if_lt (tgt := 27) hA si_118_22 (by decide) (fun c4 => absurd c4 sp_lcm0) (fun c4 => ?_)
  refine sr_iconst (v := (-1)) hA si_118_25 (by decide) ?_
  exact sr_iretF hA si_118_26 sq_r_118 rfl rfl
set_option maxRecDepth 20000 in
theorem xc_wind_s (X : sp_X) (g : sp_G) {q : Nat} (hq1 : 1 ≤ q) (hq60 : q ≤ 60) {s : Nat} (hs1 : 1 ≤ s) (hs : s < 2147483647) (hn : g.1 18 3 = nI 0) : sp_Ct X 9 118 [.ref 0, .int (nI q), .int (nI s)] g (sp_Fi (-4) g) := by
  refine sp_walkN (n := 8) sq_p_118 sq_l_118 (Nat.le_of_ble_eq_true rfl) (fun a hA => ?_)
  show sp_Ev X a 118 0 [.ref 0, .int (nI q), .int (nI s), .null, .null, .null, .null, .null] [] g
  refine sr_iload_n hA si_118_0 rfl ?_
  refine sr_iconst (v := nI 1) hA si_118_1 (by decide) ?_
  refine sr_icmp_ltN (tgt := 25) hA si_118_2 (by decide) (by omega) (by omega) (fun c1 => absurd c1 (by omega)) (fun c1 => ?_)
  refine sr_iload_n hA si_118_5 rfl ?_
  refine sr_bipush (v := nI 60) hA si_118_6 (by decide) ?_
  refine sr_icmp_gtN (tgt := 25) hA si_118_8 (by decide) (by omega) (by omega) (fun c2 => absurd c2 (by omega)) (fun c2 => ?_)
  refine sr_iload_n hA si_118_11 rfl ?_
  refine sr_iconst (v := nI 1) hA si_118_12 (by decide) ?_
  refine sr_icmp_ltN (tgt := 25) hA si_118_13 (by decide) (by omega) (by omega) (fun c3 => absurd c3 (by omega)) (fun c3 => ?_)
  refine sr_iload_n hA si_118_16 rfl ?_
  refine sr_i2l hA si_118_17 ?_
  refine sr_ldc2 hA si_118_18 sc_118_286 ?_
  refine sr_lcmp hA si_118_21 ?_
  refine sr_if_lt (tgt := 27) hA si_118_22 (by decide) (fun c4 => ?_) (fun c4 => absurd (sp_lcm1 (by omega)) c4)
  refine sr_aload_n hA si_118_27 rfl ?_
  refine sr_getR (r := 18) hA si_118_28 sf_118_32 (by decide) (by decide) rfl rfl rfl ?_
  refine sr_getIv (v := nI 0) hA si_118_31 sf_118_145 (by decide) (by decide) rfl (by decide) hn ?_
  refine sr_if_neN (tgt := 40) hA si_118_34 (by decide) (by omega) (fun c5 => absurd c5 (by omega)) (fun c5 => ?_)
  refine sr_bipush (v := (-4)) hA si_118_37 (by decide) ?_
  exact sr_iretF hA si_118_39 sq_r_118 rfl rfl
set_option maxRecDepth 20000 in
theorem xc_wind_f (X : sp_X) (g : sp_G) {q : Nat} (hq1 : 1 ≤ q) (hq60 : q ≤ 60) {s : Nat} (hs1 : 1 ≤ s) (hs : s < 2147483647) {n dm : Nat} (hn : g.1 18 3 = nI n) (hn0 : 0 < n) (hb : n ≤ 6) (hd : g.1 47 1 = nI dm) (hdb : dm ≤ 60) (hf : 60 < dm + q) : sp_Ct X 9 118 [.ref 0, .int (nI q), .int (nI s)] g (sp_Fi (-2) g) := by
  refine sp_walkN (n := 8) sq_p_118 sq_l_118 (Nat.le_of_ble_eq_true rfl) (fun a hA => ?_)
  show sp_Ev X a 118 0 [.ref 0, .int (nI q), .int (nI s), .null, .null, .null, .null, .null] [] g
  refine sr_iload_n hA si_118_0 rfl ?_
  refine sr_iconst (v := nI 1) hA si_118_1 (by decide) ?_
  refine sr_icmp_ltN (tgt := 25) hA si_118_2 (by decide) (by omega) (by omega) (fun c1 => absurd c1 (by omega)) (fun c1 => ?_)
  refine sr_iload_n hA si_118_5 rfl ?_
  refine sr_bipush (v := nI 60) hA si_118_6 (by decide) ?_
  refine sr_icmp_gtN (tgt := 25) hA si_118_8 (by decide) (by omega) (by omega) (fun c2 => absurd c2 (by omega)) (fun c2 => ?_)
  refine sr_iload_n hA si_118_11 rfl ?_
  refine sr_iconst (v := nI 1) hA si_118_12 (by decide) ?_
  refine sr_icmp_ltN (tgt := 25) hA si_118_13 (by decide) (by omega) (by omega) (fun c3 => absurd c3 (by omega)) (fun c3 => ?_)
  refine sr_iload_n hA si_118_16 rfl ?_
  refine sr_i2l hA si_118_17 ?_
  refine sr_ldc2 hA si_118_18 sc_118_286 ?_
  refine sr_lcmp hA si_118_21 ?_
  refine sr_if_lt (tgt := 27) hA si_118_22 (by decide) (fun c4 => ?_) (fun c4 => absurd (sp_lcm1 (by omega)) c4)
  refine sr_aload_n hA si_118_27 rfl ?_
  refine sr_getR (r := 18) hA si_118_28 sf_118_32 (by decide) (by decide) rfl rfl rfl ?_
  refine sr_getIv (v := nI n) hA si_118_31 sf_118_145 (by decide) (by decide) rfl (by decide) hn ?_
  refine sr_if_neN (tgt := 40) hA si_118_34 (by decide) (by omega) (fun c5 => ?_) (fun c5 => absurd c5 (by omega))
  refine sr_aload_n hA si_118_40 rfl ?_
  refine sr_getR (r := 47) hA si_118_41 sf_118_49 (by decide) (by decide) rfl rfl rfl ?_
  refine sr_iload_n hA si_118_44 rfl ?_
  refine sr_VFi (c := 47) (ci := 6) (as := [.int (nI q)]) (st := []) hA si_118_45 sv_54 sk_118_189 (xc_full1 X g hd (by omega) (by omega) (by omega)) (by omega) rfl (by decide) (by decide) rfl sq_c_54 rfl (Nat.le_of_ble_eq_true rfl) ?_
  refine sr_if_eqN (tgt := 54) hA si_118_48 (by decide) (by omega) (fun c6 => absurd c6 (by omega)) (fun c6 => ?_)
  refine sr_bipush (v := (-2)) hA si_118_51 (by decide) ?_
  exact sr_iretF hA si_118_53 sq_r_118 rfl rfl
set_option maxRecDepth 20000 in
theorem xc_wind_e (X : sp_X) (g : sp_G) {q : Nat} (hq1 : 1 ≤ q) (hq60 : q ≤ 60) {s : Nat} (hs1 : 1 ≤ s) (hs : s < 2147483647) {n dm : Nat} (hn : g.1 18 3 = nI n) (hn0 : 0 < n) (hb : n ≤ 6) (hd : g.1 47 1 = nI dm) (hdb : dm ≤ 60) (hf : dm + q ≤ 60) {K T P v : Nat → Int32} (hK : sp_KX n K T P g) (hv : sp_hS g 41 42 v) (hB : sp_oB n (99 + 9 * dm) (700 * dm) v) : sp_Ct X 8 118 [.ref 0, .int (nI q), .int (nI s)] g (sp_Ri (fun x g' => x = nI (sp_wt (fun t => sp_set n K T ((sp_sq n K T P (s, v)) t).2) q 0) ∧ sp_wx g g' dm (sp_sq n K T P (s, v)) (sp_wt (fun t => sp_set n K T ((sp_sq n K T P (s, v)) t).2) q 0))) := by
  refine sp_walkN (n := 8) sq_p_118 sq_l_118 (Nat.le_of_ble_eq_true rfl) (fun ac hA => ?_)
  show sp_Ev X ac 118 0 [.ref 0, .int (nI q), .int (nI s), .null, .null, .null, .null, .null] [] g
  refine sr_iload_n hA si_118_0 rfl ?_
  refine sr_iconst (v := nI 1) hA si_118_1 (by decide) ?_
  refine sr_icmp_ltN (tgt := 25) hA si_118_2 (by decide) (by omega) (by omega) (fun c1 => absurd c1 (by omega)) (fun c1 => ?_)
  refine sr_iload_n hA si_118_5 rfl ?_
  refine sr_bipush (v := nI 60) hA si_118_6 (by decide) ?_
  refine sr_icmp_gtN (tgt := 25) hA si_118_8 (by decide) (by omega) (by omega) (fun c2 => absurd c2 (by omega)) (fun c2 => ?_)
  refine sr_iload_n hA si_118_11 rfl ?_
  refine sr_iconst (v := nI 1) hA si_118_12 (by decide) ?_
  refine sr_icmp_ltN (tgt := 25) hA si_118_13 (by decide) (by omega) (by omega) (fun c3 => absurd c3 (by omega)) (fun c3 => ?_)
  refine sr_iload_n hA si_118_16 rfl ?_
  refine sr_i2l hA si_118_17 ?_
  refine sr_ldc2 hA si_118_18 sc_118_286 ?_
  refine sr_lcmp hA si_118_21 ?_
  refine sr_if_lt (tgt := 27) hA si_118_22 (by decide) (fun c4 => ?_) (fun c4 => absurd (sp_lcm1 (by omega)) c4)
  refine sr_aload_n hA si_118_27 rfl ?_
  refine sr_getR (r := 18) hA si_118_28 sf_118_32 (by decide) (by decide) rfl rfl rfl ?_
  refine sr_getIv (v := nI n) hA si_118_31 sf_118_145 (by decide) (by decide) rfl (by decide) hn ?_
  refine sr_if_neN (tgt := 40) hA si_118_34 (by decide) (by omega) (fun c5 => ?_) (fun c5 => absurd c5 (by omega))
  refine sr_aload_n hA si_118_40 rfl ?_
  refine sr_getR (r := 47) hA si_118_41 sf_118_49 (by decide) (by decide) rfl rfl rfl ?_
  refine sr_iload_n hA si_118_44 rfl ?_
  refine sr_VFi (c := 47) (ci := 6) (as := [.int (nI q)]) (st := []) hA si_118_45 sv_54 sk_118_189 (xc_full0 X g hd (by omega)) (by omega) rfl (by decide) (by decide) rfl sq_c_54 rfl (Nat.le_of_ble_eq_true rfl) ?_
  refine sr_if_eqN (tgt := 54) hA si_118_48 (by decide) (by omega) (fun c6 => ?_) (fun c6 => absurd c6 (by omega))
  refine sr_iload_n hA si_118_54 rfl ?_
  refine sr_i2l hA si_118_55 ?_
  refine sr_lstore_n (ls1 := [.ref 0, .int (nI q), .int (nI s), .long ((nI s).toInt64), .null, .null, .null, .null]) hA si_118_56 rfl (by rw [sq_l_118]; decide) rfl ?_
  refine sr_iconst (v := nI 0) hA si_118_57 (by decide) ?_
  refine sr_istore (ls1 := [.ref 0, .int (nI q), .int (nI s), .long ((nI s).toInt64), .null, .int (nI 0), .null, .null]) hA si_118_58 (by rw [sq_l_118]; decide) rfl ?_
  rw [nL_i (by omega)]
  refine sr_fg (ls1 := [.ref 0, .int (nI q), .null, .long (nL s), .null, .int (nI 0), .null, .null]) ⟨Or.inr rfl, Or.inr rfl, Or.inl rfl, Or.inr rfl, Or.inl rfl, Or.inr rfl, Or.inl rfl, Or.inl rfl, trivial⟩ ?_
  exact xl_wind (Q := (sp_sq n K T P (s, v))) (fun _ => rfl) hf hK hA q 0 g s (by omega) ⟨fun _ _ _ _ _ => rfl, fun _ _ => rfl, rfl, hd, hv, fun _ _ => rfl, fun j h1 h2 => absurd h1 (by omega)⟩ rfl hs (by rw [Nat.add_zero]; exact hB) rfl
set_option maxRecDepth 20000 in
theorem mc_wind_a (X : sp_X) (g : sp_G) {q : Int32} (hq : q < 0) (s : Int32) : sp_Ct X 9 221 [.ref 64, .int q, .int s] g (sp_Fi (-1) g) := by
  refine sp_walkN (n := 9) sq_p_221 sq_l_221 (Nat.le_of_ble_eq_true rfl) (fun a hA => ?_)
  show sp_Ev X a 221 0 [.ref 64, .int q, .int s, .null, .null, .null, .null, .null, .null] [] g
  refine sr_iload_n hA si_221_0 rfl ?_
  refine sr_iconst (v := nI 1) hA si_221_1 (by decide) ?_
  refine sr_bipush (v := nI 60) hA si_221_2 (by decide) ?_
  refine sr_SFi (as := [.int q, .int (nI 1), .int (nI 60)]) (st := []) hA si_221_4 ss_135 sk_221_83 (mc_inM X g hq (by omega)) (by omega) rfl rfl (Nat.le_of_ble_eq_true rfl) ?_
  refine sr_if_eqN (tgt := 21) hA si_221_7 (by decide) (by omega) (fun c1 => ?_) (fun c1 => absurd c1 (by omega))
  refine sr_iconst (v := (-1)) hA si_221_21 (by decide) ?_
  exact sr_iretF hA si_221_22 sq_r_221 rfl rfl
set_option maxRecDepth 20000 in
theorem mc_wind_a0 (X : sp_X) (g : sp_G) (s : Int32) : sp_Ct X 9 221 [.ref 64, .int (nI 0), .int s] g (sp_Fi (-1) g) := by
  refine sp_walkN (n := 9) sq_p_221 sq_l_221 (Nat.le_of_ble_eq_true rfl) (fun a hA => ?_)
  show sp_Ev X a 221 0 [.ref 64, .int (nI 0), .int s, .null, .null, .null, .null, .null, .null] [] g
  refine sr_iload_n hA si_221_0 rfl ?_
  refine sr_iconst (v := nI 1) hA si_221_1 (by decide) ?_
  refine sr_bipush (v := nI 60) hA si_221_2 (by decide) ?_
  refine sr_SFi (as := [.int (nI 0), .int (nI 1), .int (nI 60)]) (st := []) hA si_221_4 ss_135 sk_221_83 (mc_inL X g (by omega) (by omega)) (by omega) rfl rfl (Nat.le_of_ble_eq_true rfl) ?_
  refine sr_if_eqN (tgt := 21) hA si_221_7 (by decide) (by omega) (fun c1 => ?_) (fun c1 => absurd c1 (by omega))
  refine sr_iconst (v := (-1)) hA si_221_21 (by decide) ?_
  exact sr_iretF hA si_221_22 sq_r_221 rfl rfl
set_option maxRecDepth 20000 in
theorem mc_wind_b (X : sp_X) (g : sp_G) {q : Nat} (hq : 61 ≤ q) (hqb : q < 2 ^ 31) (s : Int32) : sp_Ct X 9 221 [.ref 64, .int (nI q), .int s] g (sp_Fi (-1) g) := by
  refine sp_walkN (n := 9) sq_p_221 sq_l_221 (Nat.le_of_ble_eq_true rfl) (fun a hA => ?_)
  show sp_Ev X a 221 0 [.ref 64, .int (nI q), .int s, .null, .null, .null, .null, .null, .null] [] g
  refine sr_iload_n hA si_221_0 rfl ?_
  refine sr_iconst (v := nI 1) hA si_221_1 (by decide) ?_
  refine sr_bipush (v := nI 60) hA si_221_2 (by decide) ?_
  refine sr_SFi (as := [.int (nI q), .int (nI 1), .int (nI 60)]) (st := []) hA si_221_4 ss_135 sk_221_83 (mc_inH X g (by omega) (by omega)) (by omega) rfl rfl (Nat.le_of_ble_eq_true rfl) ?_
  refine sr_if_eqN (tgt := 21) hA si_221_7 (by decide) (by omega) (fun c1 => ?_) (fun c1 => absurd c1 (by omega))
  refine sr_iconst (v := (-1)) hA si_221_21 (by decide) ?_
  exact sr_iretF hA si_221_22 sq_r_221 rfl rfl
set_option maxRecDepth 20000 in
theorem mc_wind_c (X : sp_X) (g : sp_G) {q : Nat} (hq1 : 1 ≤ q) (hq60 : q ≤ 60) {s : Int32} (hs : s < 0) : sp_Ct X 9 221 [.ref 64, .int (nI q), .int s] g (sp_Fi (-1) g) := by
  refine sp_walkN (n := 9) sq_p_221 sq_l_221 (Nat.le_of_ble_eq_true rfl) (fun a hA => ?_)
  show sp_Ev X a 221 0 [.ref 64, .int (nI q), .int s, .null, .null, .null, .null, .null, .null] [] g
  refine sr_iload_n hA si_221_0 rfl ?_
  refine sr_iconst (v := nI 1) hA si_221_1 (by decide) ?_
  refine sr_bipush (v := nI 60) hA si_221_2 (by decide) ?_
  refine sr_SFi (as := [.int (nI q), .int (nI 1), .int (nI 60)]) (st := []) hA si_221_4 ss_135 sk_221_83 (mc_inN X g (by omega) (by omega) (by omega)) (by omega) rfl rfl (Nat.le_of_ble_eq_true rfl) ?_
  refine sr_if_eqN (tgt := 21) hA si_221_7 (by decide) (by omega) (fun c1 => absurd c1 (by omega)) (fun c1 => ?_)
  refine sr_iload_n hA si_221_10 rfl ?_
  refine sr_iconst (v := nI 1) hA si_221_11 (by decide) ?_
  refine sr_ldcw hA si_221_12 sc_221_281 ?_
  refine sr_SFi (as := [.int s, .int (nI 1), .int 2147483646]) (st := []) hA si_221_15 ss_135 sk_221_83 (mc_inM X g (l := 1) hs (by omega)) (by omega) rfl rfl (Nat.le_of_ble_eq_true rfl) ?_
  refine sr_if_neN (tgt := 23) hA si_221_18 (by decide) (by omega) (fun c2 => absurd c2 (by omega)) (fun c2 => ?_)
  refine sr_iconst (v := (-1)) hA si_221_21 (by decide) ?_
  exact sr_iretF hA si_221_22 sq_r_221 rfl rfl
set_option maxRecDepth 20000 in
theorem mc_wind_c0 (X : sp_X) (g : sp_G) {q : Nat} (hq1 : 1 ≤ q) (hq60 : q ≤ 60) : sp_Ct X 9 221 [.ref 64, .int (nI q), .int (nI 0)] g (sp_Fi (-1) g) := by
  refine sp_walkN (n := 9) sq_p_221 sq_l_221 (Nat.le_of_ble_eq_true rfl) (fun a hA => ?_)
  show sp_Ev X a 221 0 [.ref 64, .int (nI q), .int (nI 0), .null, .null, .null, .null, .null, .null] [] g
  refine sr_iload_n hA si_221_0 rfl ?_
  refine sr_iconst (v := nI 1) hA si_221_1 (by decide) ?_
  refine sr_bipush (v := nI 60) hA si_221_2 (by decide) ?_
  refine sr_SFi (as := [.int (nI q), .int (nI 1), .int (nI 60)]) (st := []) hA si_221_4 ss_135 sk_221_83 (mc_inN X g (by omega) (by omega) (by omega)) (by omega) rfl rfl (Nat.le_of_ble_eq_true rfl) ?_
  refine sr_if_eqN (tgt := 21) hA si_221_7 (by decide) (by omega) (fun c1 => absurd c1 (by omega)) (fun c1 => ?_)
  refine sr_iload_n hA si_221_10 rfl ?_
  refine sr_iconst (v := nI 1) hA si_221_11 (by decide) ?_
  refine sr_ldcw hA si_221_12 sc_221_281 ?_
  refine sr_SFi (as := [.int (nI 0), .int (nI 1), .int 2147483646]) (st := []) hA si_221_15 ss_135 sk_221_83 (mc_inL X g (v := 0) (l := 1) (h := 2147483646) (by omega) (by omega)) (by omega) rfl rfl (Nat.le_of_ble_eq_true rfl) ?_
  refine sr_if_neN (tgt := 23) hA si_221_18 (by decide) (by omega) (fun c2 => absurd c2 (by omega)) (fun c2 => ?_)
  refine sr_iconst (v := (-1)) hA si_221_21 (by decide) ?_
  exact sr_iretF hA si_221_22 sq_r_221 rfl rfl
set_option maxRecDepth 20000 in
theorem mc_wind_d (X : sp_X) (g : sp_G) {q : Nat} (hq1 : 1 ≤ q) (hq60 : q ≤ 60) : sp_Ct X 9 221 [.ref 64, .int (nI q), .int (nI 2147483647)] g (sp_Fi (-1) g) := by
  refine sp_walkN (n := 9) sq_p_221 sq_l_221 (Nat.le_of_ble_eq_true rfl) (fun a hA => ?_)
  show sp_Ev X a 221 0 [.ref 64, .int (nI q), .int (nI 2147483647), .null, .null, .null, .null, .null, .null] [] g
  refine sr_iload_n hA si_221_0 rfl ?_
  refine sr_iconst (v := nI 1) hA si_221_1 (by decide) ?_
  refine sr_bipush (v := nI 60) hA si_221_2 (by decide) ?_
  refine sr_SFi (as := [.int (nI q), .int (nI 1), .int (nI 60)]) (st := []) hA si_221_4 ss_135 sk_221_83 (mc_inN X g (by omega) (by omega) (by omega)) (by omega) rfl rfl (Nat.le_of_ble_eq_true rfl) ?_
  refine sr_if_eqN (tgt := 21) hA si_221_7 (by decide) (by omega) (fun c1 => absurd c1 (by omega)) (fun c1 => ?_)
  refine sr_iload_n hA si_221_10 rfl ?_
  refine sr_iconst (v := nI 1) hA si_221_11 (by decide) ?_
  refine sr_ldcw hA si_221_12 sc_221_281 ?_
  refine sr_SFi (as := [.int (nI 2147483647), .int (nI 1), .int 2147483646]) (st := []) hA si_221_15 ss_135 sk_221_83 (mc_inH X g (v := 2147483647) (l := 1) (h := 2147483646) (by omega) (by omega)) (by omega) rfl rfl (Nat.le_of_ble_eq_true rfl) ?_
  refine sr_if_neN (tgt := 23) hA si_221_18 (by decide) (by omega) (fun c2 => absurd c2 (by omega)) (fun c2 => ?_)
  refine sr_iconst (v := (-1)) hA si_221_21 (by decide) ?_
  exact sr_iretF hA si_221_22 sq_r_221 rfl rfl
set_option maxRecDepth 20000 in
theorem mc_wind_s (X : sp_X) (g : sp_G) {q : Nat} (hq1 : 1 ≤ q) (hq60 : q ≤ 60) {s : Nat} (hs1 : 1 ≤ s) (hs : s < 2147483647) (hn : g.1 64 11 = nI 0) : sp_Ct X 9 221 [.ref 64, .int (nI q), .int (nI s)] g (sp_Fi (-4) g) := by
  refine sp_walkN (n := 9) sq_p_221 sq_l_221 (Nat.le_of_ble_eq_true rfl) (fun a hA => ?_)
  show sp_Ev X a 221 0 [.ref 64, .int (nI q), .int (nI s), .null, .null, .null, .null, .null, .null] [] g
  refine sr_iload_n hA si_221_0 rfl ?_
  refine sr_iconst (v := nI 1) hA si_221_1 (by decide) ?_
  refine sr_bipush (v := nI 60) hA si_221_2 (by decide) ?_
  refine sr_SFi (as := [.int (nI q), .int (nI 1), .int (nI 60)]) (st := []) hA si_221_4 ss_135 sk_221_83 (mc_inN X g (by omega) (by omega) (by omega)) (by omega) rfl rfl (Nat.le_of_ble_eq_true rfl) ?_
  refine sr_if_eqN (tgt := 21) hA si_221_7 (by decide) (by omega) (fun c1 => absurd c1 (by omega)) (fun c1 => ?_)
  refine sr_iload_n hA si_221_10 rfl ?_
  refine sr_iconst (v := nI 1) hA si_221_11 (by decide) ?_
  refine sr_ldcw hA si_221_12 sc_221_281 ?_
  refine sr_SFi (as := [.int (nI s), .int (nI 1), .int 2147483646]) (st := []) hA si_221_15 ss_135 sk_221_83 (mc_inN X g (v := s) (l := 1) (h := 2147483646) (by omega) (by omega) (by omega)) (by omega) rfl rfl (Nat.le_of_ble_eq_true rfl) ?_
  refine sr_if_neN (tgt := 23) hA si_221_18 (by decide) (by omega) (fun c2 => ?_) (fun c2 => absurd c2 (by omega))
  refine sr_aload_n hA si_221_23 rfl ?_
  refine sr_getIv (v := nI 0) hA si_221_24 sf_221_142 (by decide) (by decide) rfl (by decide) hn ?_
  refine sr_if_neN (tgt := 33) hA si_221_27 (by decide) (by omega) (fun c3 => absurd c3 (by omega)) (fun c3 => ?_)
  refine sr_bipush (v := (-4)) hA si_221_30 (by decide) ?_
  exact sr_iretF hA si_221_32 sq_r_221 rfl rfl
set_option maxRecDepth 20000 in
theorem mc_wind_f (X : sp_X) (g : sp_G) {q : Nat} (hq1 : 1 ≤ q) (hq60 : q ≤ 60) {s : Nat} (hs1 : 1 ≤ s) (hs : s < 2147483647) {n dm : Nat} (hn : g.1 64 11 = nI n) (hn0 : 0 < n) (hb : n ≤ 6) (hd : g.1 64 21 = nI dm) (hdb : dm ≤ 60) (hf : 60 < dm + q) : sp_Ct X 9 221 [.ref 64, .int (nI q), .int (nI s)] g (sp_Fi (-2) g) := by
  refine sp_walkN (n := 9) sq_p_221 sq_l_221 (Nat.le_of_ble_eq_true rfl) (fun a hA => ?_)
  show sp_Ev X a 221 0 [.ref 64, .int (nI q), .int (nI s), .null, .null, .null, .null, .null, .null] [] g
  refine sr_iload_n hA si_221_0 rfl ?_
  refine sr_iconst (v := nI 1) hA si_221_1 (by decide) ?_
  refine sr_bipush (v := nI 60) hA si_221_2 (by decide) ?_
  refine sr_SFi (as := [.int (nI q), .int (nI 1), .int (nI 60)]) (st := []) hA si_221_4 ss_135 sk_221_83 (mc_inN X g (by omega) (by omega) (by omega)) (by omega) rfl rfl (Nat.le_of_ble_eq_true rfl) ?_
  refine sr_if_eqN (tgt := 21) hA si_221_7 (by decide) (by omega) (fun c1 => absurd c1 (by omega)) (fun c1 => ?_)
  refine sr_iload_n hA si_221_10 rfl ?_
  refine sr_iconst (v := nI 1) hA si_221_11 (by decide) ?_
  refine sr_ldcw hA si_221_12 sc_221_281 ?_
  refine sr_SFi (as := [.int (nI s), .int (nI 1), .int 2147483646]) (st := []) hA si_221_15 ss_135 sk_221_83 (mc_inN X g (v := s) (l := 1) (h := 2147483646) (by omega) (by omega) (by omega)) (by omega) rfl rfl (Nat.le_of_ble_eq_true rfl) ?_
  refine sr_if_neN (tgt := 23) hA si_221_18 (by decide) (by omega) (fun c2 => ?_) (fun c2 => absurd c2 (by omega))
  refine sr_aload_n hA si_221_23 rfl ?_
  refine sr_getIv (v := nI n) hA si_221_24 sf_221_142 (by decide) (by decide) rfl (by decide) hn ?_
  refine sr_if_neN (tgt := 33) hA si_221_27 (by decide) (by omega) (fun c3 => ?_) (fun c3 => absurd c3 (by omega))
  refine sr_aload_n hA si_221_33 rfl ?_
  refine sr_getIv (v := nI dm) hA si_221_34 sf_221_149 (by decide) (by decide) rfl (by decide) hd ?_
  refine sr_iload_n hA si_221_37 rfl ?_
  refine sr_iaddN hA si_221_38 ?_
  refine sr_bipush (v := nI 60) hA si_221_39 (by decide) ?_
  refine sr_icmp_leN (tgt := 47) hA si_221_41 (by decide) (by omega) (by omega) (fun c4 => absurd c4 (by omega)) (fun c4 => ?_)
  refine sr_bipush (v := (-2)) hA si_221_44 (by decide) ?_
  exact sr_iretF hA si_221_46 sq_r_221 rfl rfl
set_option maxRecDepth 20000 in
theorem mc_wind_e (X : sp_X) (g : sp_G) {q : Nat} (hq1 : 1 ≤ q) (hq60 : q ≤ 60) {s : Nat} (hs1 : 1 ≤ s) (hs : s < 2147483647) {n dm : Nat} (hn : g.1 64 11 = nI n) (hn0 : 0 < n) (hb : n ≤ 6) (hd : g.1 64 21 = nI dm) (hdb : dm ≤ 60) (hf : dm + q ≤ 60) {K T P v : Nat → Int32} (hK : sp_KM n K T P g) (hv : sp_hP g 0 v) (hB : sp_oB n (99 + 9 * dm) (700 * dm) v) : sp_Ct X 8 221 [.ref 64, .int (nI q), .int (nI s)] g (sp_Ri (fun x g' => x = nI (sp_wt (fun t => sp_set n K T ((sp_sq n K T P (s, v)) t).2) q 0) ∧ sp_wm g g' dm (sp_sq n K T P (s, v)) (sp_wt (fun t => sp_set n K T ((sp_sq n K T P (s, v)) t).2) q 0))) := by
  refine sp_walkN (n := 9) sq_p_221 sq_l_221 (Nat.le_of_ble_eq_true rfl) (fun ac hA => ?_)
  show sp_Ev X ac 221 0 [.ref 64, .int (nI q), .int (nI s), .null, .null, .null, .null, .null, .null] [] g
  refine sr_iload_n hA si_221_0 rfl ?_
  refine sr_iconst (v := nI 1) hA si_221_1 (by decide) ?_
  refine sr_bipush (v := nI 60) hA si_221_2 (by decide) ?_
  refine sr_SFi (as := [.int (nI q), .int (nI 1), .int (nI 60)]) (st := []) hA si_221_4 ss_135 sk_221_83 (mc_inN X g (by omega) (by omega) (by omega)) (by omega) rfl rfl (Nat.le_of_ble_eq_true rfl) ?_
  refine sr_if_eqN (tgt := 21) hA si_221_7 (by decide) (by omega) (fun c1 => absurd c1 (by omega)) (fun c1 => ?_)
  refine sr_iload_n hA si_221_10 rfl ?_
  refine sr_iconst (v := nI 1) hA si_221_11 (by decide) ?_
  refine sr_ldcw hA si_221_12 sc_221_281 ?_
  refine sr_SFi (as := [.int (nI s), .int (nI 1), .int 2147483646]) (st := []) hA si_221_15 ss_135 sk_221_83 (mc_inN X g (v := s) (l := 1) (h := 2147483646) (by omega) (by omega) (by omega)) (by omega) rfl rfl (Nat.le_of_ble_eq_true rfl) ?_
  refine sr_if_neN (tgt := 23) hA si_221_18 (by decide) (by omega) (fun c2 => ?_) (fun c2 => absurd c2 (by omega))
  refine sr_aload_n hA si_221_23 rfl ?_
  refine sr_getIv (v := nI n) hA si_221_24 sf_221_142 (by decide) (by decide) rfl (by decide) hn ?_
  refine sr_if_neN (tgt := 33) hA si_221_27 (by decide) (by omega) (fun c3 => ?_) (fun c3 => absurd c3 (by omega))
  refine sr_aload_n hA si_221_33 rfl ?_
  refine sr_getIv (v := nI dm) hA si_221_34 sf_221_149 (by decide) (by decide) rfl (by decide) hd ?_
  refine sr_iload_n hA si_221_37 rfl ?_
  refine sr_iaddN hA si_221_38 ?_
  refine sr_bipush (v := nI 60) hA si_221_39 (by decide) ?_
  refine sr_icmp_leN (tgt := 47) hA si_221_41 (by decide) (by omega) (by omega) (fun c4 => ?_) (fun c4 => absurd c4 (by omega))
  refine sr_iload_n hA si_221_47 rfl ?_
  refine sr_i2l hA si_221_48 ?_
  refine sr_lstore_n (ls1 := [.ref 64, .int (nI q), .int (nI s), .long ((nI s).toInt64), .null, .null, .null, .null, .null]) hA si_221_49 rfl (by rw [sq_l_221]; decide) rfl ?_
  refine sr_iconst (v := nI 0) hA si_221_50 (by decide) ?_
  refine sr_istore (ls1 := [.ref 64, .int (nI q), .int (nI s), .long ((nI s).toInt64), .null, .int (nI 0), .null, .null, .null]) hA si_221_51 (by rw [sq_l_221]; decide) rfl ?_
  rw [nL_i (by omega)]
  refine sr_fg (ls1 := [.ref 64, .int (nI q), .null, .long (nL s), .null, .int (nI 0), .null, .null, .null]) ⟨Or.inr rfl, Or.inr rfl, Or.inl rfl, Or.inr rfl, Or.inl rfl, Or.inr rfl, Or.inl rfl, Or.inl rfl, Or.inl rfl, trivial⟩ ?_
  exact ml_wind (Q := (sp_sq n K T P (s, v))) (fun _ => rfl) hf hK hA q 0 g s (by omega) ⟨fun _ _ _ _ => rfl, fun _ _ => rfl, rfl, hd, hv, fun _ _ => rfl, fun j h1 => absurd h1 (by omega)⟩ rfl hs (by rw [Nat.add_zero]; exact hB) rfl
