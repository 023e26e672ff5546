/-! which keys to empty first -/
def sp_f1 (F : Nat → Option (Nat → Nat)) : Nat → Nat → Option (Nat → Nat)
  | 0, _ => none
  | k + 1, i => match F i with
    | some w => some w
    | none => sp_f1 F k (i + 1)
theorem sp_f1n {F : Nat → Option (Nat → Nat)} {k i : Nat} (h : F i = none) : sp_f1 F (k + 1) i = sp_f1 F k (i + 1) := by
  show (match F i with | some w => some w | none => sp_f1 F k (i + 1)) = _
  rw [h]
theorem sp_f1s {F : Nat → Option (Nat → Nat)} {k i : Nat} {w : Nat → Nat} (h : F i = some w) : sp_f1 F (k + 1) i = some w := by
  show (match F i with | some w => some w | none => sp_f1 F k (i + 1)) = _
  rw [h]
def sp_dgo (n : Nat) (K T P f : Nat → Int32) (z c : Nat) : Nat → Nat → Nat → (Nat → Int32) → (Nat → Nat) → Option (Nat → Nat)
  | 0, _, _, v, w => if (sp_pp n K T P f z v 0).1 = z then some w else none
  | m + 1, d, e0, v, w => sp_f1 (fun i => sp_dgo n K T P f z c m (d + 1) i (sp_mv v i 6 (nI c)) (sp_un w d i)) (n - e0) e0
def sp_dgs (d : Nat) (g g' : sp_G) (i : Nat) (u : Nat → Int32) : Prop := (∀ c, c ≠ 23 + (d + 1) → c ≠ 30 + (d + 1) → c ≠ 37 → g'.1 c = g.1 c) ∧ g'.2 = g.2 ∧ (∀ j, j ≠ d → g'.1 37 j = g.1 37 j) ∧ g'.1 37 d = nI i ∧ sp_h8 g' (23 + (d + 1)) (30 + (d + 1)) u
theorem sp_dgs.dx {d i : Nat} {g g1 : sp_G} {u : Nat → Int32} (h : sp_dgs d g g1 i u) (hd : d < 6) : sp_lvx d g g1 := ⟨fun c hc => h.1 c (by omega) (by omega) (by omega), fun j hj => h.2.2.1 j (by omega), fun c _ => by rw [h.2.1]⟩
theorem sp_wy.dgs {d i : Nat} {g g1 : sp_G} {w : Nat → Nat} {u : Nat → Int32} (h : sp_wy g d w) (k : sp_dgs d g g1 i u) : sp_wy g1 (d + 1) (sp_un w d i) := fun j hj => by
  unfold sp_un
  by_cases e : j = d
  · subst e; rw [if_pos rfl]; exact k.2.2.2.1
  · rw [if_neg e, k.2.2.1 j e]; exact h j (by omega)
theorem sp_dgs.mk {d i : Nat} {g g1 g2 : sp_G} {u : Nat → Int32} (hd : d < 6) (q1 : sp_sx (23 + (d + 1)) (30 + (d + 1)) (sp_wI g 37 d (nI i)) g1) (q2 : sp_sx (23 + (d + 1)) (30 + (d + 1)) g1 g2 ∧ sp_h8 g2 (23 + (d + 1)) (30 + (d + 1)) u) : sp_dgs d g g2 i u :=
  ⟨fun c h1 h2 h3 => by rw [q2.1.1 c h1 h2, q1.1 c h1 h2, sp_wI_ne h3], q2.1.2.trans q1.2, fun j hj => by rw [q2.1.1 37 (by omega) (by omega), q1.1 37 (by omega) (by omega), sp_rd, if_neg (fun e => hj e.2)], by rw [q2.1.1 37 (by omega) (by omega), q1.1 37 (by omega) (by omega), sp_rd, if_pos ⟨rfl, rfl⟩], q2.2⟩
theorem sp_h8.w37 {d i : Nat} {g : sp_G} {v : Nat → Int32} (h : sp_h8 g (23 + d) (30 + d) v) (hd : d < 6) : sp_h8 (sp_wI g 37 d (nI i)) (23 + d) (30 + d) v := fun j hj => by
  rw [← h j hj]
  unfold sp_sv
  rw [sp_wI_ne (by omega), sp_wI_ne (by omega)]
theorem sp_lvx.nx {d : Nat} {g g1 : sp_G} (h : sp_sx (23 + (d + 1)) (30 + (d + 1)) g g1) (hd : d < 6) : sp_lvx d g g1 := ⟨fun c hc => h.1 c (by omega) (by omega), fun j hj => by rw [h.1 37 (by omega) (by omega)], fun c _ => by rw [h.2]⟩
theorem sp_fx.dm {F F' d : Nat} {g g1 : sp_G} (h : sp_fx F' g g1) (hF : F < F') : sp_dm F d g g1 := ⟨fun c _ h2 _ => funext fun j => h.1 c j (fun e => h2 e.1), fun j hj => h.1 75 j (by omega), fun j _ => h.1 64 j (by omega), fun j _ => h.1 82 j (by omega), fun c j _ => by rw [h.2]⟩
theorem sp_tw.un2 {F d i : Nat} {g g1 : sp_G} {w : Nat → Nat} (h : sp_tw g d w) (k : sp_dm F d g g1) : sp_tw (sp_wI g1 82 d (nI i)) (d + 1) (sp_un w d i) := fun j hj => by
  unfold sp_un
  by_cases e : j = d
  · subst e; rw [if_pos rfl, sp_rd, if_pos ⟨rfl, rfl⟩]
  · rw [if_neg e, sp_rd, if_neg (fun q => e q.2), k.2.2.2.1 j (by omega)]; exact h j (by omega)
set_option maxRecDepth 20000 in
theorem xb_dgA (X : sp_X) (g : sp_G) {d q e0 c n r z A Bq : Nat} {K T P v f : Nat → Int32} {w : Nat → Nat} (hdq : d = q) (hq4 : q ≤ 4) (hK : sp_KX n K T P g) (hp : sp_PX r z f g) (hzb : z ≤ 12) (hks : sp_ks f n z) (hv : sp_h8 g (23 + d) (30 + d) v) (hB : sp_oB n A Bq v) (hAb : A < 2 ^ 20) (hBb : Bq < 2 ^ 20) (hw : sp_wy g d w) : sp_Ct X 6 79 [.ref 17, .int (nI d), .int (nI q), .int (nI e0), .int (nI c), .ref 1, .int (nI r)] g (sp_Ri (fun x g' => sp_lvx d g g' ∧ g'.1 17 = g.1 17 ∧ (sp_dgo n K T P f z c 0 d e0 v w = none → x = nI 0) ∧ ∀ w', sp_dgo n K T P f z c 0 d e0 v w = some w' → x = nI 1 ∧ sp_wy g' q w')) := by
  have hn6 := hK.2.1
  have hr := hp.1
  refine sp_walkN (n := 9) sq_p_79 sq_l_79 (Nat.le_of_ble_eq_true rfl) (fun ac hA => ?_)
  show sp_Ev X ac 79 0 [.ref 17, .int (nI d), .int (nI q), .int (nI e0), .int (nI c), .ref 1, .int (nI r), .null, .null] [] g
  refine sr_iload_n hA si_79_0 rfl ?_
  refine sr_bipush (v := nI 6) hA si_79_1 (by decide) ?_
  refine sr_icmp_ltN (tgt := 8) hA si_79_3 (by decide) (by omega) (by omega) (fun c1 => ?_) (fun c1 => absurd c1 (by omega))
  refine sr_aload_n hA si_79_8 rfl ?_
  refine sr_getR (r := 22) hA si_79_9 sf_79_20 (by decide) (by decide) rfl rfl rfl ?_
  refine sr_iload_n hA si_79_12 rfl ?_
  refine sr_iconst (v := nI 1) hA si_79_13 (by decide) ?_
  refine sr_iaddN hA si_79_14 ?_
  refine sr_aaldN (r := (23 + (d + 1))) (n := 7) hA si_79_15 (by decide) (by decide) rfl (by omega) (by decide) (sp_bhr (by omega)) ?_
  refine sr_astore (ls1 := [.ref 17, .int (nI d), .int (nI q), .int (nI e0), .int (nI c), .ref 1, .int (nI r), .ref (23 + (d + 1)), .null]) hA si_79_16 (by rw [sq_l_79]; decide) rfl ?_
  refine sr_iload_n hA si_79_18 rfl ?_
  refine sr_iload_n hA si_79_19 rfl ?_
  refine sr_icmp_neN (tgt := 63) hA si_79_20 (by decide) (by omega) (by omega) (fun c2 => absurd c2 (by omega)) (fun c2 => ?_)
  refine sr_aload hA si_79_23 rfl ?_
  refine sr_aload_n hA si_79_25 rfl ?_
  refine sr_getR (r := 22) hA si_79_26 sf_79_20 (by decide) (by decide) rfl rfl rfl ?_
  refine sr_iload_n hA si_79_29 rfl ?_
  refine sr_aaldN (r := (23 + d)) (n := 7) hA si_79_30 (by decide) (by decide) rfl (by omega) (by decide) (sp_bhr (by omega)) ?_
  refine sr_VRv (c := (23 + (d + 1))) (ci := 2) (as := [.ref (23 + d)]) (st := []) hA si_79_31 sv_39 sk_79_56 (xb_take X g (s := 23 + (d + 1)) (o := 30 + (d + 1)) (t := 23 + d) (p := 30 + d) (v := v) (sp_bh (by omega)) (sp_bh (by omega)) (by unfold sp_ap; omega) hv) (by omega) rfl (by decide) (sp_bh (by omega)).1 (sp_bh (by omega)).2.1 sq_c_39 rfl (Nat.le_of_ble_eq_true rfl) (fun g1 q1 => ?_)
  have hl1 := sp_lvx.nx q1.1 (by omega)
  refine sr_aload_n hA si_79_34 rfl ?_
  refine sr_getR (r := 18) hA si_79_35 sf_79_12 (by decide) (by decide) rfl rfl rfl ?_
  refine sr_aload hA si_79_38 rfl ?_
  refine sr_iload hA si_79_40 rfl ?_
  refine sr_aload hA si_79_42 rfl ?_
  refine sr_VRi (c := 18) (ci := 0) (as := [.ref 1, .int (nI r), .ref (23 + (d + 1))]) (st := []) hA si_79_44 sv_74 sk_79_88 (xb_piece X g1 (s := 23 + (d + 1)) (o := 30 + (d + 1)) (sp_bh (by omega)) (hK.xa hl1.xa) (hp.xa hl1.xa) hzb hks q1.2.1 hB hAb hBb) (by omega) rfl (by decide) (by decide) rfl sq_c_74 rfl (Nat.le_of_ble_eq_true rfl) (fun xv g2 q2 => ?_)
  obtain ⟨k2, ek⟩ : ∃ z', z' = (sp_pp n K T P f z v 0).1 := ⟨_, rfl⟩
  have hkz : k2 ≤ z := by rw [ek]; have := sp_pp_le (n := n) (K := K) (T := T) (P := P) (f := f) z 0 v; omega
  rw [← ek] at q2
  obtain ⟨exv, hs2⟩ := q2
  subst exv
  have hl2 := hl1.tr (sp_lvx.nx hs2 (by omega))
  have e17 : g2.1 17 = g.1 17 := (hs2.1 17 (by omega) (by omega)).trans (q1.1.1 17 (by omega) (by omega))
  refine sr_aload hA si_79_47 rfl ?_
  refine sr_iload hA si_79_49 rfl ?_
  refine sr_VFi (c := 1) (ci := 5) (as := [.int (nI r)]) (st := [.int (nI k2)]) hA si_79_51 sv_26 sk_79_92 (xc_sizeR X g2 (z := nI z) (by omega) (hp.xa hl2.xa).2.2.1) (by omega) rfl (by decide) (by decide) rfl sq_c_26 rfl (Nat.le_of_ble_eq_true rfl) ?_
  refine sr_icmp_neN (tgt := 61) hA si_79_54 (by decide) (by omega) (by omega) (fun c3 => ?_) (fun c3 => ?_)
  · refine sr_iconst (v := nI 0) hA si_79_61 (by decide) ?_
    have e9 : sp_dgo n K T P f z c 0 d e0 v w = none := if_neg (by rw [← ek]; omega)
    exact sr_zretR hA si_79_62 sq_r_79 (by decide) ⟨hl2, e17, fun h => rfl, fun w1 h => (by rw [e9] at h; cases h)⟩
  · refine sr_iconst (v := nI 1) hA si_79_57 (by decide) ?_
    refine sr_goto (tgt := 62) hA si_79_58 (by decide) ?_
    have e9 : sp_dgo n K T P f z c 0 d e0 v w = some w := if_pos (by rw [← ek]; omega)
    exact sr_zretR hA si_79_62 sq_r_79 (by decide) ⟨hl2, e17, fun h => (by rw [e9] at h; cases h), fun w1 h => (by rw [e9] at h; cases h; exact ⟨rfl, fun j hj => (hl2.2.1 j (by omega)).trans (hw j (by omega))⟩)⟩
set_option maxRecDepth 20000 in
theorem xl_dg {X : sp_X} {ac : sp_Ac} {g : sp_G} {d q m c n r z A Bq : Nat} {K T P v f : Nat → Int32} {w : Nat → Nat} {R0 : Option (Nat → Nat)} (hd : d + (m + 1) = q) (hq4 : q ≤ 4) (hc9 : c ≤ 9) (hK : sp_KX n K T P g) (hp : sp_PX r z f g) (hzb : z ≤ 12) (hks : sp_ks f n z) (hv : sp_h8 g (23 + d) (30 + d) v) (hB : sp_oB n A Bq v) (hAb : A < 2 ^ 20) (hBb : Bq < 2 ^ 20) (hw : sp_wy g d w) (IH : ∀ (e0 : Nat) (v : Nat → Int32) (w : Nat → Nat) (g : sp_G), e0 ≤ n → sp_KX n K T P g → sp_PX r z f g → sp_h8 g (23 + (d + 1)) (30 + (d + 1)) v → sp_oB n (A + c) (Bq + c) v → sp_wy g (d + 1) w → sp_Ct X (m + 6) 79 [.ref 17, .int (nI (d + 1)), .int (nI q), .int (nI e0), .int (nI c), .ref 1, .int (nI r)] g (sp_Ri (fun x g' => sp_lvx (d + 1) g g' ∧ g'.1 17 = g.1 17 ∧ (sp_dgo n K T P f z c m (d + 1) e0 v w = none → x = nI 0) ∧ ∀ w', sp_dgo n K T P f z c m (d + 1) e0 v w = some w' → x = nI 1 ∧ sp_wy g' q w'))) (hA : sp_Act X 79 (m + 7) (sp_Ri (fun x g' => sp_lvx d g g' ∧ g'.1 17 = g.1 17 ∧ (R0 = none → x = nI 0) ∧ ∀ w', R0 = some w' → x = nI 1 ∧ sp_wy g' q w')) ac) : ∀ (k : Nat) (i : Nat) (gg : sp_G), i + k = n → sp_lvx d g gg → gg.1 17 = g.1 17 → sp_f1 (fun i => sp_dgo n K T P f z c m (d + 1) i (sp_mv v i 6 (nI c)) (sp_un w d i)) k i = R0 → sp_Ev X ac 79 66 [.ref 17, .int (nI d), .int (nI q), .null, .int (nI c), .ref 1, .int (nI r), .ref (23 + (d + 1)), .int (nI i)] [] gg := by
  intro k
  induction k with
  | zero =>
    intro i gg h0_ h1_ h2_ h3_
    have hn6 := hK.2.1
    have hr := hp.1
    refine sr_iload hA si_79_66 rfl ?_
    refine sr_aload_n hA si_79_68 rfl ?_
    refine sr_getR (r := 18) hA si_79_69 sf_79_12 (by decide) (by decide) rfl rfl rfl ?_
    refine sr_getIv (v := nI n) hA si_79_72 sf_79_96 (by decide) (by decide) rfl (by decide) (hK.xa h1_.xa).1 ?_
    refine sr_icmp_geN (tgt := 134) hA si_79_75 (by decide) (by omega) (by omega) (fun c1 => ?_) (fun c1 => absurd c1 (by omega))
    refine sr_iconst (v := nI 0) hA si_79_134 (by decide) ?_
    have e9 : R0 = none := h3_.symm
    exact sr_zretR hA si_79_135 sq_r_79 (by decide) ⟨h1_, h2_, fun h => rfl, fun w2 h => (by rw [e9] at h; cases h)⟩
  | succ k ih =>
    intro i gg h0_ h1_ h2_ h3_
    have hn6 := hK.2.1
    have hr := hp.1
    refine sr_iload hA si_79_66 rfl ?_
    refine sr_aload_n hA si_79_68 rfl ?_
    refine sr_getR (r := 18) hA si_79_69 sf_79_12 (by decide) (by decide) rfl rfl rfl ?_
    refine sr_getIv (v := nI n) hA si_79_72 sf_79_96 (by decide) (by decide) rfl (by decide) (hK.xa h1_.xa).1 ?_
    refine sr_icmp_geN (tgt := 134) hA si_79_75 (by decide) (by omega) (by omega) (fun c1 => absurd c1 (by omega)) (fun c1 => ?_)
    refine sr_aload_n hA si_79_78 rfl ?_
    refine sr_getR (r := 37) hA si_79_79 sf_79_24 (by decide) (by decide) rfl rfl rfl ?_
    refine sr_iload_n hA si_79_82 rfl ?_
    refine sr_iload hA si_79_83 rfl ?_
    refine sr_iastN (n := 6) hA si_79_85 (by decide) rfl rfl (by omega) (by decide) ?_
    refine sr_aload hA si_79_86 rfl ?_
    refine sr_aload_n hA si_79_88 rfl ?_
    refine sr_getR (r := 22) hA si_79_89 sf_79_20 (by decide) (by decide) rfl rfl rfl ?_
    refine sr_iload_n hA si_79_92 rfl ?_
    refine sr_aaldN (r := (23 + d)) (n := 7) hA si_79_93 (by decide) (by decide) rfl (by omega) (by decide) (sp_bhr (by omega)) ?_
    refine sr_VRv (c := (23 + (d + 1))) (ci := 2) (as := [.ref (23 + d)]) (st := []) hA si_79_94 sv_39 sk_79_56 (xb_take X (sp_wI gg 37 d (nI i)) (s := 23 + (d + 1)) (o := 30 + (d + 1)) (t := 23 + d) (p := 30 + d) (v := v) (sp_bh (by omega)) (sp_bh (by omega)) (by unfold sp_ap; omega) ((hv.dx h1_ (by omega)).w37 (by omega))) (by omega) rfl (by decide) (sp_bh (by omega)).1 (sp_bh (by omega)).2.1 sq_c_39 rfl (Nat.le_of_ble_eq_true rfl) (fun g1 q1 => ?_)
    refine sr_aload hA si_79_97 rfl ?_
    refine sr_iload hA si_79_99 rfl ?_
    refine sr_iload hA si_79_101 rfl ?_
    refine sr_VRi (c := (23 + (d + 1))) (ci := 2) (as := [.int (nI i), .int (nI c)]) (st := []) hA si_79_103 sv_65 sk_79_99 (xb_scoop X g1 (s := 23 + (d + 1)) (o := 30 + (d + 1)) (sp_bh (by omega)) (show i < 6 by omega) (nI c) q1.2.1) (by omega) rfl (by decide) (sp_bh (by omega)).1 (sp_bh (by omega)).2.1 sq_c_65 rfl (Nat.le_of_ble_eq_true rfl) (fun xz g2 q2 => ?_)
    have qs := sp_dgs.mk (by omega) q1.1 q2
    have hl1 := h1_.tr (qs.dx (by omega))
    refine sr_pop hA si_79_106 rfl ?_
    refine sr_aload_n hA si_79_107 rfl ?_
    refine sr_iload_n hA si_79_108 rfl ?_
    refine sr_iconst (v := nI 1) hA si_79_109 (by decide) ?_
    refine sr_iaddN hA si_79_110 ?_
    refine sr_iload_n hA si_79_111 rfl ?_
    refine sr_iload hA si_79_112 rfl ?_
    refine sr_iload hA si_79_114 rfl ?_
    refine sr_aload hA si_79_116 rfl ?_
    refine sr_iload hA si_79_118 rfl ?_
    refine sr_VRi (c := 17) (ci := 4) (as := [.int (nI (d + 1)), .int (nI q), .int (nI i), .int (nI c), .ref 1, .int (nI r)]) (st := []) hA si_79_120 sv_79 sk_79_80 (IH i (sp_mv v i 6 (nI c)) (sp_un w d i) g2 (by omega) (hK.xa hl1.xa) (hp.xa hl1.xa) qs.2.2.2.2 (sp_oB.mv hB hn6 (Or.inl (by omega)) (Or.inr rfl) (by omega) (by omega) (by omega) (by omega)) ((hw.dx h1_).dgs qs)) (by omega) rfl (by decide) (by decide) rfl sq_c_79 rfl (Nat.le_of_ble_eq_true rfl) (fun xv g3 q3 => ?_)
    obtain ⟨hl3, h17, hn3, hs3⟩ := q3
    have e17 : g3.1 17 = g.1 17 := h17.trans ((qs.1 17 (by omega) (by omega) (by omega)).trans h2_)
    rcases hR : sp_dgo n K T P f z c m (d + 1) i (sp_mv v i 6 (nI c)) (sp_un w d i) with _ | w1
    · have exv := hn3 hR
      subst exv
      refine sr_if_eqN (tgt := 128) hA si_79_123 (by decide) (by omega) (fun c2 => ?_) (fun c2 => absurd c2 (by omega))
      refine sr_iincN (x := i) (y := 1) (ls1 := [.ref 17, .int (nI d), .int (nI q), .null, .int (nI c), .ref 1, .int (nI r), .ref (23 + (d + 1)), .int (nI (i + 1))]) hA si_79_128 rfl rfl (by rw [sq_l_79]; decide) rfl ?_
      refine sr_goto (tgt := 66) hA si_79_131 (by decide) ?_
      exact ih (i + 1) g3 (by omega) (hl1.tr (hl3.lo (by omega))) e17 (by rw [← h3_]; exact (sp_f1n hR).symm)
    · obtain ⟨exv, hwy⟩ := hs3 w1 hR
      subst exv
      refine sr_if_eqN (tgt := 128) hA si_79_123 (by decide) (by omega) (fun c3 => absurd c3 (by omega)) (fun c3 => ?_)
      refine sr_iconst (v := nI 1) hA si_79_126 (by decide) ?_
      have e9 : R0 = some w1 := by rw [← h3_]; exact sp_f1s hR
      exact sr_zretR hA si_79_127 sq_r_79 (by decide) ⟨hl1.tr (hl3.lo (by omega)), e17, fun h => (by rw [e9] at h; cases h), fun w2 h => (by rw [e9] at h; cases h; exact ⟨rfl, hwy⟩)⟩
set_option maxRecDepth 20000 in
theorem xb_dgS {X : sp_X} {g : sp_G} {d q m e0 c n r z A Bq : Nat} {K T P v f : Nat → Int32} {w : Nat → Nat} (hd : d + (m + 1) = q) (hq4 : q ≤ 4) (hc9 : c ≤ 9) (he0 : e0 ≤ n) (hK : sp_KX n K T P g) (hp : sp_PX r z f g) (hzb : z ≤ 12) (hks : sp_ks f n z) (hv : sp_h8 g (23 + d) (30 + d) v) (hB : sp_oB n A Bq v) (hAb : A < 2 ^ 20) (hBb : Bq < 2 ^ 20) (hw : sp_wy g d w) (IH : ∀ (e0 : Nat) (v : Nat → Int32) (w : Nat → Nat) (g : sp_G), e0 ≤ n → sp_KX n K T P g → sp_PX r z f g → sp_h8 g (23 + (d + 1)) (30 + (d + 1)) v → sp_oB n (A + c) (Bq + c) v → sp_wy g (d + 1) w → sp_Ct X (m + 6) 79 [.ref 17, .int (nI (d + 1)), .int (nI q), .int (nI e0), .int (nI c), .ref 1, .int (nI r)] g (sp_Ri (fun x g' => sp_lvx (d + 1) g g' ∧ g'.1 17 = g.1 17 ∧ (sp_dgo n K T P f z c m (d + 1) e0 v w = none → x = nI 0) ∧ ∀ w', sp_dgo n K T P f z c m (d + 1) e0 v w = some w' → x = nI 1 ∧ sp_wy g' q w'))) : sp_Ct X (m + 7) 79 [.ref 17, .int (nI d), .int (nI q), .int (nI e0), .int (nI c), .ref 1, .int (nI r)] g (sp_Ri (fun x g' => sp_lvx d g g' ∧ g'.1 17 = g.1 17 ∧ (sp_dgo n K T P f z c (m + 1) d e0 v w = none → x = nI 0) ∧ ∀ w', sp_dgo n K T P f z c (m + 1) d e0 v w = some w' → x = nI 1 ∧ sp_wy g' q w')) := by
  have hn6 := hK.2.1
  refine sp_walkN (n := 9) sq_p_79 sq_l_79 (Nat.le_of_ble_eq_true rfl) (fun ac hA => ?_)
  show sp_Ev X ac 79 0 [.ref 17, .int (nI d), .int (nI q), .int (nI e0), .int (nI c), .ref 1, .int (nI r), .null, .null] [] g
  refine sr_iload_n hA si_79_0 rfl ?_
  refine sr_bipush (v := nI 6) hA si_79_1 (by decide) ?_
  refine sr_icmp_ltN (tgt := 8) hA si_79_3 (by decide) (by omega) (by omega) (fun c1 => ?_) (fun c1 => absurd c1 (by omega))
  refine sr_aload_n hA si_79_8 rfl ?_
  refine sr_getR (r := 22) hA si_79_9 sf_79_20 (by decide) (by decide) rfl rfl rfl ?_
  refine sr_iload_n hA si_79_12 rfl ?_
  refine sr_iconst (v := nI 1) hA si_79_13 (by decide) ?_
  refine sr_iaddN hA si_79_14 ?_
  refine sr_aaldN (r := (23 + (d + 1))) (n := 7) hA si_79_15 (by decide) (by decide) rfl (by omega) (by decide) (sp_bhr (by omega)) ?_
  refine sr_astore (ls1 := [.ref 17, .int (nI d), .int (nI q), .int (nI e0), .int (nI c), .ref 1, .int (nI r), .ref (23 + (d + 1)), .null]) hA si_79_16 (by rw [sq_l_79]; decide) rfl ?_
  refine sr_iload_n hA si_79_18 rfl ?_
  refine sr_iload_n hA si_79_19 rfl ?_
  refine sr_icmp_neN (tgt := 63) hA si_79_20 (by decide) (by omega) (by omega) (fun c2 => ?_) (fun c2 => absurd c2 (by omega))
  refine sr_iload_n hA si_79_63 rfl ?_
  refine sr_istore (ls1 := [.ref 17, .int (nI d), .int (nI q), .int (nI e0), .int (nI c), .ref 1, .int (nI r), .ref (23 + (d + 1)), .int (nI e0)]) hA si_79_64 (by rw [sq_l_79]; decide) rfl ?_
  refine sr_fg (ls1 := [.ref 17, .int (nI d), .int (nI q), .null, .int (nI c), .ref 1, .int (nI r), .ref (23 + (d + 1)), .int (nI e0)]) ⟨Or.inr rfl, Or.inr rfl, Or.inr rfl, Or.inl rfl, Or.inr rfl, Or.inr rfl, Or.inr rfl, Or.inr rfl, Or.inr rfl, trivial⟩ ?_
  exact xl_dg hd hq4 hc9 hK hp hzb hks hv hB hAb hBb hw IH hA (n - e0) e0 g (by omega) sp_lvx.rf rfl rfl
theorem xb_dg (X : sp_X) {n q c r z : Nat} {K T P f : Nat → Int32} (hq4 : q ≤ 4) (hc9 : c ≤ 9) (hzb : z ≤ 12) (hks : sp_ks f n z) : ∀ (m d e0 A Bq : Nat) (v : Nat → Int32) (w : Nat → Nat) (g : sp_G), d + m = q → e0 ≤ n → A + 9 * m < 2 ^ 20 → Bq + 9 * m < 2 ^ 20 → sp_KX n K T P g → sp_PX r z f g → sp_h8 g (23 + d) (30 + d) v → sp_oB n A Bq v → sp_wy g d w → sp_Ct X (m + 6) 79 [.ref 17, .int (nI d), .int (nI q), .int (nI e0), .int (nI c), .ref 1, .int (nI r)] g (sp_Ri (fun x g' => sp_lvx d g g' ∧ g'.1 17 = g.1 17 ∧ (sp_dgo n K T P f z c m d e0 v w = none → x = nI 0) ∧ ∀ w', sp_dgo n K T P f z c m d e0 v w = some w' → x = nI 1 ∧ sp_wy g' q w'))
  | 0, d, e0, A, Bq, v, w, g, hd, he, hA, hB, hK, hp, hv, hO, hw => xb_dgA X g (by omega) hq4 hK hp hzb hks hv hO (by omega) (by omega) hw
  | m + 1, d, e0, A, Bq, v, w, g, hd, he, hA, hB, hK, hp, hv, hO, hw => xb_dgS hd hq4 hc9 he hK hp hzb hks hv hO (by omega) (by omega) hw (fun e1 v' w' g' a0 a1 a2 a3 a4 a5 => xb_dg X hq4 hc9 hzb hks m (d + 1) e1 (A + c) (Bq + c) v' w' g' (by omega) a0 (by omega) (by omega) a1 a2 a3 a4 a5)
def sp_fdo (n : Nat) (K T P f : Nat → Int32) (z c : Nat) (v : Nat → Int32) : Nat → Nat → Option (Nat × (Nat → Nat))
  | 0, _ => none
  | k + 1, q => match sp_dgo n K T P f z c q 0 0 v (fun _ => 0) with
    | some w => some (q, w)
    | none => sp_fdo n K T P f z c v k (q + 1)
theorem sp_fdn {n : Nat} {K T P f v : Nat → Int32} {z c k q : Nat} (h : sp_dgo n K T P f z c q 0 0 v (fun _ => 0) = none) : sp_fdo n K T P f z c v (k + 1) q = sp_fdo n K T P f z c v k (q + 1) := by
  show (match sp_dgo n K T P f z c q 0 0 v (fun _ => 0) with | some w => some (q, w) | none => sp_fdo n K T P f z c v k (q + 1)) = _
  rw [h]
theorem sp_fds {n : Nat} {K T P f v : Nat → Int32} {z c k q : Nat} {w : Nat → Nat} (h : sp_dgo n K T P f z c q 0 0 v (fun _ => 0) = some w) : sp_fdo n K T P f z c v (k + 1) q = some (q, w) := by
  show (match sp_dgo n K T P f z c q 0 0 v (fun _ => 0) with | some w => some (q, w) | none => sp_fdo n K T P f z c v k (q + 1)) = _
  rw [h]
/-- what is found lies in the row that was found first -/
def sp_fq (g : sp_G) (R : Option (Nat × (Nat → Nat))) (x : Int32) : Prop := (R = none → x = -9 ∧ g.1 17 5 = -1) ∧ ∀ q w, R = some (q, w) → q ≤ 4 ∧ x = nI q ∧ g.1 17 5 = nI q ∧ ∀ j, j < q → g.1 38 j = nI (w j)
set_option maxRecDepth 20000 in
theorem xl_fd {X : sp_X} {ac : sp_Ac} {g : sp_G} {c n r z A Bq : Nat} {K T P v f : Nat → Int32} (hc9 : c ≤ 9) (hK : sp_KX n K T P g) (hp : sp_PX r z f g) (hzb : z ≤ 12) (hks : sp_ks f n z) (hv : sp_h8 g 41 42 v) (hB : sp_oB n A Bq v) (hAb : A < 2 ^ 19) (hBb : Bq < 2 ^ 19) {R0 : Option (Nat × (Nat → Nat))} (hA : sp_Act X 77 11 (sp_Ri (fun x g' => sp_xa g g' ∧ sp_fq g' R0 x)) ac) : ∀ (k : Nat) (q : Nat) (gg : sp_G), q + k = 5 → sp_xa g gg → (0 < q → gg.1 17 5 = -1) → sp_fdo n K T P f z c v k q = R0 → sp_Ev X ac 77 3 [.ref 17, .ref 41, .int (nI c), .ref 1, .int (nI r), .int (nI q)] [] gg := by
  intro k
  induction k with
  | zero =>
    intro q gg h0_ h1_ h2_ h3_
    refine sr_iload hA si_77_3 rfl ?_
    refine sr_iconst (v := nI 4) hA si_77_5 (by decide) ?_
    refine sr_icmp_gtN (tgt := 44) hA si_77_6 (by decide) (by omega) (by omega) (fun c1 => ?_) (fun c1 => absurd c1 (by omega))
    refine sr_bipush (v := (-9)) hA si_77_44 (by decide) ?_
    have e9 : R0 = none := h3_.symm
    exact sr_iretR hA si_77_46 sq_r_77 ⟨h1_, fun h => ⟨rfl, h2_ (by omega)⟩, fun q0 w0 h => (by rw [e9] at h; cases h)⟩
  | succ k ih =>
    intro q gg h0_ h1_ h2_ h3_
    refine sr_iload hA si_77_3 rfl ?_
    refine sr_iconst (v := nI 4) hA si_77_5 (by decide) ?_
    refine sr_icmp_gtN (tgt := 44) hA si_77_6 (by decide) (by omega) (by omega) (fun c1 => absurd c1 (by omega)) (fun c1 => ?_)
    refine sr_aload_n hA si_77_9 rfl ?_
    refine sr_aload_n hA si_77_10 rfl ?_
    refine sr_VRv (c := 17) (ci := 4) (as := [.ref 41]) (st := []) hA si_77_11 sv_78 sk_77_77 (xb_begin X gg (v := v) sp_sd41 (by unfold sp_ap; omega) (hv.xa h1_ (by unfold sp_xs; omega) (by unfold sp_xs; omega))) (by omega) rfl (by decide) (by decide) rfl sq_c_78 rfl (Nat.le_of_ble_eq_true rfl) (fun g1 q1 => ?_)
    have ax1 := h1_.tr q1.xa
    refine sr_aload_n hA si_77_14 rfl ?_
    refine sr_iconst (v := nI 0) hA si_77_15 (by decide) ?_
    refine sr_iload hA si_77_16 rfl ?_
    refine sr_iconst (v := nI 0) hA si_77_18 (by decide) ?_
    refine sr_iload_n hA si_77_19 rfl ?_
    refine sr_aload_n hA si_77_20 rfl ?_
    refine sr_iload hA si_77_21 rfl ?_
    refine sr_VRi (c := 17) (ci := 4) (as := [.int (nI 0), .int (nI q), .int (nI 0), .int (nI c), .ref 1, .int (nI r)]) (st := []) hA si_77_23 sv_79 sk_77_80 (xb_dg X (q := q) (c := c) (r := r) (by omega) hc9 hzb hks q 0 0 A Bq v (fun _ => 0) g1 (by omega) (by omega) (by omega) (by omega) (hK.xa ax1) (hp.xa ax1) q1.2.2.1 hB (fun j hj => absurd hj (by omega))) (by omega) rfl (by decide) (by decide) rfl sq_c_79 rfl (Nat.le_of_ble_eq_true rfl) (fun xv g2 q2 => ?_)
    obtain ⟨hl2, h17b, hn2, hs2⟩ := q2
    have h17 : g2.1 17 5 = -1 := by rw [h17b]; exact q1.2.2.2.2.1
    have ax2 := ax1.tr hl2.xa
    rcases hR : sp_dgo n K T P f z c q 0 0 v (fun _ => 0) with _ | w1
    · have exv := hn2 hR
      subst exv
      refine sr_if_eqN (tgt := 38) hA si_77_26 (by decide) (by omega) (fun c2 => ?_) (fun c2 => absurd c2 (by omega))
      refine sr_iincN (x := q) (y := 1) (ls1 := [.ref 17, .ref 41, .int (nI c), .ref 1, .int (nI r), .int (nI (q + 1))]) hA si_77_38 rfl rfl (by rw [sq_l_77]; decide) rfl ?_
      refine sr_goto (tgt := 3) hA si_77_41 (by decide) ?_
      exact ih (q + 1) g2 (by omega) ax2 (fun _ => h17) (by rw [← h3_]; exact (sp_fdn hR).symm)
    · obtain ⟨exv, hwy⟩ := hs2 w1 hR
      subst exv
      refine sr_if_eqN (tgt := 38) hA si_77_26 (by decide) (by omega) (fun c3 => absurd c3 (by omega)) (fun c3 => ?_)
      refine sr_aload_n hA si_77_29 rfl ?_
      refine sr_iload hA si_77_30 rfl ?_
      refine sr_VRv (c := 17) (ci := 4) (as := [.int (nI q)]) (st := []) hA si_77_32 sv_80 sk_77_84 (xb_rmb X g2 (q := q) (by omega)) (by omega) rfl (by decide) (by decide) rfl sq_c_80 rfl (Nat.le_of_ble_eq_true rfl) (fun g3 q3 => ?_)
      refine sr_iload hA si_77_35 rfl ?_
      have e9 : R0 = some (q, w1) := by rw [← h3_]; exact sp_fds hR
      have ax3 := ax2.tr (q3.dx (d := 0) (by omega)).xa
      exact sr_iretR hA si_77_37 sq_r_77 ⟨ax3, fun h => (by rw [e9] at h; cases h), fun q0 w0 h => (by rw [e9] at h; cases h; exact ⟨by omega, rfl, q3.2.2.2.1, fun j hj => (q3.2.2.2.2 j hj).trans (hwy j hj)⟩)⟩
set_option maxRecDepth 20000 in
theorem xb_fd (X : sp_X) (g : sp_G) {c n r z A Bq : Nat} {K T P v f : Nat → Int32} (hc9 : c ≤ 9) (hK : sp_KX n K T P g) (hp : sp_PX r z f g) (hzb : z ≤ 12) (hks : sp_ks f n z) (hv : sp_h8 g 41 42 v) (hB : sp_oB n A Bq v) (hAb : A < 2 ^ 19) (hBb : Bq < 2 ^ 19) : sp_Ct X 11 77 [.ref 17, .ref 41, .int (nI c), .ref 1, .int (nI r)] g (sp_Ri (fun x g' => sp_xa g g' ∧ sp_fq g' (sp_fdo n K T P f z c v 5 0) x)) := by
  refine sp_walkN (n := 6) sq_p_77 sq_l_77 (Nat.le_of_ble_eq_true rfl) (fun ac hA => ?_)
  show sp_Ev X ac 77 0 [.ref 17, .ref 41, .int (nI c), .ref 1, .int (nI r), .null] [] g
  refine sr_iconst (v := nI 0) hA si_77_0 (by decide) ?_
  refine sr_istore (ls1 := [.ref 17, .ref 41, .int (nI c), .ref 1, .int (nI r), .int (nI 0)]) hA si_77_1 (by rw [sq_l_77]; decide) rfl ?_
  exact xl_fd hc9 hK hp hzb hks hv hB hAb hBb hA 5 0 g (by omega) sp_xa.rf (fun h => absurd h (by omega)) rfl
