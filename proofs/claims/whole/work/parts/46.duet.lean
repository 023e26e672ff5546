/-- a piece on two pianos, in turns -/
def sp_du (n : Nat) (K T P f : Nat → Int32) : Nat → (Nat → Int32) → (Nat → Int32) → Nat → Nat
  | 0, _, _, i => i
  | m + 1, v, w, i => if sp_cb (K (f i).toNatClampNeg) (T (f i).toNatClampNeg) (v (f i).toNatClampNeg) = true then sp_du n K T P f m w (sp_pl n K P v (f i).toNatClampNeg) (i + 1) else i
theorem xa_tellK (X : sp_X) (g : sp_G) {k m : Nat} {w : Nat → Int32} (hk : k < 3) (hd : g.1 (50 + k) 1 = nI m) (hdb : m ≤ 60) (hw : ∀ i, i < 9 → g.1 (53 + k) (9 * m + i) = w i) : sp_Ct X 1 67 [.ref (50 + k), .ref 45] g (sp_Rv (fun g' => sp_sx 45 46 g g' ∧ sp_hS g' 45 46 w)) :=
  (xc_tellK X g hk hd hdb).V ⟨sp_sx.S, fun j hj => by rw [sp_sv_s (by decide) hj]; exact hw j hj⟩
theorem sp_hP.wI {g : sp_G} {f j c : Nat} {v : Nat → Int32} {x : Int32} (h : sp_hP g f v) (hj : c ≠ 75 ∨ j < 9 * f ∨ 9 * f + 9 ≤ j) : sp_hP (sp_wI g c j x) f v := fun i hi => by
  rw [← h i hi]
  show (if 75 = c ∧ 9 * f + i = j then x else g.1 75 (9 * f + i)) = _
  rw [if_neg (by omega)]
  rfl
set_option maxRecDepth 20000 in
theorem xl_duet {X : sp_X} {ac : sp_Ac} {g : sp_G} {n r z : Nat} {K T P f : Nat → Int32} (hK : sp_KX n K T P g) (hp : sp_PX r z f g) (hzb : z ≤ 12) (hks : sp_ks f n z) {R0 : Nat} (hA : sp_Act X 84 8 (sp_Ri (fun x g' => x = nI R0 ∧ sp_xa g g')) ac) : ∀ (m : Nat) (i : Nat) (gg : sp_G) (v : Nat → Int32) (w : Nat → Int32) (A : Nat) (Bq : Nat), i + m = z → sp_xa g gg → ((i % 2 = 0 → sp_hS gg 43 44 v ∧ sp_hS gg 45 46 w) ∧ (i % 2 = 1 → sp_hS gg 45 46 v ∧ sp_hS gg 43 44 w)) → sp_oB n A Bq v → sp_oB n A Bq w → A < 2 ^ 19 + 2 * i → Bq < 2 ^ 19 + 2 * i → sp_du n K T P f m v w i = R0 → sp_Ev X ac 84 91 [.ref 0, .null, .int (nI r), .null, .int (nI z), .int (nI i), .null, .null] [] gg := by
  intro m
  induction m with
  | zero =>
    intro i gg v w A Bq h0_ h1_ h2_ h3_ h4_ h5_ h6_ h7_
    obtain ⟨hn, hn6, -⟩ := id hK
    obtain ⟨hr, -, -, -⟩ := id hp
    refine sr_iload hA si_84_91 rfl ?_
    refine sr_iload hA si_84_93 rfl ?_
    refine sr_icmp_geN (tgt := 164) hA si_84_95 (by decide) (by omega) (by omega) (fun c1 => ?_) (fun c1 => absurd c1 (by omega))
    refine sr_iload hA si_84_164 rfl ?_
    exact sr_iretR hA si_84_166 sq_r_84 ⟨by rw [← h7_]; show nI z = nI i; rw [show z = i by omega], h1_⟩
  | succ m ih =>
    intro i gg v w A Bq h0_ h1_ h2_ h3_ h4_ h5_ h6_ h7_
    obtain ⟨hn, hn6, -⟩ := id hK
    obtain ⟨hr, -, -, -⟩ := id hp
    obtain ⟨a, ha, ea⟩ := hks i (by omega)
    rcases Nat.mod_two_eq_zero_or_one i with hpar | hpar
    · refine sr_iload hA si_84_91 rfl ?_
      refine sr_iload hA si_84_93 rfl ?_
      refine sr_icmp_geN (tgt := 164) hA si_84_95 (by decide) (by omega) (by omega) (fun c1 => absurd c1 (by omega)) (fun c1 => ?_)
      refine sr_iload hA si_84_98 rfl ?_
      refine sr_iconst (v := nI 2) hA si_84_100 (by decide) ?_
      refine sr_iremN hA si_84_101 (by omega) (by omega) (by omega) ?_
      refine sr_if_neN (tgt := 112) hA si_84_102 (by decide) (by omega) (fun c2 => absurd c2 (by omega)) (fun c2 => ?_)
      refine sr_aload_n hA si_84_105 rfl ?_
      refine sr_getR (r := 43) hA si_84_106 sf_84_40 (by decide) (by decide) rfl rfl rfl ?_
      refine sr_goto (tgt := 116) hA si_84_109 (by decide) ?_
      refine sr_astore (ls1 := [.ref 0, .null, .int (nI r), .null, .int (nI z), .int (nI i), .ref 43, .null]) hA si_84_116 (by rw [sq_l_84]; decide) rfl ?_
      refine sr_aload_n hA si_84_118 rfl ?_
      refine sr_getR (r := 1) hA si_84_119 sf_84_14 (by decide) (by decide) rfl rfl rfl ?_
      refine sr_iload_n hA si_84_122 rfl ?_
      refine sr_iload hA si_84_123 rfl ?_
      refine sr_VFi (c := 1) (ci := 5) (as := [.int (nI r), .int (nI i)]) (st := []) hA si_84_125 sv_18 sk_84_88 (xc_getR X gg (v := nI a) (by omega) (by omega) (by rw [h1_.i (3 + r) (by unfold sp_xs; omega)]; exact ((hp.2.2.2 i (by omega)).trans ea))) (by omega) rfl (by decide) (by decide) rfl sq_c_18 rfl (Nat.le_of_ble_eq_true rfl) ?_
      refine sr_istore (ls1 := [.ref 0, .null, .int (nI r), .null, .int (nI z), .int (nI i), .ref 43, .int (nI a)]) hA si_84_128 (by rw [sq_l_84]; decide) rfl ?_
      refine sr_aload_n hA si_84_130 rfl ?_
      refine sr_getR (r := 18) hA si_84_131 sf_84_32 (by decide) (by decide) rfl rfl rfl ?_
      refine sr_iload hA si_84_134 rfl ?_
      refine sr_aload hA si_84_136 rfl ?_
      by_cases hcb : sp_cb (K a) (T a) (v a) = true
      · refine sr_VFi (c := 18) (ci := 0) (as := [.int (nI a), .ref 43]) (st := []) hA si_84_138 sv_45 sk_84_185 (xa_bears1 X gg (v := v) sp_sd43 (hK.xa h1_) (by omega) (h2_.1 hpar).1 hcb) (by omega) rfl (by decide) (by decide) rfl sq_c_45 rfl (Nat.le_of_ble_eq_true rfl) ?_
        refine sr_if_neN (tgt := 147) hA si_84_141 (by decide) (by omega) (fun c3 => ?_) (fun c3 => absurd c3 (by omega))
        refine sr_aload_n hA si_84_147 rfl ?_
        refine sr_getR (r := 18) hA si_84_148 sf_84_32 (by decide) (by decide) rfl rfl rfl ?_
        refine sr_iload hA si_84_151 rfl ?_
        refine sr_aload hA si_84_153 rfl ?_
        refine sr_VRv (c := 18) (ci := 0) (as := [.int (nI a), .ref 43]) (st := []) hA si_84_155 sv_55 sk_84_192 (xa_sound X gg (v := v) sp_sd43 (hK.xa h1_) (by omega) (h2_.1 hpar).1 h3_ (by omega)) (by omega) rfl (by decide) (by decide) rfl sq_c_55 rfl (Nat.le_of_ble_eq_true rfl) (fun gz1 qz1 => ?_)
        have az1 := h1_.sx qz1.1 (by unfold sp_xs; omega) (by unfold sp_xs; omega)
        refine sr_iincN (x := i) (y := 1) (ls1 := [.ref 0, .null, .int (nI r), .null, .int (nI z), .int (nI (i + 1)), .ref 43, .int (nI a)]) hA si_84_158 rfl rfl (by rw [sq_l_84]; decide) rfl ?_
        refine sr_goto (tgt := 91) hA si_84_161 (by decide) ?_
        refine sr_fg (ls1 := [.ref 0, .null, .int (nI r), .null, .int (nI z), .int (nI (i + 1)), .null, .null]) ⟨Or.inr rfl, Or.inl rfl, Or.inr rfl, Or.inl rfl, Or.inr rfl, Or.inr rfl, Or.inl rfl, Or.inl rfl, trivial⟩ ?_
        rw [show sp_du n K T P f (m + 1) v w i = sp_du n K T P f m w (sp_pl n K P v a) (i + 1) from by
            show (if _ then _ else _) = _
            rw [ea, nI_clamp (by omega)]
            exact if_pos hcb] at h7_
        exact ih (i + 1) gz1 w _ (A + 2) (Bq + 2) (by omega) az1 ⟨fun q => absurd q (by omega), fun _ => ⟨((h2_.1 hpar).2.sx qz1.1 (by unfold sp_ap; omega)), qz1.2⟩⟩ (sp_oB.le h4_ (by omega) (by omega)) (sp_oB.pl h3_ hn6 ha (by omega) (by omega)) (by omega) (by omega) h7_
      · refine sr_VFi (c := 18) (ci := 0) (as := [.int (nI a), .ref 43]) (st := []) hA si_84_138 sv_45 sk_84_185 (xa_bears0 X gg (v := v) sp_sd43 (hK.xa h1_) (by omega) (h2_.1 hpar).1 hcb) (by omega) rfl (by decide) (by decide) rfl sq_c_45 rfl (Nat.le_of_ble_eq_true rfl) ?_
        refine sr_if_neN (tgt := 147) hA si_84_141 (by decide) (by omega) (fun c4 => absurd c4 (by omega)) (fun c4 => ?_)
        refine sr_iload hA si_84_144 rfl ?_
        rw [show sp_du n K T P f (m + 1) v w i = i from by
            show (if _ then _ else _) = _
            rw [ea, nI_clamp (by omega)]
            exact if_neg hcb] at h7_
        exact sr_iretR hA si_84_146 sq_r_84 ⟨by rw [← h7_], h1_⟩
    · refine sr_iload hA si_84_91 rfl ?_
      refine sr_iload hA si_84_93 rfl ?_
      refine sr_icmp_geN (tgt := 164) hA si_84_95 (by decide) (by omega) (by omega) (fun c1 => absurd c1 (by omega)) (fun c1 => ?_)
      refine sr_iload hA si_84_98 rfl ?_
      refine sr_iconst (v := nI 2) hA si_84_100 (by decide) ?_
      refine sr_iremN hA si_84_101 (by omega) (by omega) (by omega) ?_
      refine sr_if_neN (tgt := 112) hA si_84_102 (by decide) (by omega) (fun c2 => ?_) (fun c2 => absurd c2 (by omega))
      refine sr_aload_n hA si_84_112 rfl ?_
      refine sr_getR (r := 45) hA si_84_113 sf_84_43 (by decide) (by decide) rfl rfl rfl ?_
      refine sr_astore (ls1 := [.ref 0, .null, .int (nI r), .null, .int (nI z), .int (nI i), .ref 45, .null]) hA si_84_116 (by rw [sq_l_84]; decide) rfl ?_
      refine sr_aload_n hA si_84_118 rfl ?_
      refine sr_getR (r := 1) hA si_84_119 sf_84_14 (by decide) (by decide) rfl rfl rfl ?_
      refine sr_iload_n hA si_84_122 rfl ?_
      refine sr_iload hA si_84_123 rfl ?_
      refine sr_VFi (c := 1) (ci := 5) (as := [.int (nI r), .int (nI i)]) (st := []) hA si_84_125 sv_18 sk_84_88 (xc_getR X gg (v := nI a) (by omega) (by omega) (by rw [h1_.i (3 + r) (by unfold sp_xs; omega)]; exact ((hp.2.2.2 i (by omega)).trans ea))) (by omega) rfl (by decide) (by decide) rfl sq_c_18 rfl (Nat.le_of_ble_eq_true rfl) ?_
      refine sr_istore (ls1 := [.ref 0, .null, .int (nI r), .null, .int (nI z), .int (nI i), .ref 45, .int (nI a)]) hA si_84_128 (by rw [sq_l_84]; decide) rfl ?_
      refine sr_aload_n hA si_84_130 rfl ?_
      refine sr_getR (r := 18) hA si_84_131 sf_84_32 (by decide) (by decide) rfl rfl rfl ?_
      refine sr_iload hA si_84_134 rfl ?_
      refine sr_aload hA si_84_136 rfl ?_
      by_cases hcb : sp_cb (K a) (T a) (v a) = true
      · refine sr_VFi (c := 18) (ci := 0) (as := [.int (nI a), .ref 45]) (st := []) hA si_84_138 sv_45 sk_84_185 (xa_bears1 X gg (v := v) sp_sd45 (hK.xa h1_) (by omega) (h2_.2 hpar).1 hcb) (by omega) rfl (by decide) (by decide) rfl sq_c_45 rfl (Nat.le_of_ble_eq_true rfl) ?_
        refine sr_if_neN (tgt := 147) hA si_84_141 (by decide) (by omega) (fun c3 => ?_) (fun c3 => absurd c3 (by omega))
        refine sr_aload_n hA si_84_147 rfl ?_
        refine sr_getR (r := 18) hA si_84_148 sf_84_32 (by decide) (by decide) rfl rfl rfl ?_
        refine sr_iload hA si_84_151 rfl ?_
        refine sr_aload hA si_84_153 rfl ?_
        refine sr_VRv (c := 18) (ci := 0) (as := [.int (nI a), .ref 45]) (st := []) hA si_84_155 sv_55 sk_84_192 (xa_sound X gg (v := v) sp_sd45 (hK.xa h1_) (by omega) (h2_.2 hpar).1 h3_ (by omega)) (by omega) rfl (by decide) (by decide) rfl sq_c_55 rfl (Nat.le_of_ble_eq_true rfl) (fun gz1 qz1 => ?_)
        have az1 := h1_.sx qz1.1 (by unfold sp_xs; omega) (by unfold sp_xs; omega)
        refine sr_iincN (x := i) (y := 1) (ls1 := [.ref 0, .null, .int (nI r), .null, .int (nI z), .int (nI (i + 1)), .ref 45, .int (nI a)]) hA si_84_158 rfl rfl (by rw [sq_l_84]; decide) rfl ?_
        refine sr_goto (tgt := 91) hA si_84_161 (by decide) ?_
        refine sr_fg (ls1 := [.ref 0, .null, .int (nI r), .null, .int (nI z), .int (nI (i + 1)), .null, .null]) ⟨Or.inr rfl, Or.inl rfl, Or.inr rfl, Or.inl rfl, Or.inr rfl, Or.inr rfl, Or.inl rfl, Or.inl rfl, trivial⟩ ?_
        rw [show sp_du n K T P f (m + 1) v w i = sp_du n K T P f m w (sp_pl n K P v a) (i + 1) from by
            show (if _ then _ else _) = _
            rw [ea, nI_clamp (by omega)]
            exact if_pos hcb] at h7_
        exact ih (i + 1) gz1 w _ (A + 2) (Bq + 2) (by omega) az1 ⟨fun _ => ⟨((h2_.2 hpar).2.sx qz1.1 (by unfold sp_ap; omega)), qz1.2⟩, fun q => absurd q (by omega)⟩ (sp_oB.le h4_ (by omega) (by omega)) (sp_oB.pl h3_ hn6 ha (by omega) (by omega)) (by omega) (by omega) h7_
      · refine sr_VFi (c := 18) (ci := 0) (as := [.int (nI a), .ref 45]) (st := []) hA si_84_138 sv_45 sk_84_185 (xa_bears0 X gg (v := v) sp_sd45 (hK.xa h1_) (by omega) (h2_.2 hpar).1 hcb) (by omega) rfl (by decide) (by decide) rfl sq_c_45 rfl (Nat.le_of_ble_eq_true rfl) ?_
        refine sr_if_neN (tgt := 147) hA si_84_141 (by decide) (by omega) (fun c4 => absurd c4 (by omega)) (fun c4 => ?_)
        refine sr_iload hA si_84_144 rfl ?_
        rw [show sp_du n K T P f (m + 1) v w i = i from by
            show (if _ then _ else _) = _
            rw [ea, nI_clamp (by omega)]
            exact if_neg hcb] at h7_
        exact sr_iretR hA si_84_146 sq_r_84 ⟨by rw [← h7_], h1_⟩
set_option maxRecDepth 20000 in
theorem xc_duet_e (X : sp_X) (g : sp_G) {k q : Nat} (hk : k < 3) {n r z : Nat} {K T P f : Nat → Int32} (hK : sp_KX n K T P g) (hp : sp_PX r z f g) (hzb : z ≤ 12) (hks : sp_ks f n z) {A Bq : Nat} {v w : Nat → Int32} (hB : sp_oB n A Bq v) (hBw : sp_oB n A Bq w) (hAb : A < 2 ^ 19) (hBb : Bq < 2 ^ 19) (hv : sp_hS g 41 42 v) (ht : g.1 (50 + k) 3 = nI 1) (hq : g.1 (50 + k) 1 = nI q) (hqb : q ≤ 60) (hw : ∀ i, i < 9 → g.1 (53 + k) (9 * q + i) = w i) : sp_Ct X 8 84 [.ref 0, .int (nI k), .int (nI r)] g (sp_Ri (fun x g' => x = nI (sp_du n K T P f z v w 0) ∧ sp_xa g g')) := by
  obtain ⟨hn, hn6, -⟩ := id hK
  obtain ⟨hr, -, -, -⟩ := id hp
  refine sp_walkN (n := 8) sq_p_84 sq_l_84 (Nat.le_of_ble_eq_true rfl) (fun ac hA => ?_)
  show sp_Ev X ac 84 0 [.ref 0, .int (nI k), .int (nI r), .null, .null, .null, .null, .null] [] g
  refine sr_iload_n hA si_84_0 rfl ?_
  refine sr_if_ltN (tgt := 20) hA si_84_1 (by decide) (by omega) ?_
  refine sr_iload_n hA si_84_4 rfl ?_
  refine sr_iconst (v := nI 3) hA si_84_5 (by decide) ?_
  refine sr_icmp_geN (tgt := 20) hA si_84_6 (by decide) (by omega) (by omega) (fun c2 => absurd c2 (by omega)) (fun c2 => ?_)
  refine sr_aload_n hA si_84_9 rfl ?_
  refine sr_getR (r := 1) hA si_84_10 sf_84_14 (by decide) (by decide) rfl rfl rfl ?_
  refine sr_iload_n hA si_84_13 rfl ?_
  refine sr_VFi (c := 1) (ci := 5) (as := [.int (nI r)]) (st := []) hA si_84_14 sv_11 sk_84_72 (xc_numR1 X g (by omega)) (by omega) rfl (by decide) (by decide) rfl sq_c_11 rfl (Nat.le_of_ble_eq_true rfl) ?_
  refine sr_if_neN (tgt := 22) hA si_84_17 (by decide) (by omega) (fun c3 => ?_) (fun c3 => absurd c3 (by omega))
  refine sr_aload_n hA si_84_22 rfl ?_
  refine sr_getR (r := 49) hA si_84_23 sf_84_53 (by decide) (by decide) rfl rfl rfl ?_
  refine sr_iload_n hA si_84_26 rfl ?_
  refine sr_aaldN (r := (50 + k)) (n := 3) hA si_84_27 (by decide) (by decide) rfl (by omega) (by decide) (sp_kpr (by omega)) ?_
  refine sr_getIv (v := nI 1) hA si_84_28 sf_84_141 (by decide) (sp_kpK (by omega)) (sp_kpk (by omega)) (by decide) ht ?_
  refine sr_if_eqN (tgt := 42) hA si_84_31 (by decide) (by omega) (fun c4 => absurd c4 (by omega)) (fun c4 => ?_)
  refine sr_aload_n hA si_84_34 rfl ?_
  refine sr_iload_n hA si_84_35 rfl ?_
  refine sr_VFi (c := 0) (ci := 7) (as := [.int (nI r)]) (st := []) hA si_84_36 sv_73 sk_84_223 (xc_pwr0 X g hr hp.2.2.1 hzb hn hn6 (fun i hi => by obtain ⟨a, a1, a2⟩ := hks i hi; exact ⟨a, a1, (hp.2.2.2 i hi).trans a2⟩)) (by omega) rfl (by decide) (by decide) rfl sq_c_73 rfl (Nat.le_of_ble_eq_true rfl) ?_
  refine sr_goto (tgt := 43) hA si_84_39 (by decide) ?_
  refine sr_istore_n (ls1 := [.ref 0, .int (nI k), .int (nI r), .int (nI 0), .null, .null, .null, .null]) hA si_84_43 rfl (by rw [sq_l_84]; decide) rfl ?_
  refine sr_iload_n hA si_84_44 rfl ?_
  refine sr_if_eqN (tgt := 54) hA si_84_45 (by decide) (by omega) (fun c5 => ?_) (fun c5 => absurd c5 (by omega))
  refine sr_aload_n hA si_84_54 rfl ?_
  refine sr_getR (r := 43) hA si_84_55 sf_84_40 (by decide) (by decide) rfl rfl rfl ?_
  refine sr_aload_n hA si_84_58 rfl ?_
  refine sr_getR (r := 41) hA si_84_59 sf_84_36 (by decide) (by decide) rfl rfl rfl ?_
  refine sr_VRv (c := 43) (ci := 2) (as := [.ref 41]) (st := []) hA si_84_62 sv_39 sk_84_131 (xa_take X g (v := v) sp_sd43 sp_sd41 (by unfold sp_ap; omega) hv) (by omega) rfl (by decide) (by decide) rfl sq_c_39 rfl (Nat.le_of_ble_eq_true rfl) (fun gz1 qz1 => ?_)
  have az1 := sp_xa.rf.sx qz1.1 (by unfold sp_xs; omega) (by unfold sp_xs; omega)
  refine sr_aload_n hA si_84_65 rfl ?_
  refine sr_getR (r := 49) hA si_84_66 sf_84_53 (by decide) (by decide) rfl rfl rfl ?_
  refine sr_iload_n hA si_84_69 rfl ?_
  refine sr_aaldN (r := (50 + k)) (n := 3) hA si_84_70 (by decide) (by decide) rfl (by omega) (by decide) (sp_kpr (by omega)) ?_
  refine sr_aload_n hA si_84_71 rfl ?_
  refine sr_getR (r := 45) hA si_84_72 sf_84_43 (by decide) (by decide) rfl rfl rfl ?_
  refine sr_VRv (c := (50 + k)) (ci := 6) (as := [.ref 45]) (st := []) hA si_84_75 sv_67 sk_84_217 (xa_tellK X gz1 (k := k) (m := q) (w := w) hk (by rw [az1.i (50 + k) (by unfold sp_xs; omega)]; exact hq) hqb (fun i hi => by rw [az1.i (53 + k) (by unfold sp_xs; omega)]; exact hw i hi)) (by omega) rfl (by decide) (sp_kpK (by omega)) (sp_kpk (by omega)) sq_c_67 rfl (Nat.le_of_ble_eq_true rfl) (fun gz2 qz2 => ?_)
  have az2 := az1.sx qz2.1 (by unfold sp_xs; omega) (by unfold sp_xs; omega)
  refine sr_aload_n hA si_84_78 rfl ?_
  refine sr_getR (r := 1) hA si_84_79 sf_84_14 (by decide) (by decide) rfl rfl rfl ?_
  refine sr_iload_n hA si_84_82 rfl ?_
  refine sr_VFi (c := 1) (ci := 5) (as := [.int (nI r)]) (st := []) hA si_84_83 sv_26 sk_84_114 (xc_sizeR X gz2 (z := nI z) (by omega) (by rw [az2.i 9 (by unfold sp_xs; omega)]; exact hp.2.2.1)) (by omega) rfl (by decide) (by decide) rfl sq_c_26 rfl (Nat.le_of_ble_eq_true rfl) ?_
  refine sr_istore (ls1 := [.ref 0, .int (nI k), .int (nI r), .int (nI 0), .int (nI z), .null, .null, .null]) hA si_84_86 (by rw [sq_l_84]; decide) rfl ?_
  refine sr_iconst (v := nI 0) hA si_84_88 (by decide) ?_
  refine sr_istore (ls1 := [.ref 0, .int (nI k), .int (nI r), .int (nI 0), .int (nI z), .int (nI 0), .null, .null]) hA si_84_89 (by rw [sq_l_84]; decide) rfl ?_
  refine sr_fg (ls1 := [.ref 0, .null, .int (nI r), .null, .int (nI z), .int (nI 0), .null, .null]) ⟨Or.inr rfl, Or.inl rfl, Or.inr rfl, Or.inl rfl, Or.inr rfl, Or.inr rfl, Or.inl rfl, Or.inl rfl, trivial⟩ ?_
  exact xl_duet hK hp hzb hks hA z 0 gz2 v w A Bq (by omega) az2 ⟨fun _ => ⟨(qz1.2.sx qz2.1 (by unfold sp_ap; omega)), qz2.2⟩, fun q => absurd q (by decide)⟩ hB hBw (by omega) (by omega) rfl
set_option maxRecDepth 20000 in
theorem ml_duet {X : sp_X} {ac : sp_Ac} {g : sp_G} {n r z : Nat} {K T P f : Nat → Int32} (hK : sp_KM n K T P g) (hp : sp_PM r z f g) (hzb : z ≤ 12) (hks : sp_ks f n z) {R0 : Nat} (hA : sp_Act X 199 8 (sp_Ri (fun x g' => x = nI R0 ∧ sp_ma g g')) ac) : ∀ (m : Nat) (i : Nat) (gg : sp_G) (v : Nat → Int32) (w : Nat → Int32) (A : Nat) (Bq : Nat), i + m = z → sp_ma g gg → (sp_hP gg (1 + i % 2) v ∧ sp_hP gg (2 - i % 2) w) → sp_oB n A Bq v → sp_oB n A Bq w → A < 2 ^ 19 + 2 * i → Bq < 2 ^ 19 + 2 * i → sp_du n K T P f m v w i = R0 → sp_Ev X ac 199 98 [.ref 64, .null, .int (nI r), .null, .int (nI i)] [] gg := by
  intro m
  induction m with
  | zero =>
    intro i gg v w A Bq h0_ h1_ h2_ h3_ h4_ h5_ h6_ h7_
    obtain ⟨hn, hn6, -⟩ := id hK
    obtain ⟨hr, -, -, -⟩ := id hp
    refine sr_iload hA si_199_98 rfl ?_
    refine sr_aload_n hA si_199_100 rfl ?_
    refine sr_getR (r := 66) hA si_199_101 sf_199_17 (by decide) (by decide) rfl rfl rfl ?_
    refine sr_iload_n hA si_199_104 rfl ?_
    refine sr_ialdNv (v := nI z) (n := 6) hA si_199_105 (by decide) rfl rfl (by omega) (by decide) (by rw [h1_.i 66 (by omega) (by omega) (by omega)]; exact hp.2.2.1) ?_
    refine sr_icmp_geN (tgt := 152) hA si_199_106 (by decide) (by omega) (by omega) (fun c1 => ?_) (fun c1 => absurd c1 (by omega))
    refine sr_iload hA si_199_152 rfl ?_
    exact sr_iretR hA si_199_154 sq_r_199 ⟨by rw [← h7_]; rfl, h1_⟩
  | succ m ih =>
    intro i gg v w A Bq h0_ h1_ h2_ h3_ h4_ h5_ h6_ h7_
    obtain ⟨hn, hn6, -⟩ := id hK
    obtain ⟨hr, -, -, -⟩ := id hp
    obtain ⟨a, ha, ea⟩ := hks i (by omega)
    refine sr_iload hA si_199_98 rfl ?_
    refine sr_aload_n hA si_199_100 rfl ?_
    refine sr_getR (r := 66) hA si_199_101 sf_199_17 (by decide) (by decide) rfl rfl rfl ?_
    refine sr_iload_n hA si_199_104 rfl ?_
    refine sr_ialdNv (v := nI z) (n := 6) hA si_199_105 (by decide) rfl rfl (by omega) (by decide) (by rw [h1_.i 66 (by omega) (by omega) (by omega)]; exact hp.2.2.1) ?_
    refine sr_icmp_geN (tgt := 152) hA si_199_106 (by decide) (by omega) (by omega) (fun c1 => absurd c1 (by omega)) (fun c1 => ?_)
    refine sr_aload_n hA si_199_109 rfl ?_
    refine sr_iconst (v := nI 1) hA si_199_110 (by decide) ?_
    refine sr_iload hA si_199_111 rfl ?_
    refine sr_iconst (v := nI 2) hA si_199_113 (by decide) ?_
    refine sr_iremN hA si_199_114 (by omega) (by omega) (by omega) ?_
    refine sr_iaddN hA si_199_115 ?_
    refine sr_aload_n hA si_199_116 rfl ?_
    refine sr_iload_n hA si_199_117 rfl ?_
    refine sr_iload hA si_199_118 rfl ?_
    refine sr_VFi (c := 64) (ci := 8) (as := [.int (nI r), .int (nI i)]) (st := [.int (nI (1 + (i % 2))), .ref 64]) hA si_199_120 sv_143 sk_199_101 (by have h := mc_rowAt X gg (r := r) (i := i) (by omega); rw [show gg.1 67 (40 * r + i) = nI a from ((hp.ma h1_).2.2.2 i (by omega)).trans ea] at h; exact h) (by omega) rfl (by decide) (by decide) rfl sq_c_143 rfl (Nat.le_of_ble_eq_true rfl) ?_
    by_cases hcb : sp_cb (K a) (T a) (v a) = true
    · refine sr_VFi (c := 64) (ci := 8) (as := [.int (nI (1 + (i % 2))), .int (nI a)]) (st := []) hA si_199_123 sv_165 sk_199_155 (ma_can1 X gg (f := (1 + (i % 2))) (i := a) (v := v) (by omega) (hK.ma h1_) (by omega) h2_.1 hcb) (by omega) rfl (by decide) (by decide) rfl sq_c_165 rfl (Nat.le_of_ble_eq_true rfl) ?_
      refine sr_if_eqN (tgt := 152) hA si_199_126 (by decide) (by omega) (fun c2 => absurd c2 (by omega)) (fun c2 => ?_)
      refine sr_aload_n hA si_199_129 rfl ?_
      refine sr_iconst (v := nI 1) hA si_199_130 (by decide) ?_
      refine sr_iload hA si_199_131 rfl ?_
      refine sr_iconst (v := nI 2) hA si_199_133 (by decide) ?_
      refine sr_iremN hA si_199_134 (by omega) (by omega) (by omega) ?_
      refine sr_iaddN hA si_199_135 ?_
      refine sr_aload_n hA si_199_136 rfl ?_
      refine sr_iload_n hA si_199_137 rfl ?_
      refine sr_iload hA si_199_138 rfl ?_
      refine sr_VFi (c := 64) (ci := 8) (as := [.int (nI r), .int (nI i)]) (st := [.int (nI (1 + (i % 2))), .ref 64]) hA si_199_140 sv_143 sk_199_101 (by have h := mc_rowAt X gg (r := r) (i := i) (by omega); rw [show gg.1 67 (40 * r + i) = nI a from ((hp.ma h1_).2.2.2 i (by omega)).trans ea] at h; exact h) (by omega) rfl (by decide) (by decide) rfl sq_c_143 rfl (Nat.le_of_ble_eq_true rfl) ?_
      refine sr_VRv (c := 64) (ci := 8) (as := [.int (nI (1 + (i % 2))), .int (nI a)]) (st := []) hA si_199_143 sv_175 sk_199_192 (ma_plays X gg (f := (1 + (i % 2))) (i := a) (v := v) (by omega) (hK.ma h1_) (by omega) h2_.1) (by omega) rfl (by decide) (by decide) rfl sq_c_175 rfl (Nat.le_of_ble_eq_true rfl) (fun gz1 qz1 => ?_)
      have az1 := h1_.fx qz1.1 (by omega)
      refine sr_iincN (x := i) (y := 1) (ls1 := [.ref 64, .null, .int (nI r), .null, .int (nI (i + 1))]) hA si_199_146 rfl rfl (by rw [sq_l_199]; decide) rfl ?_
      refine sr_goto (tgt := 98) hA si_199_149 (by decide) ?_
      rw [show sp_du n K T P f (m + 1) v w i = sp_du n K T P f m w (sp_pl n K P v a) (i + 1) from by
          show (if _ then _ else _) = _
          rw [ea, nI_clamp (by omega)]
          exact if_pos hcb] at h7_
      exact ih (i + 1) gz1 w _ (A + 2) (Bq + 2) (by omega) az1 ⟨by rw [show 1 + (i + 1) % 2 = 2 - i % 2 by omega]; exact (h2_.2.fx qz1.1 (by omega)), by rw [show 2 - (i + 1) % 2 = 1 + i % 2 by omega]; exact qz1.2⟩ (sp_oB.le h4_ (by omega) (by omega)) (sp_oB.pl h3_ hn6 ha (by omega) (by omega)) (by omega) (by omega) h7_
    · refine sr_VFi (c := 64) (ci := 8) (as := [.int (nI (1 + (i % 2))), .int (nI a)]) (st := []) hA si_199_123 sv_165 sk_199_155 (ma_can0 X gg (f := (1 + (i % 2))) (i := a) (v := v) (by omega) (hK.ma h1_) (by omega) h2_.1 hcb) (by omega) rfl (by decide) (by decide) rfl sq_c_165 rfl (Nat.le_of_ble_eq_true rfl) ?_
      refine sr_if_eqN (tgt := 152) hA si_199_126 (by decide) (by omega) (fun c3 => ?_) (fun c3 => absurd c3 (by omega))
      refine sr_iload hA si_199_152 rfl ?_
      rw [show sp_du n K T P f (m + 1) v w i = i from by
          show (if _ then _ else _) = _
          rw [ea, nI_clamp (by omega)]
          exact if_neg hcb] at h7_
      exact sr_iretR hA si_199_154 sq_r_199 ⟨by rw [← h7_], h1_⟩
set_option maxRecDepth 20000 in
theorem ml_duetc {X : sp_X} {ac : sp_Ac} {g : sp_G} {n r z : Nat} {K T P f : Nat → Int32} (hK : sp_KM n K T P g) (hp : sp_PM r z f g) (hzb : z ≤ 12) (hks : sp_ks f n z) {A Bq : Nat} {v w : Nat → Int32} {k : Nat} (hk : k < 3) (hB : sp_oB n A Bq v) (hBw : sp_oB n A Bq w) (hAb : A < 2 ^ 19) (hBb : Bq < 2 ^ 19) (hw : ∀ i, i < 9 → g.1 80 (9 * k + i) = w i) (hA : sp_Act X 199 8 (sp_Ri (fun x g' => x = nI (sp_du n K T P f z v w 0) ∧ sp_ma g g')) ac) : ∀ (m : Nat) (i : Nat) (gg : sp_G), i + m = 9 → sp_ma g gg → sp_hP gg 1 v → (∀ j, j < i → gg.1 75 (9 * 2 + j) = w j) → sp_Ev X ac 199 63 [.ref 64, .int (nI k), .int (nI r), .null, .int (nI i)] [] gg := by
  intro m
  induction m with
  | zero =>
    intro i gg h0_ h1_ h2_ h3_
    obtain ⟨hn, hn6, -⟩ := id hK
    obtain ⟨hr, -, -, -⟩ := id hp
    refine sr_iload hA si_199_63 rfl ?_
    refine sr_bipush (v := nI 9) hA si_199_65 (by decide) ?_
    refine sr_icmp_geN (tgt := 95) hA si_199_67 (by decide) (by omega) (by omega) (fun c1 => ?_) (fun c1 => absurd c1 (by omega))
    refine sr_iconst (v := nI 0) hA si_199_95 (by decide) ?_
    refine sr_istore (ls1 := [.ref 64, .int (nI k), .int (nI r), .null, .int (nI 0)]) hA si_199_96 (by rw [sq_l_199]; decide) rfl ?_
    refine sr_fg (ls1 := [.ref 64, .null, .int (nI r), .null, .int (nI 0)]) ⟨Or.inr rfl, Or.inl rfl, Or.inr rfl, Or.inl rfl, Or.inr rfl, trivial⟩ ?_
    exact ml_duet hK hp hzb hks hA z 0 gg v w A Bq (by omega) h1_ ⟨h2_, fun j hj => h3_ j (by omega)⟩ hB hBw (by omega) (by omega) rfl
  | succ m ih =>
    intro i gg h0_ h1_ h2_ h3_
    obtain ⟨hn, hn6, -⟩ := id hK
    obtain ⟨hr, -, -, -⟩ := id hp
    refine sr_iload hA si_199_63 rfl ?_
    refine sr_bipush (v := nI 9) hA si_199_65 (by decide) ?_
    refine sr_icmp_geN (tgt := 95) hA si_199_67 (by decide) (by omega) (by omega) (fun c1 => absurd c1 (by omega)) (fun c1 => ?_)
    refine sr_aload_n hA si_199_70 rfl ?_
    refine sr_iconst (v := nI 2) hA si_199_71 (by decide) ?_
    refine sr_iload hA si_199_72 rfl ?_
    refine sr_aload_n hA si_199_74 rfl ?_
    refine sr_getR (r := 80) hA si_199_75 sf_199_61 (by decide) (by decide) rfl rfl rfl ?_
    refine sr_bipush (v := nI 9) hA si_199_78 (by decide) ?_
    refine sr_iload_n hA si_199_80 rfl ?_
    refine sr_imulN hA si_199_81 ?_
    refine sr_iload hA si_199_82 rfl ?_
    refine sr_iaddN hA si_199_84 ?_
    refine sr_ialdNv (v := w i) (n := 27) hA si_199_85 (by decide) rfl rfl (by omega) (by decide) (by rw [h1_.i 80 (by omega) (by omega) (by omega)]; exact (hw i (by omega))) ?_
    refine sr_VFv (c := 64) (ci := 8) (as := [.int (nI 2), .int (nI i), .int (w i)]) (st := []) hA si_199_86 sv_160 sk_199_145 (mc_place X gg (f := 2) (i := i) (by omega) (w i)) (by omega) rfl (by decide) (by decide) rfl sq_c_160 rfl (Nat.le_of_ble_eq_true rfl) ?_
    refine sr_iincN (x := i) (y := 1) (ls1 := [.ref 64, .int (nI k), .int (nI r), .null, .int (nI (i + 1))]) hA si_199_89 rfl rfl (by rw [sq_l_199]; decide) rfl ?_
    refine sr_goto (tgt := 63) hA si_199_92 (by decide) ?_
    refine ih (i + 1) _ (by omega) (h1_.wI (by omega)) (h2_.wI (by omega)) (fun j hj => ?_)
    rw [sp_rd]
    by_cases e : j = i
    · subst e; rw [if_pos ⟨rfl, rfl⟩]
    · rw [if_neg (by omega)]; exact h3_ j (by omega)
set_option maxRecDepth 20000 in
theorem mc_duet_e (X : sp_X) (g : sp_G) {n r z : Nat} {K T P f : Nat → Int32} (hK : sp_KM n K T P g) (hp : sp_PM r z f g) (hzb : z ≤ 12) (hks : sp_ks f n z) {A Bq : Nat} {v w : Nat → Int32} {k : Nat} (hk : k < 3) (hB : sp_oB n A Bq v) (hBw : sp_oB n A Bq w) (hAb : A < 2 ^ 19) (hBb : Bq < 2 ^ 19) (hw : ∀ i, i < 9 → g.1 80 (9 * k + i) = w i) (hv : sp_hP g 0 v) (ht : g.1 77 k = nI 1) : sp_Ct X 8 199 [.ref 64, .int (nI k), .int (nI r)] g (sp_Ri (fun x g' => x = nI (sp_du n K T P f z v w 0) ∧ sp_ma g g')) := by
  obtain ⟨hn, hn6, -⟩ := id hK
  obtain ⟨hr, -, -, -⟩ := id hp
  refine sp_walkN (n := 5) sq_p_199 sq_l_199 (Nat.le_of_ble_eq_true rfl) (fun ac hA => ?_)
  show sp_Ev X ac 199 0 [.ref 64, .int (nI k), .int (nI r), .null, .null] [] g
  refine sr_iload_n hA si_199_0 rfl ?_
  refine sr_iconst (v := nI 0) hA si_199_1 (by decide) ?_
  refine sr_iconst (v := nI 2) hA si_199_2 (by decide) ?_
  refine sr_SFi (as := [.int (nI k), .int (nI 0), .int (nI 2)]) (st := []) hA si_199_3 ss_135 sk_199_83 (mc_inN X g (by omega) (by omega) (by omega)) (by omega) rfl rfl (Nat.le_of_ble_eq_true rfl) ?_
  refine sr_if_eqN (tgt := 16) hA si_199_6 (by decide) (by omega) (fun c1 => absurd c1 (by omega)) (fun c1 => ?_)
  refine sr_iload_n hA si_199_9 rfl ?_
  refine sr_SFi (as := [.int (nI r)]) (st := []) hA si_199_10 ss_140 sk_199_93 (mc_isRow1 X g (by omega)) (by omega) rfl rfl (Nat.le_of_ble_eq_true rfl) ?_
  refine sr_if_neN (tgt := 18) hA si_199_13 (by decide) (by omega) (fun c2 => ?_) (fun c2 => absurd c2 (by omega))
  refine sr_aload_n hA si_199_18 rfl ?_
  refine sr_getR (r := 66) hA si_199_19 sf_199_17 (by decide) (by decide) rfl rfl rfl ?_
  refine sr_iload_n hA si_199_22 rfl ?_
  refine sr_ialdNv (v := nI z) (n := 6) hA si_199_23 (by decide) rfl rfl (by omega) (by decide) hp.2.2.1 ?_
  refine sr_if_ltN (tgt := 36) hA si_199_24 (by decide) (by omega) ?_
  refine sr_aload_n hA si_199_27 rfl ?_
  refine sr_getR (r := 77) hA si_199_28 sf_199_51 (by decide) (by decide) rfl rfl rfl ?_
  refine sr_iload_n hA si_199_31 rfl ?_
  refine sr_zaldNv (v := nI 1) (n := 3) hA si_199_32 (by decide) rfl rfl (by omega) (by decide) ht ?_
  refine sr_if_neN (tgt := 42) hA si_199_33 (by decide) (by omega) (fun c4 => ?_) (fun c4 => absurd c4 (by omega))
  refine sr_aload_n hA si_199_42 rfl ?_
  refine sr_iload_n hA si_199_43 rfl ?_
  refine sr_VFi (c := 64) (ci := 8) (as := [.int (nI r)]) (st := []) hA si_199_44 sv_191 sk_199_206 (mc_po0 X g hr hp.2.2.1 hzb hn hn6 (fun i hi => by obtain ⟨a, a1, a2⟩ := hks i hi; exact ⟨a, a1, (hp.2.2.2 i hi).trans a2⟩)) (by omega) rfl (by decide) (by decide) rfl sq_c_191 rfl (Nat.le_of_ble_eq_true rfl) ?_
  refine sr_istore_n (ls1 := [.ref 64, .int (nI k), .int (nI r), .int (nI 0), .null]) hA si_199_47 rfl (by rw [sq_l_199]; decide) rfl ?_
  refine sr_iload_n hA si_199_48 rfl ?_
  refine sr_if_geN (tgt := 54) hA si_199_49 (by decide) (by omega) ?_
  refine sr_aload_n hA si_199_54 rfl ?_
  refine sr_iconst (v := nI 0) hA si_199_55 (by decide) ?_
  refine sr_iconst (v := nI 1) hA si_199_56 (by decide) ?_
  refine sr_VRv (c := 64) (ci := 8) (as := [.int (nI 0), .int (nI 1)]) (st := []) hA si_199_57 sv_192 sk_199_212 (ma_copyTo X g (f := 0) (t := 1) (v := v) (by omega) (by omega) (by omega) hv) (by omega) rfl (by decide) (by decide) rfl sq_c_192 rfl (Nat.le_of_ble_eq_true rfl) (fun gz1 qz1 => ?_)
  have az1 := sp_ma.rf.fx qz1.1 (by omega)
  refine sr_iconst (v := nI 0) hA si_199_60 (by decide) ?_
  refine sr_istore (ls1 := [.ref 64, .int (nI k), .int (nI r), .int (nI 0), .int (nI 0)]) hA si_199_61 (by rw [sq_l_199]; decide) rfl ?_
  refine sr_fg (ls1 := [.ref 64, .int (nI k), .int (nI r), .null, .int (nI 0)]) ⟨Or.inr rfl, Or.inr rfl, Or.inr rfl, Or.inl rfl, Or.inr rfl, trivial⟩ ?_
  exact ml_duetc hK hp hzb hks hk hB hBw hAb hBb hw hA 9 0 gz1 (by omega) az1 qz1.2 (fun j hj => absurd hj (by omega))
set_option maxRecDepth 20000 in
theorem xc_duet_a (X : sp_X) (g : sp_G) {k : Int32} (hk : k < 0) (r : Int32) : sp_Ct X 9 84 [.ref 0, .int k, .int r] g (sp_Fi (-1) g) := by
  refine sp_walkN (n := 8) sq_p_84 sq_l_84 (Nat.le_of_ble_eq_true rfl) (fun a hA => ?_)
  show sp_Ev X a 84 0 [.ref 0, .int k, .int r, .null, .null, .null, .null, .null] [] g
  refine sr_iload_n hA si_84_0 rfl ?_
  refine sr_if_lt (tgt := 20) hA si_84_1 (by decide) (fun c1 => ?_) (fun c1 => absurd hk c1)
  refine sr_iconst (v := (-1)) hA si_84_20 (by decide) ?_
  exact sr_iretF hA si_84_21 sq_r_84 rfl rfl
set_option maxRecDepth 20000 in
theorem xc_duet_b (X : sp_X) (g : sp_G) {k : Nat} (hk : 3 ≤ k) (hkb : k < 2 ^ 31) (r : Int32) : sp_Ct X 9 84 [.ref 0, .int (nI k), .int r] g (sp_Fi (-1) g) := by
  refine sp_walkN (n := 8) sq_p_84 sq_l_84 (Nat.le_of_ble_eq_true rfl) (fun a hA => ?_)
  show sp_Ev X a 84 0 [.ref 0, .int (nI k), .int r, .null, .null, .null, .null, .null] [] g
  refine sr_iload_n hA si_84_0 rfl ?_
  refine sr_if_ltN (tgt := 20) hA si_84_1 (by decide) (by omega) ?_
  refine sr_iload_n hA si_84_4 rfl ?_
  refine sr_iconst (v := nI 3) hA si_84_5 (by decide) ?_
  refine sr_icmp_geN (tgt := 20) hA si_84_6 (by decide) (by omega) (by omega) (fun c2 => ?_) (fun c2 => absurd c2 (by omega))
  refine sr_iconst (v := (-1)) hA si_84_20 (by decide) ?_
  exact sr_iretF hA si_84_21 sq_r_84 rfl rfl
set_option maxRecDepth 20000 in
theorem xc_duet_c (X : sp_X) (g : sp_G) {k : Nat} (hk : k < 3) {r : Int32} (hr : r < 0) : sp_Ct X 9 84 [.ref 0, .int (nI k), .int r] g (sp_Fi (-1) g) := by
  refine sp_walkN (n := 8) sq_p_84 sq_l_84 (Nat.le_of_ble_eq_true rfl) (fun a hA => ?_)
  show sp_Ev X a 84 0 [.ref 0, .int (nI k), .int r, .null, .null, .null, .null, .null] [] g
  refine sr_iload_n hA si_84_0 rfl ?_
  refine sr_if_ltN (tgt := 20) hA si_84_1 (by decide) (by omega) ?_
  refine sr_iload_n hA si_84_4 rfl ?_
  refine sr_iconst (v := nI 3) hA si_84_5 (by decide) ?_
  refine sr_icmp_geN (tgt := 20) hA si_84_6 (by decide) (by omega) (by omega) (fun c2 => absurd c2 (by omega)) (fun c2 => ?_)
  refine sr_aload_n hA si_84_9 rfl ?_
  refine sr_getR (r := 1) hA si_84_10 sf_84_14 (by decide) (by decide) rfl rfl rfl ?_
  refine sr_iload_n hA si_84_13 rfl ?_
  refine sr_VFi (c := 1) (ci := 5) (as := [.int r]) (st := []) hA si_84_14 sv_11 sk_84_72 (xc_numRM X g hr) (by omega) rfl (by decide) (by decide) rfl sq_c_11 rfl (Nat.le_of_ble_eq_true rfl) ?_
  refine sr_if_neN (tgt := 22) hA si_84_17 (by decide) (by omega) (fun c3 => absurd c3 (by omega)) (fun c3 => ?_)
  refine sr_iconst (v := (-1)) hA si_84_20 (by decide) ?_
  exact sr_iretF hA si_84_21 sq_r_84 rfl rfl
set_option maxRecDepth 20000 in
theorem xc_duet_d (X : sp_X) (g : sp_G) {k : Nat} (hk : k < 3) {r : Nat} (hr : 6 ≤ r) (hrb : r < 2 ^ 31) : sp_Ct X 9 84 [.ref 0, .int (nI k), .int (nI r)] g (sp_Fi (-1) g) := by
  refine sp_walkN (n := 8) sq_p_84 sq_l_84 (Nat.le_of_ble_eq_true rfl) (fun a hA => ?_)
  show sp_Ev X a 84 0 [.ref 0, .int (nI k), .int (nI r), .null, .null, .null, .null, .null] [] g
  refine sr_iload_n hA si_84_0 rfl ?_
  refine sr_if_ltN (tgt := 20) hA si_84_1 (by decide) (by omega) ?_
  refine sr_iload_n hA si_84_4 rfl ?_
  refine sr_iconst (v := nI 3) hA si_84_5 (by decide) ?_
  refine sr_icmp_geN (tgt := 20) hA si_84_6 (by decide) (by omega) (by omega) (fun c2 => absurd c2 (by omega)) (fun c2 => ?_)
  refine sr_aload_n hA si_84_9 rfl ?_
  refine sr_getR (r := 1) hA si_84_10 sf_84_14 (by decide) (by decide) rfl rfl rfl ?_
  refine sr_iload_n hA si_84_13 rfl ?_
  refine sr_VFi (c := 1) (ci := 5) (as := [.int (nI r)]) (st := []) hA si_84_14 sv_11 sk_84_72 (xc_numRH X g (by omega) (by omega)) (by omega) rfl (by decide) (by decide) rfl sq_c_11 rfl (Nat.le_of_ble_eq_true rfl) ?_
  refine sr_if_neN (tgt := 22) hA si_84_17 (by decide) (by omega) (fun c3 => absurd c3 (by omega)) (fun c3 => ?_)
  refine sr_iconst (v := (-1)) hA si_84_20 (by decide) ?_
  exact sr_iretF hA si_84_21 sq_r_84 rfl rfl
set_option maxRecDepth 20000 in
theorem mc_duet_a (X : sp_X) (g : sp_G) {k : Int32} (hk : k < 0) (r : Int32) : sp_Ct X 9 199 [.ref 64, .int k, .int r] g (sp_Fi (-1) g) := by
  refine sp_walkN (n := 5) sq_p_199 sq_l_199 (Nat.le_of_ble_eq_true rfl) (fun a hA => ?_)
  show sp_Ev X a 199 0 [.ref 64, .int k, .int r, .null, .null] [] g
  refine sr_iload_n hA si_199_0 rfl ?_
  refine sr_iconst (v := nI 0) hA si_199_1 (by decide) ?_
  refine sr_iconst (v := nI 2) hA si_199_2 (by decide) ?_
  refine sr_SFi (as := [.int k, .int (nI 0), .int (nI 2)]) (st := []) hA si_199_3 ss_135 sk_199_83 (mc_inM X g hk (by omega)) (by omega) rfl rfl (Nat.le_of_ble_eq_true rfl) ?_
  refine sr_if_eqN (tgt := 16) hA si_199_6 (by decide) (by omega) (fun c1 => ?_) (fun c1 => absurd c1 (by omega))
  refine sr_iconst (v := (-1)) hA si_199_16 (by decide) ?_
  exact sr_iretF hA si_199_17 sq_r_199 rfl rfl
set_option maxRecDepth 20000 in
theorem mc_duet_b (X : sp_X) (g : sp_G) {k : Nat} (hk : 3 ≤ k) (hkb : k < 2 ^ 31) (r : Int32) : sp_Ct X 9 199 [.ref 64, .int (nI k), .int r] g (sp_Fi (-1) g) := by
  refine sp_walkN (n := 5) sq_p_199 sq_l_199 (Nat.le_of_ble_eq_true rfl) (fun a hA => ?_)
  show sp_Ev X a 199 0 [.ref 64, .int (nI k), .int r, .null, .null] [] g
  refine sr_iload_n hA si_199_0 rfl ?_
  refine sr_iconst (v := nI 0) hA si_199_1 (by decide) ?_
  refine sr_iconst (v := nI 2) hA si_199_2 (by decide) ?_
  refine sr_SFi (as := [.int (nI k), .int (nI 0), .int (nI 2)]) (st := []) hA si_199_3 ss_135 sk_199_83 (mc_inH X g (by omega) (by omega)) (by omega) rfl rfl (Nat.le_of_ble_eq_true rfl) ?_
  refine sr_if_eqN (tgt := 16) hA si_199_6 (by decide) (by omega) (fun c1 => ?_) (fun c1 => absurd c1 (by omega))
  refine sr_iconst (v := (-1)) hA si_199_16 (by decide) ?_
  exact sr_iretF hA si_199_17 sq_r_199 rfl rfl
set_option maxRecDepth 20000 in
theorem mc_duet_c (X : sp_X) (g : sp_G) {k : Nat} (hk : k < 3) {r : Int32} (hr : r < 0) : sp_Ct X 9 199 [.ref 64, .int (nI k), .int r] g (sp_Fi (-1) g) := by
  refine sp_walkN (n := 5) sq_p_199 sq_l_199 (Nat.le_of_ble_eq_true rfl) (fun a hA => ?_)
  show sp_Ev X a 199 0 [.ref 64, .int (nI k), .int r, .null, .null] [] g
  refine sr_iload_n hA si_199_0 rfl ?_
  refine sr_iconst (v := nI 0) hA si_199_1 (by decide) ?_
  refine sr_iconst (v := nI 2) hA si_199_2 (by decide) ?_
  refine sr_SFi (as := [.int (nI k), .int (nI 0), .int (nI 2)]) (st := []) hA si_199_3 ss_135 sk_199_83 (mc_inN X g (by omega) (by omega) (by omega)) (by omega) rfl rfl (Nat.le_of_ble_eq_true rfl) ?_
  refine sr_if_eqN (tgt := 16) hA si_199_6 (by decide) (by omega) (fun c1 => absurd c1 (by omega)) (fun c1 => ?_)
  refine sr_iload_n hA si_199_9 rfl ?_
  refine sr_SFi (as := [.int r]) (st := []) hA si_199_10 ss_140 sk_199_93 (mc_isRowM X g hr) (by omega) rfl rfl (Nat.le_of_ble_eq_true rfl) ?_
  refine sr_if_neN (tgt := 18) hA si_199_13 (by decide) (by omega) (fun c2 => absurd c2 (by omega)) (fun c2 => ?_)
  refine sr_iconst (v := (-1)) hA si_199_16 (by decide) ?_
  exact sr_iretF hA si_199_17 sq_r_199 rfl rfl
set_option maxRecDepth 20000 in
theorem mc_duet_d (X : sp_X) (g : sp_G) {k : Nat} (hk : k < 3) {r : Nat} (hr : 6 ≤ r) (hrb : r < 2 ^ 31) : sp_Ct X 9 199 [.ref 64, .int (nI k), .int (nI r)] g (sp_Fi (-1) g) := by
  refine sp_walkN (n := 5) sq_p_199 sq_l_199 (Nat.le_of_ble_eq_true rfl) (fun a hA => ?_)
  show sp_Ev X a 199 0 [.ref 64, .int (nI k), .int (nI r), .null, .null] [] g
  refine sr_iload_n hA si_199_0 rfl ?_
  refine sr_iconst (v := nI 0) hA si_199_1 (by decide) ?_
  refine sr_iconst (v := nI 2) hA si_199_2 (by decide) ?_
  refine sr_SFi (as := [.int (nI k), .int (nI 0), .int (nI 2)]) (st := []) hA si_199_3 ss_135 sk_199_83 (mc_inN X g (by omega) (by omega) (by omega)) (by omega) rfl rfl (Nat.le_of_ble_eq_true rfl) ?_
  refine sr_if_eqN (tgt := 16) hA si_199_6 (by decide) (by omega) (fun c1 => absurd c1 (by omega)) (fun c1 => ?_)
  refine sr_iload_n hA si_199_9 rfl ?_
  refine sr_SFi (as := [.int (nI r)]) (st := []) hA si_199_10 ss_140 sk_199_93 (mc_isRowH X g (by omega) (by omega)) (by omega) rfl rfl (Nat.le_of_ble_eq_true rfl) ?_
  refine sr_if_neN (tgt := 18) hA si_199_13 (by decide) (by omega) (fun c2 => absurd c2 (by omega)) (fun c2 => ?_)
  refine sr_iconst (v := (-1)) hA si_199_16 (by decide) ?_
  exact sr_iretF hA si_199_17 sq_r_199 rfl rfl
set_option maxRecDepth 20000 in
theorem xc_duet_n (X : sp_X) (g : sp_G) {k : Nat} (hk : k < 3) {r : Nat} (hr : r < 6) (ht : g.1 (50 + k) 3 = nI 0) : sp_Ct X 9 84 [.ref 0, .int (nI k), .int (nI r)] g (sp_Fi (-3) (sp_rx g 1)) := by
  refine sp_walkN (n := 8) sq_p_84 sq_l_84 (Nat.le_of_ble_eq_true rfl) (fun a hA => ?_)
  show sp_Ev X a 84 0 [.ref 0, .int (nI k), .int (nI r), .null, .null, .null, .null, .null] [] g
  refine sr_iload_n hA si_84_0 rfl ?_
  refine sr_if_ltN (tgt := 20) hA si_84_1 (by decide) (by omega) ?_
  refine sr_iload_n hA si_84_4 rfl ?_
  refine sr_iconst (v := nI 3) hA si_84_5 (by decide) ?_
  refine sr_icmp_geN (tgt := 20) hA si_84_6 (by decide) (by omega) (by omega) (fun c2 => absurd c2 (by omega)) (fun c2 => ?_)
  refine sr_aload_n hA si_84_9 rfl ?_
  refine sr_getR (r := 1) hA si_84_10 sf_84_14 (by decide) (by decide) rfl rfl rfl ?_
  refine sr_iload_n hA si_84_13 rfl ?_
  refine sr_VFi (c := 1) (ci := 5) (as := [.int (nI r)]) (st := []) hA si_84_14 sv_11 sk_84_72 (xc_numR1 X g (by omega)) (by omega) rfl (by decide) (by decide) rfl sq_c_11 rfl (Nat.le_of_ble_eq_true rfl) ?_
  refine sr_if_neN (tgt := 22) hA si_84_17 (by decide) (by omega) (fun c3 => ?_) (fun c3 => absurd c3 (by omega))
  refine sr_aload_n hA si_84_22 rfl ?_
  refine sr_getR (r := 49) hA si_84_23 sf_84_53 (by decide) (by decide) rfl rfl rfl ?_
  refine sr_iload_n hA si_84_26 rfl ?_
  refine sr_aaldN (r := (50 + k)) (n := 3) hA si_84_27 (by decide) (by decide) rfl (by omega) (by decide) (sp_kpr (by omega)) ?_
  refine sr_getIv (v := nI 0) hA si_84_28 sf_84_141 (by decide) (sp_kpK (by omega)) (sp_kpk (by omega)) (by decide) ht ?_
  refine sr_if_eqN (tgt := 42) hA si_84_31 (by decide) (by omega) (fun c4 => ?_) (fun c4 => absurd c4 (by omega))
  refine sr_iconst (v := nI 1) hA si_84_42 (by decide) ?_
  refine sr_istore_n (ls1 := [.ref 0, .int (nI k), .int (nI r), .int (nI 1), .null, .null, .null, .null]) hA si_84_43 rfl (by rw [sq_l_84]; decide) rfl ?_
  refine sr_iload_n hA si_84_44 rfl ?_
  refine sr_if_eqN (tgt := 54) hA si_84_45 (by decide) (by omega) (fun c5 => absurd c5 (by omega)) (fun c5 => ?_)
  refine sr_aload_n hA si_84_48 rfl ?_
  refine sr_iload_n hA si_84_49 rfl ?_
  refine sr_VFi (c := 0) (ci := 7) (as := [.int (nI 1)]) (st := []) hA si_84_50 sv_12 sk_84_76 (xc_refuse X g (by omega)) (by omega) rfl (by decide) (by decide) rfl sq_c_12 rfl (Nat.le_of_ble_eq_true rfl) ?_
  exact sr_iretF hA si_84_53 sq_r_84 rfl rfl
set_option maxRecDepth 20000 in
theorem mc_duet_n (X : sp_X) (g : sp_G) {k : Nat} (hk : k < 3) {r : Nat} (hr : r < 6) {z : Nat} (hz : g.1 66 r = nI z) (hzb : z ≤ 40) (ht : g.1 77 k = nI 0) : sp_Ct X 9 199 [.ref 64, .int (nI k), .int (nI r)] g (sp_Fi (-3) (sp_rm6 g 1)) := by
  refine sp_walkN (n := 5) sq_p_199 sq_l_199 (Nat.le_of_ble_eq_true rfl) (fun a hA => ?_)
  show sp_Ev X a 199 0 [.ref 64, .int (nI k), .int (nI r), .null, .null] [] g
  refine sr_iload_n hA si_199_0 rfl ?_
  refine sr_iconst (v := nI 0) hA si_199_1 (by decide) ?_
  refine sr_iconst (v := nI 2) hA si_199_2 (by decide) ?_
  refine sr_SFi (as := [.int (nI k), .int (nI 0), .int (nI 2)]) (st := []) hA si_199_3 ss_135 sk_199_83 (mc_inN X g (by omega) (by omega) (by omega)) (by omega) rfl rfl (Nat.le_of_ble_eq_true rfl) ?_
  refine sr_if_eqN (tgt := 16) hA si_199_6 (by decide) (by omega) (fun c1 => absurd c1 (by omega)) (fun c1 => ?_)
  refine sr_iload_n hA si_199_9 rfl ?_
  refine sr_SFi (as := [.int (nI r)]) (st := []) hA si_199_10 ss_140 sk_199_93 (mc_isRow1 X g (by omega)) (by omega) rfl rfl (Nat.le_of_ble_eq_true rfl) ?_
  refine sr_if_neN (tgt := 18) hA si_199_13 (by decide) (by omega) (fun c2 => ?_) (fun c2 => absurd c2 (by omega))
  refine sr_aload_n hA si_199_18 rfl ?_
  refine sr_getR (r := 66) hA si_199_19 sf_199_17 (by decide) (by decide) rfl rfl rfl ?_
  refine sr_iload_n hA si_199_22 rfl ?_
  refine sr_ialdNv (v := nI z) (n := 6) hA si_199_23 (by decide) rfl rfl (by omega) (by decide) hz ?_
  refine sr_if_ltN (tgt := 36) hA si_199_24 (by decide) (by omega) ?_
  refine sr_aload_n hA si_199_27 rfl ?_
  refine sr_getR (r := 77) hA si_199_28 sf_199_51 (by decide) (by decide) rfl rfl rfl ?_
  refine sr_iload_n hA si_199_31 rfl ?_
  refine sr_zaldNv (v := nI 0) (n := 3) hA si_199_32 (by decide) rfl rfl (by omega) (by decide) ht ?_
  refine sr_if_neN (tgt := 42) hA si_199_33 (by decide) (by omega) (fun c4 => absurd c4 (by omega)) (fun c4 => ?_)
  refine sr_aload_n hA si_199_36 rfl ?_
  refine sr_iconst (v := nI 1) hA si_199_37 (by decide) ?_
  refine sr_VFi (c := 64) (ci := 8) (as := [.int (nI 1)]) (st := []) hA si_199_38 sv_141 sk_199_97 (mc_meets X g (by omega)) (by omega) rfl (by decide) (by decide) rfl sq_c_141 rfl (Nat.le_of_ble_eq_true rfl) ?_
  exact sr_iretF hA si_199_41 sq_r_199 rfl rfl
set_option maxRecDepth 20000 in
theorem mc_duet_r1 (X : sp_X) (g : sp_G) {k : Nat} (hk : k < 3) {r : Nat} (hr : r < 6) (hz : g.1 66 r = -1) : sp_Ct X 9 199 [.ref 64, .int (nI k), .int (nI r)] g (sp_Fi (-3) (sp_rm6 g 1)) := by
  refine sp_walkN (n := 5) sq_p_199 sq_l_199 (Nat.le_of_ble_eq_true rfl) (fun a hA => ?_)
  show sp_Ev X a 199 0 [.ref 64, .int (nI k), .int (nI r), .null, .null] [] g
  refine sr_iload_n hA si_199_0 rfl ?_
  refine sr_iconst (v := nI 0) hA si_199_1 (by decide) ?_
  refine sr_iconst (v := nI 2) hA si_199_2 (by decide) ?_
  refine sr_SFi (as := [.int (nI k), .int (nI 0), .int (nI 2)]) (st := []) hA si_199_3 ss_135 sk_199_83 (mc_inN X g (by omega) (by omega) (by omega)) (by omega) rfl rfl (Nat.le_of_ble_eq_true rfl) ?_
  refine sr_if_eqN (tgt := 16) hA si_199_6 (by decide) (by omega) (fun c1 => absurd c1 (by omega)) (fun c1 => ?_)
  refine sr_iload_n hA si_199_9 rfl ?_
  refine sr_SFi (as := [.int (nI r)]) (st := []) hA si_199_10 ss_140 sk_199_93 (mc_isRow1 X g (by omega)) (by omega) rfl rfl (Nat.le_of_ble_eq_true rfl) ?_
  refine sr_if_neN (tgt := 18) hA si_199_13 (by decide) (by omega) (fun c2 => ?_) (fun c2 => absurd c2 (by omega))
  refine sr_aload_n hA si_199_18 rfl ?_
  refine sr_getR (r := 66) hA si_199_19 sf_199_17 (by decide) (by decide) rfl rfl rfl ?_
  refine sr_iload_n hA si_199_22 rfl ?_
  refine sr_ialdNv (v := (-1)) (n := 6) hA si_199_23 (by decide) rfl rfl (by omega) (by decide) hz ?_
  refine sr_if_lt (tgt := 36) hA si_199_24 (by decide) (fun c3 => ?_) (fun c3 => absurd (by decide) c3)
  refine sr_aload_n hA si_199_36 rfl ?_
  refine sr_iconst (v := nI 1) hA si_199_37 (by decide) ?_
  refine sr_VFi (c := 64) (ci := 8) (as := [.int (nI 1)]) (st := []) hA si_199_38 sv_141 sk_199_97 (mc_meets X g (by omega)) (by omega) rfl (by decide) (by decide) rfl sq_c_141 rfl (Nat.le_of_ble_eq_true rfl) ?_
  exact sr_iretF hA si_199_41 sq_r_199 rfl rfl
set_option maxRecDepth 20000 in
theorem xc_duet_r1 (X : sp_X) (g : sp_G) {k : Nat} (hk : k < 3) {r : Nat} (hr : r < 6) (ht : g.1 (50 + k) 3 = nI 1) (hz : g.1 9 r = -1) : sp_Ct X 9 84 [.ref 0, .int (nI k), .int (nI r)] g (sp_Fi (-3) (sp_rx g 1)) := by
  refine sp_walkN (n := 8) sq_p_84 sq_l_84 (Nat.le_of_ble_eq_true rfl) (fun a hA => ?_)
  show sp_Ev X a 84 0 [.ref 0, .int (nI k), .int (nI r), .null, .null, .null, .null, .null] [] g
  refine sr_iload_n hA si_84_0 rfl ?_
  refine sr_if_ltN (tgt := 20) hA si_84_1 (by decide) (by omega) ?_
  refine sr_iload_n hA si_84_4 rfl ?_
  refine sr_iconst (v := nI 3) hA si_84_5 (by decide) ?_
  refine sr_icmp_geN (tgt := 20) hA si_84_6 (by decide) (by omega) (by omega) (fun c2 => absurd c2 (by omega)) (fun c2 => ?_)
  refine sr_aload_n hA si_84_9 rfl ?_
  refine sr_getR (r := 1) hA si_84_10 sf_84_14 (by decide) (by decide) rfl rfl rfl ?_
  refine sr_iload_n hA si_84_13 rfl ?_
  refine sr_VFi (c := 1) (ci := 5) (as := [.int (nI r)]) (st := []) hA si_84_14 sv_11 sk_84_72 (xc_numR1 X g (by omega)) (by omega) rfl (by decide) (by decide) rfl sq_c_11 rfl (Nat.le_of_ble_eq_true rfl) ?_
  refine sr_if_neN (tgt := 22) hA si_84_17 (by decide) (by omega) (fun c3 => ?_) (fun c3 => absurd c3 (by omega))
  refine sr_aload_n hA si_84_22 rfl ?_
  refine sr_getR (r := 49) hA si_84_23 sf_84_53 (by decide) (by decide) rfl rfl rfl ?_
  refine sr_iload_n hA si_84_26 rfl ?_
  refine sr_aaldN (r := (50 + k)) (n := 3) hA si_84_27 (by decide) (by decide) rfl (by omega) (by decide) (sp_kpr (by omega)) ?_
  refine sr_getIv (v := nI 1) hA si_84_28 sf_84_141 (by decide) (sp_kpK (by omega)) (sp_kpk (by omega)) (by decide) ht ?_
  refine sr_if_eqN (tgt := 42) hA si_84_31 (by decide) (by omega) (fun c4 => absurd c4 (by omega)) (fun c4 => ?_)
  refine sr_aload_n hA si_84_34 rfl ?_
  refine sr_iload_n hA si_84_35 rfl ?_
  refine sr_VFi (c := 0) (ci := 7) (as := [.int (nI r)]) (st := []) hA si_84_36 sv_73 sk_84_223 (xc_pwr1 X g hr hz) (by omega) rfl (by decide) (by decide) rfl sq_c_73 rfl (Nat.le_of_ble_eq_true rfl) ?_
  refine sr_goto (tgt := 43) hA si_84_39 (by decide) ?_
  refine sr_istore_n (ls1 := [.ref 0, .int (nI k), .int (nI r), .int (nI 1), .null, .null, .null, .null]) hA si_84_43 rfl (by rw [sq_l_84]; decide) rfl ?_
  refine sr_iload_n hA si_84_44 rfl ?_
  refine sr_if_eqN (tgt := 54) hA si_84_45 (by decide) (by omega) (fun c5 => absurd c5 (by omega)) (fun c5 => ?_)
  refine sr_aload_n hA si_84_48 rfl ?_
  refine sr_iload_n hA si_84_49 rfl ?_
  refine sr_VFi (c := 0) (ci := 7) (as := [.int (nI 1)]) (st := []) hA si_84_50 sv_12 sk_84_76 (xc_refuse X g (by omega)) (by omega) rfl (by decide) (by decide) rfl sq_c_12 rfl (Nat.le_of_ble_eq_true rfl) ?_
  exact sr_iretF hA si_84_53 sq_r_84 rfl rfl
set_option maxRecDepth 20000 in
theorem xc_duet_r5 (X : sp_X) (g : sp_G) {k : Nat} (hk : k < 3) {r : Nat} (hr : r < 6) (ht : g.1 (50 + k) 3 = nI 1)  {z : Nat} (hz : g.1 9 r = nI z) (hz12 : 12 < z) (hzb : z ≤ 40) : sp_Ct X 9 84 [.ref 0, .int (nI k), .int (nI r)] g (sp_Fi (-3) (sp_rx g 5)) := by
  refine sp_walkN (n := 8) sq_p_84 sq_l_84 (Nat.le_of_ble_eq_true rfl) (fun a hA => ?_)
  show sp_Ev X a 84 0 [.ref 0, .int (nI k), .int (nI r), .null, .null, .null, .null, .null] [] g
  refine sr_iload_n hA si_84_0 rfl ?_
  refine sr_if_ltN (tgt := 20) hA si_84_1 (by decide) (by omega) ?_
  refine sr_iload_n hA si_84_4 rfl ?_
  refine sr_iconst (v := nI 3) hA si_84_5 (by decide) ?_
  refine sr_icmp_geN (tgt := 20) hA si_84_6 (by decide) (by omega) (by omega) (fun c2 => absurd c2 (by omega)) (fun c2 => ?_)
  refine sr_aload_n hA si_84_9 rfl ?_
  refine sr_getR (r := 1) hA si_84_10 sf_84_14 (by decide) (by decide) rfl rfl rfl ?_
  refine sr_iload_n hA si_84_13 rfl ?_
  refine sr_VFi (c := 1) (ci := 5) (as := [.int (nI r)]) (st := []) hA si_84_14 sv_11 sk_84_72 (xc_numR1 X g (by omega)) (by omega) rfl (by decide) (by decide) rfl sq_c_11 rfl (Nat.le_of_ble_eq_true rfl) ?_
  refine sr_if_neN (tgt := 22) hA si_84_17 (by decide) (by omega) (fun c3 => ?_) (fun c3 => absurd c3 (by omega))
  refine sr_aload_n hA si_84_22 rfl ?_
  refine sr_getR (r := 49) hA si_84_23 sf_84_53 (by decide) (by decide) rfl rfl rfl ?_
  refine sr_iload_n hA si_84_26 rfl ?_
  refine sr_aaldN (r := (50 + k)) (n := 3) hA si_84_27 (by decide) (by decide) rfl (by omega) (by decide) (sp_kpr (by omega)) ?_
  refine sr_getIv (v := nI 1) hA si_84_28 sf_84_141 (by decide) (sp_kpK (by omega)) (sp_kpk (by omega)) (by decide) ht ?_
  refine sr_if_eqN (tgt := 42) hA si_84_31 (by decide) (by omega) (fun c4 => absurd c4 (by omega)) (fun c4 => ?_)
  refine sr_aload_n hA si_84_34 rfl ?_
  refine sr_iload_n hA si_84_35 rfl ?_
  refine sr_VFi (c := 0) (ci := 7) (as := [.int (nI r)]) (st := []) hA si_84_36 sv_73 sk_84_223 (xc_pwr5 X g hr hz hz12 hzb) (by omega) rfl (by decide) (by decide) rfl sq_c_73 rfl (Nat.le_of_ble_eq_true rfl) ?_
  refine sr_goto (tgt := 43) hA si_84_39 (by decide) ?_
  refine sr_istore_n (ls1 := [.ref 0, .int (nI k), .int (nI r), .int (nI 5), .null, .null, .null, .null]) hA si_84_43 rfl (by rw [sq_l_84]; decide) rfl ?_
  refine sr_iload_n hA si_84_44 rfl ?_
  refine sr_if_eqN (tgt := 54) hA si_84_45 (by decide) (by omega) (fun c5 => absurd c5 (by omega)) (fun c5 => ?_)
  refine sr_aload_n hA si_84_48 rfl ?_
  refine sr_iload_n hA si_84_49 rfl ?_
  refine sr_VFi (c := 0) (ci := 7) (as := [.int (nI 5)]) (st := []) hA si_84_50 sv_12 sk_84_76 (xc_refuse X g (by omega)) (by omega) rfl (by decide) (by decide) rfl sq_c_12 rfl (Nat.le_of_ble_eq_true rfl) ?_
  exact sr_iretF hA si_84_53 sq_r_84 rfl rfl
set_option maxRecDepth 20000 in
theorem xc_duet_r3 (X : sp_X) (g : sp_G) {k : Nat} (hk : k < 3) {r : Nat} (hr : r < 6) (ht : g.1 (50 + k) 3 = nI 1)  {z : Nat} (hz : g.1 9 r = nI z) (hzb : z ≤ 12) {n : Nat} (hn : g.1 18 3 = nI n) (hb : n ≤ 6) {b : Nat} (hbz : b < z) (hks : sp_ks (fun i => g.1 (3 + r) i) n b) (hbk : sp_bk (g.1 (3 + r) b) n) : sp_Ct X 9 84 [.ref 0, .int (nI k), .int (nI r)] g (sp_Fi (-3) (sp_rx g 3)) := by
  refine sp_walkN (n := 8) sq_p_84 sq_l_84 (Nat.le_of_ble_eq_true rfl) (fun a hA => ?_)
  show sp_Ev X a 84 0 [.ref 0, .int (nI k), .int (nI r), .null, .null, .null, .null, .null] [] g
  refine sr_iload_n hA si_84_0 rfl ?_
  refine sr_if_ltN (tgt := 20) hA si_84_1 (by decide) (by omega) ?_
  refine sr_iload_n hA si_84_4 rfl ?_
  refine sr_iconst (v := nI 3) hA si_84_5 (by decide) ?_
  refine sr_icmp_geN (tgt := 20) hA si_84_6 (by decide) (by omega) (by omega) (fun c2 => absurd c2 (by omega)) (fun c2 => ?_)
  refine sr_aload_n hA si_84_9 rfl ?_
  refine sr_getR (r := 1) hA si_84_10 sf_84_14 (by decide) (by decide) rfl rfl rfl ?_
  refine sr_iload_n hA si_84_13 rfl ?_
  refine sr_VFi (c := 1) (ci := 5) (as := [.int (nI r)]) (st := []) hA si_84_14 sv_11 sk_84_72 (xc_numR1 X g (by omega)) (by omega) rfl (by decide) (by decide) rfl sq_c_11 rfl (Nat.le_of_ble_eq_true rfl) ?_
  refine sr_if_neN (tgt := 22) hA si_84_17 (by decide) (by omega) (fun c3 => ?_) (fun c3 => absurd c3 (by omega))
  refine sr_aload_n hA si_84_22 rfl ?_
  refine sr_getR (r := 49) hA si_84_23 sf_84_53 (by decide) (by decide) rfl rfl rfl ?_
  refine sr_iload_n hA si_84_26 rfl ?_
  refine sr_aaldN (r := (50 + k)) (n := 3) hA si_84_27 (by decide) (by decide) rfl (by omega) (by decide) (sp_kpr (by omega)) ?_
  refine sr_getIv (v := nI 1) hA si_84_28 sf_84_141 (by decide) (sp_kpK (by omega)) (sp_kpk (by omega)) (by decide) ht ?_
  refine sr_if_eqN (tgt := 42) hA si_84_31 (by decide) (by omega) (fun c4 => absurd c4 (by omega)) (fun c4 => ?_)
  refine sr_aload_n hA si_84_34 rfl ?_
  refine sr_iload_n hA si_84_35 rfl ?_
  refine sr_VFi (c := 0) (ci := 7) (as := [.int (nI r)]) (st := []) hA si_84_36 sv_73 sk_84_223 (xc_pwr3 X g hr hz hzb hn hb hbz hks hbk) (by omega) rfl (by decide) (by decide) rfl sq_c_73 rfl (Nat.le_of_ble_eq_true rfl) ?_
  refine sr_goto (tgt := 43) hA si_84_39 (by decide) ?_
  refine sr_istore_n (ls1 := [.ref 0, .int (nI k), .int (nI r), .int (nI 3), .null, .null, .null, .null]) hA si_84_43 rfl (by rw [sq_l_84]; decide) rfl ?_
  refine sr_iload_n hA si_84_44 rfl ?_
  refine sr_if_eqN (tgt := 54) hA si_84_45 (by decide) (by omega) (fun c5 => absurd c5 (by omega)) (fun c5 => ?_)
  refine sr_aload_n hA si_84_48 rfl ?_
  refine sr_iload_n hA si_84_49 rfl ?_
  refine sr_VFi (c := 0) (ci := 7) (as := [.int (nI 3)]) (st := []) hA si_84_50 sv_12 sk_84_76 (xc_refuse X g (by omega)) (by omega) rfl (by decide) (by decide) rfl sq_c_12 rfl (Nat.le_of_ble_eq_true rfl) ?_
  exact sr_iretF hA si_84_53 sq_r_84 rfl rfl
set_option maxRecDepth 20000 in
theorem mc_duet_r5 (X : sp_X) (g : sp_G) {k : Nat} (hk : k < 3) {r : Nat} (hr : r < 6) (ht : g.1 77 k = nI 1)  {z : Nat} (hz : g.1 66 r = nI z) (hz12 : 12 < z) (hzb : z ≤ 40) : sp_Ct X 9 199 [.ref 64, .int (nI k), .int (nI r)] g (sp_Fi (-3) (sp_rm6 g 5)) := by
  refine sp_walkN (n := 5) sq_p_199 sq_l_199 (Nat.le_of_ble_eq_true rfl) (fun a hA => ?_)
  show sp_Ev X a 199 0 [.ref 64, .int (nI k), .int (nI r), .null, .null] [] g
  refine sr_iload_n hA si_199_0 rfl ?_
  refine sr_iconst (v := nI 0) hA si_199_1 (by decide) ?_
  refine sr_iconst (v := nI 2) hA si_199_2 (by decide) ?_
  refine sr_SFi (as := [.int (nI k), .int (nI 0), .int (nI 2)]) (st := []) hA si_199_3 ss_135 sk_199_83 (mc_inN X g (by omega) (by omega) (by omega)) (by omega) rfl rfl (Nat.le_of_ble_eq_true rfl) ?_
  refine sr_if_eqN (tgt := 16) hA si_199_6 (by decide) (by omega) (fun c1 => absurd c1 (by omega)) (fun c1 => ?_)
  refine sr_iload_n hA si_199_9 rfl ?_
  refine sr_SFi (as := [.int (nI r)]) (st := []) hA si_199_10 ss_140 sk_199_93 (mc_isRow1 X g (by omega)) (by omega) rfl rfl (Nat.le_of_ble_eq_true rfl) ?_
  refine sr_if_neN (tgt := 18) hA si_199_13 (by decide) (by omega) (fun c2 => ?_) (fun c2 => absurd c2 (by omega))
  refine sr_aload_n hA si_199_18 rfl ?_
  refine sr_getR (r := 66) hA si_199_19 sf_199_17 (by decide) (by decide) rfl rfl rfl ?_
  refine sr_iload_n hA si_199_22 rfl ?_
  refine sr_ialdNv (v := nI z) (n := 6) hA si_199_23 (by decide) rfl rfl (by omega) (by decide) hz ?_
  refine sr_if_ltN (tgt := 36) hA si_199_24 (by decide) (by omega) ?_
  refine sr_aload_n hA si_199_27 rfl ?_
  refine sr_getR (r := 77) hA si_199_28 sf_199_51 (by decide) (by decide) rfl rfl rfl ?_
  refine sr_iload_n hA si_199_31 rfl ?_
  refine sr_zaldNv (v := nI 1) (n := 3) hA si_199_32 (by decide) rfl rfl (by omega) (by decide) ht ?_
  refine sr_if_neN (tgt := 42) hA si_199_33 (by decide) (by omega) (fun c4 => ?_) (fun c4 => absurd c4 (by omega))
  refine sr_aload_n hA si_199_42 rfl ?_
  refine sr_iload_n hA si_199_43 rfl ?_
  refine sr_VFi (c := 64) (ci := 8) (as := [.int (nI r)]) (st := []) hA si_199_44 sv_191 sk_199_206 (mc_po5 X g hr hz hz12 hzb) (by omega) rfl (by decide) (by decide) rfl sq_c_191 rfl (Nat.le_of_ble_eq_true rfl) ?_
  refine sr_istore_n (ls1 := [.ref 64, .int (nI k), .int (nI r), .int (-3), .null]) hA si_199_47 rfl (by rw [sq_l_199]; decide) rfl ?_
  refine sr_iload_n hA si_199_48 rfl ?_
  refine sr_if_ge (tgt := 54) hA si_199_49 (by decide) (fun c5 => absurd c5 (sp_m4 (by decide))) (fun c5 => ?_)
  refine sr_iload_n hA si_199_52 rfl ?_
  exact sr_iretF hA si_199_53 sq_r_199 rfl rfl
set_option maxRecDepth 20000 in
theorem mc_duet_r3 (X : sp_X) (g : sp_G) {k : Nat} (hk : k < 3) {r : Nat} (hr : r < 6) (ht : g.1 77 k = nI 1)  {z : Nat} (hz : g.1 66 r = nI z) (hzb : z ≤ 12) {n : Nat} (hn : g.1 64 11 = nI n) (hb : n ≤ 6) {b : Nat} (hbz : b < z) (hks : sp_ks (fun i => g.1 67 (40 * r + i)) n b) (hbk : sp_bk (g.1 67 (40 * r + b)) n) : sp_Ct X 9 199 [.ref 64, .int (nI k), .int (nI r)] g (sp_Fi (-3) (sp_rm6 g 3)) := by
  refine sp_walkN (n := 5) sq_p_199 sq_l_199 (Nat.le_of_ble_eq_true rfl) (fun a hA => ?_)
  show sp_Ev X a 199 0 [.ref 64, .int (nI k), .int (nI r), .null, .null] [] g
  refine sr_iload_n hA si_199_0 rfl ?_
  refine sr_iconst (v := nI 0) hA si_199_1 (by decide) ?_
  refine sr_iconst (v := nI 2) hA si_199_2 (by decide) ?_
  refine sr_SFi (as := [.int (nI k), .int (nI 0), .int (nI 2)]) (st := []) hA si_199_3 ss_135 sk_199_83 (mc_inN X g (by omega) (by omega) (by omega)) (by omega) rfl rfl (Nat.le_of_ble_eq_true rfl) ?_
  refine sr_if_eqN (tgt := 16) hA si_199_6 (by decide) (by omega) (fun c1 => absurd c1 (by omega)) (fun c1 => ?_)
  refine sr_iload_n hA si_199_9 rfl ?_
  refine sr_SFi (as := [.int (nI r)]) (st := []) hA si_199_10 ss_140 sk_199_93 (mc_isRow1 X g (by omega)) (by omega) rfl rfl (Nat.le_of_ble_eq_true rfl) ?_
  refine sr_if_neN (tgt := 18) hA si_199_13 (by decide) (by omega) (fun c2 => ?_) (fun c2 => absurd c2 (by omega))
  refine sr_aload_n hA si_199_18 rfl ?_
  refine sr_getR (r := 66) hA si_199_19 sf_199_17 (by decide) (by decide) rfl rfl rfl ?_
  refine sr_iload_n hA si_199_22 rfl ?_
  refine sr_ialdNv (v := nI z) (n := 6) hA si_199_23 (by decide) rfl rfl (by omega) (by decide) hz ?_
  refine sr_if_ltN (tgt := 36) hA si_199_24 (by decide) (by omega) ?_
  refine sr_aload_n hA si_199_27 rfl ?_
  refine sr_getR (r := 77) hA si_199_28 sf_199_51 (by decide) (by decide) rfl rfl rfl ?_
  refine sr_iload_n hA si_199_31 rfl ?_
  refine sr_zaldNv (v := nI 1) (n := 3) hA si_199_32 (by decide) rfl rfl (by omega) (by decide) ht ?_
  refine sr_if_neN (tgt := 42) hA si_199_33 (by decide) (by omega) (fun c4 => ?_) (fun c4 => absurd c4 (by omega))
  refine sr_aload_n hA si_199_42 rfl ?_
  refine sr_iload_n hA si_199_43 rfl ?_
  refine sr_VFi (c := 64) (ci := 8) (as := [.int (nI r)]) (st := []) hA si_199_44 sv_191 sk_199_206 (mc_po3 X g hr hz hzb hn hb hbz hks hbk) (by omega) rfl (by decide) (by decide) rfl sq_c_191 rfl (Nat.le_of_ble_eq_true rfl) ?_
  refine sr_istore_n (ls1 := [.ref 64, .int (nI k), .int (nI r), .int (-3), .null]) hA si_199_47 rfl (by rw [sq_l_199]; decide) rfl ?_
  refine sr_iload_n hA si_199_48 rfl ?_
  refine sr_if_ge (tgt := 54) hA si_199_49 (by decide) (fun c5 => absurd c5 (sp_m4 (by decide))) (fun c5 => ?_)
  refine sr_iload_n hA si_199_52 rfl ?_
  exact sr_iretF hA si_199_53 sq_r_199 rfl rfl
