/-- how many tides a piece lasts -/
def sp_la (n : Nat) (K T P f : Nat → Int32) (z h : Nat) : Nat → (Nat → Int32) → Nat → Nat
  | 0, _, i => i
  | m + 1, v, i => if (sp_pp n K T P f z (sp_td n h v) 0).1 < z then i else sp_la n K T P f z h m (sp_td n h v) (i + 1)
set_option maxRecDepth 20000 in
theorem xl_lasts {X : sp_X} {a : sp_Ac} {g : sp_G} {n r z h : Nat} {K T P f : Nat → Int32} (hh : h ≤ 9) (hK : sp_KX n K T P g) (hp : sp_PX r z f g) (hzb : z ≤ 12) (hks : sp_ks f n z) {Bq R0 : Nat} (hBq : Bq < 2 ^ 20) (hA : sp_Act X 83 8 (sp_Ri (fun x g' => x = nI R0 ∧ sp_xa g g')) a) : ∀ (m : Nat) (i : Nat) (gg : sp_G) (v : Nat → Int32) (A : Nat), i + m = 20 → sp_xa g gg → sp_hS gg 43 44 v → sp_oB n A Bq v → A < 2 ^ 19 + 9 * i → sp_la n K T P f z h m v i = R0 → sp_Ev X a 83 53 [.ref 0, .int (nI r), .int (nI h), .null, .int (nI i)] [] gg := by
  intro m
  induction m with
  | zero =>
    intro i gg v A h0_ h1_ h2_ h3_ h4_ h5_
    obtain ⟨hn, hn6, -⟩ := id hK
    obtain ⟨hr, -, -, -⟩ := id hp
    refine sr_iload hA si_83_53 rfl ?_
    refine sr_bipush (v := nI 20) hA si_83_55 (by decide) ?_
    refine sr_icmp_geN (tgt := 123) hA si_83_57 (by decide) (by omega) (by omega) (fun c1 => ?_) (fun c1 => absurd c1 (by omega))
    refine sr_bipush (v := nI 20) hA si_83_123 (by decide) ?_
    exact sr_iretR hA si_83_125 sq_r_83 ⟨by rw [← h5_]; show _ = nI i; rw [show i = 20 by omega], h1_⟩
  | succ m ih =>
    intro i gg v A h0_ h1_ h2_ h3_ h4_ h5_
    obtain ⟨hn, hn6, -⟩ := id hK
    obtain ⟨hr, -, -, -⟩ := id hp
    refine sr_iload hA si_83_53 rfl ?_
    refine sr_bipush (v := nI 20) hA si_83_55 (by decide) ?_
    refine sr_icmp_geN (tgt := 123) hA si_83_57 (by decide) (by omega) (by omega) (fun c1 => absurd c1 (by omega)) (fun c1 => ?_)
    refine sr_aload_n hA si_83_60 rfl ?_
    refine sr_getR (r := 43) hA si_83_61 sf_83_40 (by decide) (by decide) rfl rfl rfl ?_
    refine sr_iload_n hA si_83_64 rfl ?_
    refine sr_aload_n hA si_83_65 rfl ?_
    refine sr_getR (r := 18) hA si_83_66 sf_83_32 (by decide) (by decide) rfl rfl rfl ?_
    refine sr_getIv (v := nI n) hA si_83_69 sf_83_145 (by decide) (by decide) rfl (by decide) (by rw [h1_.i 18 (by unfold sp_xs; omega)]; exact hK.1) ?_
    refine sr_VRi (c := 43) (ci := 2) (as := [.int (nI h), .int (nI n)]) (st := []) hA si_83_72 sv_60 sk_83_202 (xa_flood X gg (h := h) (n := n) (v := v) sp_sd43 (by omega) (by omega) h2_) (by omega) rfl (by decide) (by decide) rfl sq_c_60 rfl (Nat.le_of_ble_eq_true rfl) (fun xz1 gz1 qz1 => ?_)
    have az1 := h1_.sx qz1.1 (by unfold sp_xs; omega) (by unfold sp_xs; omega)
    refine sr_pop hA si_83_75 rfl ?_
    refine sr_aload_n hA si_83_76 rfl ?_
    refine sr_getR (r := 45) hA si_83_77 sf_83_43 (by decide) (by decide) rfl rfl rfl ?_
    refine sr_aload_n hA si_83_80 rfl ?_
    refine sr_getR (r := 43) hA si_83_81 sf_83_40 (by decide) (by decide) rfl rfl rfl ?_
    refine sr_VRv (c := 45) (ci := 2) (as := [.ref 43]) (st := []) hA si_83_84 sv_39 sk_83_131 (xa_take X gz1 (v := (sp_td n h v)) sp_sd45 sp_sd43 (by unfold sp_ap; omega) qz1.2) (by omega) rfl (by decide) (by decide) rfl sq_c_39 rfl (Nat.le_of_ble_eq_true rfl) (fun gz2 qz2 => ?_)
    have az2 := az1.sx qz2.1 (by unfold sp_xs; omega) (by unfold sp_xs; omega)
    refine sr_aload_n hA si_83_87 rfl ?_
    refine sr_getR (r := 18) hA si_83_88 sf_83_32 (by decide) (by decide) rfl rfl rfl ?_
    refine sr_aload_n hA si_83_91 rfl ?_
    refine sr_getR (r := 1) hA si_83_92 sf_83_14 (by decide) (by decide) rfl rfl rfl ?_
    refine sr_iload_n hA si_83_95 rfl ?_
    refine sr_aload_n hA si_83_96 rfl ?_
    refine sr_getR (r := 45) hA si_83_97 sf_83_43 (by decide) (by decide) rfl rfl rfl ?_
    refine sr_VRi (c := 18) (ci := 0) (as := [.ref 1, .int (nI r), .ref 45]) (st := []) hA si_83_100 sv_74 sk_83_226 (xa_piece X gz2 (r := r) (v := (sp_td n h v)) sp_sd45 (hK.xa az2) (hp.xa az2) hzb hks qz2.2 (A := A + 9) (B := Bq) (sp_oB.td h3_ hn6 hh (by omega)) (by omega) (by omega)) (by omega) rfl (by decide) (by decide) rfl sq_c_74 rfl (Nat.le_of_ble_eq_true rfl) (fun xz3 gz3 rz3 => ?_)
    obtain ⟨fz3, hz3⟩ := rz3
    have qz3 := And.intro hz3 True.intro
    have az3 := az2.sx qz3.1 (by unfold sp_xs; omega) (by unfold sp_xs; omega)
    obtain ⟨nz3, ez3⟩ : ∃ q, q = (sp_pp n K T P f z (sp_td n h v) 0).1 := ⟨_, rfl⟩
    have lz3 : nz3 ≤ z := by rw [ez3]; have := sp_pp_le (n := n) (K := K) (T := T) (P := P) (f := f) z 0 (sp_td n h v); omega
    rw [← ez3] at fz3
    subst fz3
    refine sr_aload_n hA si_83_103 rfl ?_
    refine sr_getR (r := 1) hA si_83_104 sf_83_14 (by decide) (by decide) rfl rfl rfl ?_
    refine sr_iload_n hA si_83_107 rfl ?_
    refine sr_VFi (c := 1) (ci := 5) (as := [.int (nI r)]) (st := [.int (nI nz3)]) hA si_83_108 sv_26 sk_83_114 (xc_sizeR X gz3 (z := nI z) (by omega) (by rw [az3.i 9 (by unfold sp_xs; omega)]; exact hp.2.2.1)) (by omega) rfl (by decide) (by decide) rfl sq_c_26 rfl (Nat.le_of_ble_eq_true rfl) ?_
    refine sr_icmp_geN (tgt := 117) hA si_83_111 (by decide) (by omega) (by omega) (fun c2 => ?_) (fun c2 => ?_)
    · refine sr_iincN (x := i) (y := 1) (ls1 := [.ref 0, .int (nI r), .int (nI h), .null, .int (nI (i + 1))]) hA si_83_117 rfl rfl (by rw [sq_l_83]; decide) rfl ?_
      refine sr_goto (tgt := 53) hA si_83_120 (by decide) ?_
      rw [show sp_la n K T P f z h (m + 1) v i = sp_la n K T P f z h m (sp_td n h v) (i + 1) from if_neg (by omega)] at h5_
      exact ih (i + 1) gz3 _ (A + 9) (by omega) az3 ((qz1.2.sx qz2.1 (by unfold sp_ap; omega)).sx qz3.1 (by unfold sp_ap; omega)) (sp_oB.td h3_ hn6 hh (by omega)) (by omega) h5_
    · refine sr_iload hA si_83_114 rfl ?_
      rw [show sp_la n K T P f z h (m + 1) v i = i from if_pos (by omega)] at h5_
      exact sr_iretR hA si_83_116 sq_r_83 ⟨by rw [← h5_], az3⟩
set_option maxRecDepth 20000 in
theorem xc_lasts_e (X : sp_X) (g : sp_G) {n r z h : Nat} {K T P f : Nat → Int32} (hh : h ≤ 9) (hK : sp_KX n K T P g) (hp : sp_PX r z f g) (hzb : z ≤ 12) (hks : sp_ks f n z) {A Bq : Nat} {v : Nat → Int32} (hBq : Bq < 2 ^ 20) (hv : sp_hS g 41 42 v) (hB : sp_oB n A Bq v) (hA20 : A < 2 ^ 19) : sp_Ct X 8 83 [.ref 0, .int (nI r), .int (nI h)] g (sp_Ri (fun x g' => x = nI (sp_la n K T P f z h 20 v 0) ∧ sp_xa g g')) := by
  obtain ⟨hn, hn6, -⟩ := id hK
  obtain ⟨hr, -, -, -⟩ := id hp
  refine sp_walkN (n := 5) sq_p_83 sq_l_83 (Nat.le_of_ble_eq_true rfl) (fun a hA => ?_)
  show sp_Ev X a 83 0 [.ref 0, .int (nI r), .int (nI h), .null, .null] [] g
  refine sr_aload_n hA si_83_0 rfl ?_
  refine sr_getR (r := 1) hA si_83_1 sf_83_14 (by decide) (by decide) rfl rfl rfl ?_
  refine sr_iload_n hA si_83_4 rfl ?_
  refine sr_VFi (c := 1) (ci := 5) (as := [.int (nI r)]) (st := []) hA si_83_5 sv_11 sk_83_72 (xc_numR1 X g (by omega)) (by omega) rfl (by decide) (by decide) rfl sq_c_11 rfl (Nat.le_of_ble_eq_true rfl) ?_
  refine sr_if_eqN (tgt := 21) hA si_83_8 (by decide) (by omega) (fun c1 => absurd c1 (by omega)) (fun c1 => ?_)
  refine sr_iload_n hA si_83_11 rfl ?_
  refine sr_if_ltN (tgt := 21) hA si_83_12 (by decide) (by omega) ?_
  refine sr_iload_n hA si_83_15 rfl ?_
  refine sr_bipush (v := nI 9) hA si_83_16 (by decide) ?_
  refine sr_icmp_leN (tgt := 23) hA si_83_18 (by decide) (by omega) (by omega) (fun c3 => ?_) (fun c3 => absurd c3 (by omega))
  refine sr_aload_n hA si_83_23 rfl ?_
  refine sr_iload_n hA si_83_24 rfl ?_
  refine sr_VFi (c := 0) (ci := 7) (as := [.int (nI r)]) (st := []) hA si_83_25 sv_73 sk_83_223 (xc_pwr0 X g hr hp.2.2.1 hzb hn hn6 (fun i hi => by obtain ⟨a, a1, a2⟩ := hks i hi; exact ⟨a, a1, (hp.2.2.2 i hi).trans a2⟩)) (by omega) rfl (by decide) (by decide) rfl sq_c_73 rfl (Nat.le_of_ble_eq_true rfl) ?_
  refine sr_istore_n (ls1 := [.ref 0, .int (nI r), .int (nI h), .int (nI 0), .null]) hA si_83_28 rfl (by rw [sq_l_83]; decide) rfl ?_
  refine sr_iload_n hA si_83_29 rfl ?_
  refine sr_if_eqN (tgt := 39) hA si_83_30 (by decide) (by omega) (fun c4 => ?_) (fun c4 => absurd c4 (by omega))
  refine sr_aload_n hA si_83_39 rfl ?_
  refine sr_getR (r := 43) hA si_83_40 sf_83_40 (by decide) (by decide) rfl rfl rfl ?_
  refine sr_aload_n hA si_83_43 rfl ?_
  refine sr_getR (r := 41) hA si_83_44 sf_83_36 (by decide) (by decide) rfl rfl rfl ?_
  refine sr_VRv (c := 43) (ci := 2) (as := [.ref 41]) (st := []) hA si_83_47 sv_39 sk_83_131 (xa_take X g (v := v) sp_sd43 sp_sd41 (by unfold sp_ap; omega) hv) (by omega) rfl (by decide) (by decide) rfl sq_c_39 rfl (Nat.le_of_ble_eq_true rfl) (fun gz1 qz1 => ?_)
  have az1 := sp_xa.rf.sx qz1.1 (by unfold sp_xs; omega) (by unfold sp_xs; omega)
  refine sr_iconst (v := nI 0) hA si_83_50 (by decide) ?_
  refine sr_istore (ls1 := [.ref 0, .int (nI r), .int (nI h), .int (nI 0), .int (nI 0)]) hA si_83_51 (by rw [sq_l_83]; decide) rfl ?_
  refine sr_fg (ls1 := [.ref 0, .int (nI r), .int (nI h), .null, .int (nI 0)]) ⟨Or.inr rfl, Or.inr rfl, Or.inr rfl, Or.inl rfl, Or.inr rfl, trivial⟩ ?_
  exact xl_lasts hh hK hp hzb hks hBq hA 20 0 gz1 v A rfl az1 qz1.2 hB (by omega) rfl
set_option maxRecDepth 20000 in
theorem ml_lasts {X : sp_X} {a : sp_Ac} {g : sp_G} {n r z h : Nat} {K T P f : Nat → Int32} (hh : h ≤ 9) (hK : sp_KM n K T P g) (hp : sp_PM r z f g) (hzb : z ≤ 12) (hks : sp_ks f n z) {Bq R0 : Nat} (hBq : Bq < 2 ^ 20) (hA : sp_Act X 198 8 (sp_Ri (fun x g' => x = nI R0 ∧ sp_ma g g')) a) : ∀ (m : Nat) (i : Nat) (gg : sp_G) (v : Nat → Int32) (A : Nat), i + m = 20 → sp_ma g gg → sp_hP gg 1 v → sp_oB n A Bq v → A < 2 ^ 19 + 9 * i → sp_la n K T P f z h m v i = R0 → sp_Ev X a 198 40 [.ref 64, .int (nI r), .int (nI h), .null, .int (nI i)] [] gg := by
  intro m
  induction m with
  | zero =>
    intro i gg v A h0_ h1_ h2_ h3_ h4_ h5_
    obtain ⟨hn, hn6, -⟩ := id hK
    obtain ⟨hr, -, -, -⟩ := id hp
    refine sr_iload hA si_198_40 rfl ?_
    refine sr_bipush (v := nI 20) hA si_198_42 (by decide) ?_
    refine sr_icmp_geN (tgt := 84) hA si_198_44 (by decide) (by omega) (by omega) (fun c1 => ?_) (fun c1 => absurd c1 (by omega))
    refine sr_bipush (v := nI 20) hA si_198_84 (by decide) ?_
    exact sr_iretR hA si_198_86 sq_r_198 ⟨by rw [← h5_]; show _ = nI i; rw [show i = 20 by omega], h1_⟩
  | succ m ih =>
    intro i gg v A h0_ h1_ h2_ h3_ h4_ h5_
    obtain ⟨hn, hn6, -⟩ := id hK
    obtain ⟨hr, -, -, -⟩ := id hp
    refine sr_iload hA si_198_40 rfl ?_
    refine sr_bipush (v := nI 20) hA si_198_42 (by decide) ?_
    refine sr_icmp_geN (tgt := 84) hA si_198_44 (by decide) (by omega) (by omega) (fun c1 => absurd c1 (by omega)) (fun c1 => ?_)
    refine sr_aload_n hA si_198_47 rfl ?_
    refine sr_iconst (v := nI 1) hA si_198_48 (by decide) ?_
    refine sr_iload_n hA si_198_49 rfl ?_
    refine sr_VRi (c := 64) (ci := 8) (as := [.int (nI 1), .int (nI h)]) (st := []) hA si_198_50 sv_181 sk_198_200 (ma_tides X gg (f := 1) (h := h) (n := n) (v := v) (hK.ma h1_).1 (by omega) (by omega) (by omega) h2_) (by omega) rfl (by decide) (by decide) rfl sq_c_181 rfl (Nat.le_of_ble_eq_true rfl) (fun xz1 gz1 qz1 => ?_)
    have az1 := h1_.fx qz1.1 (by omega)
    refine sr_pop hA si_198_53 rfl ?_
    refine sr_aload_n hA si_198_54 rfl ?_
    refine sr_iconst (v := nI 1) hA si_198_55 (by decide) ?_
    refine sr_iconst (v := nI 2) hA si_198_56 (by decide) ?_
    refine sr_VRv (c := 64) (ci := 8) (as := [.int (nI 1), .int (nI 2)]) (st := []) hA si_198_57 sv_192 sk_198_212 (ma_copyTo X gz1 (f := 1) (t := 2) (v := (sp_td n h v)) (by omega) (by omega) (by omega) qz1.2) (by omega) rfl (by decide) (by decide) rfl sq_c_192 rfl (Nat.le_of_ble_eq_true rfl) (fun gz2 qz2 => ?_)
    have az2 := az1.fx qz2.1 (by omega)
    refine sr_aload_n hA si_198_60 rfl ?_
    refine sr_iconst (v := nI 2) hA si_198_61 (by decide) ?_
    refine sr_iload_n hA si_198_62 rfl ?_
    refine sr_VRi (c := 64) (ci := 8) (as := [.int (nI 2), .int (nI r)]) (st := []) hA si_198_63 sv_193 sk_198_215 (ma_piece X gz2 (q := 2) (r := r) (v := (sp_td n h v)) (by omega) (hK.ma az2) (hp.ma az2) hzb hks qz2.2 (A := A + 9) (B := Bq) (sp_oB.td h3_ hn6 hh (by omega)) (by omega) (by omega)) (by omega) rfl (by decide) (by decide) rfl sq_c_193 rfl (Nat.le_of_ble_eq_true rfl) (fun xz3 gz3 rz3 => ?_)
    obtain ⟨fz3, hz3⟩ := rz3
    have qz3 := And.intro hz3 True.intro
    have az3 := az2.fx qz3.1 (by omega)
    obtain ⟨nz3, ez3⟩ : ∃ q, q = (sp_pp n K T P f z (sp_td n h v) 0).1 := ⟨_, rfl⟩
    have lz3 : nz3 ≤ z := by rw [ez3]; have := sp_pp_le (n := n) (K := K) (T := T) (P := P) (f := f) z 0 (sp_td n h v); omega
    rw [← ez3] at fz3
    subst fz3
    refine sr_aload_n hA si_198_66 rfl ?_
    refine sr_getR (r := 66) hA si_198_67 sf_198_17 (by decide) (by decide) rfl rfl rfl ?_
    refine sr_iload_n hA si_198_70 rfl ?_
    refine sr_ialdNv (v := nI z) (n := 6) hA si_198_71 (by decide) rfl rfl (by omega) (by decide) (by rw [az3.i 66 (by omega) (by omega) (by omega)]; exact hp.2.2.1) ?_
    refine sr_icmp_geN (tgt := 78) hA si_198_72 (by decide) (by omega) (by omega) (fun c2 => ?_) (fun c2 => ?_)
    · refine sr_iincN (x := i) (y := 1) (ls1 := [.ref 64, .int (nI r), .int (nI h), .null, .int (nI (i + 1))]) hA si_198_78 rfl rfl (by rw [sq_l_198]; decide) rfl ?_
      refine sr_goto (tgt := 40) hA si_198_81 (by decide) ?_
      rw [show sp_la n K T P f z h (m + 1) v i = sp_la n K T P f z h m (sp_td n h v) (i + 1) from if_neg (by omega)] at h5_
      exact ih (i + 1) gz3 _ (A + 9) (by omega) az3 ((qz1.2.fx qz2.1 (by omega)).fx qz3.1 (by omega)) (sp_oB.td h3_ hn6 hh (by omega)) (by omega) h5_
    · refine sr_iload hA si_198_75 rfl ?_
      rw [show sp_la n K T P f z h (m + 1) v i = i from if_pos (by omega)] at h5_
      exact sr_iretR hA si_198_77 sq_r_198 ⟨by rw [← h5_], az3⟩
set_option maxRecDepth 20000 in
theorem mc_lasts_e (X : sp_X) (g : sp_G) {n r z h : Nat} {K T P f : Nat → Int32} (hh : h ≤ 9) (hK : sp_KM n K T P g) (hp : sp_PM r z f g) (hzb : z ≤ 12) (hks : sp_ks f n z) {A Bq : Nat} {v : Nat → Int32} (hBq : Bq < 2 ^ 20) (hv : sp_hP g 0 v) (hB : sp_oB n A Bq v) (hA20 : A < 2 ^ 19) : sp_Ct X 8 198 [.ref 64, .int (nI r), .int (nI h)] g (sp_Ri (fun x g' => x = nI (sp_la n K T P f z h 20 v 0) ∧ sp_ma g g')) := by
  obtain ⟨hn, hn6, -⟩ := id hK
  obtain ⟨hr, -, -, -⟩ := id hp
  refine sp_walkN (n := 5) sq_p_198 sq_l_198 (Nat.le_of_ble_eq_true rfl) (fun a hA => ?_)
  show sp_Ev X a 198 0 [.ref 64, .int (nI r), .int (nI h), .null, .null] [] g
  refine sr_iload_n hA si_198_0 rfl ?_
  refine sr_SFi (as := [.int (nI r)]) (st := []) hA si_198_1 ss_140 sk_198_93 (mc_isRow1 X g (by omega)) (by omega) rfl rfl (Nat.le_of_ble_eq_true rfl) ?_
  refine sr_if_eqN (tgt := 17) hA si_198_4 (by decide) (by omega) (fun c1 => absurd c1 (by omega)) (fun c1 => ?_)
  refine sr_iload_n hA si_198_7 rfl ?_
  refine sr_iconst (v := nI 0) hA si_198_8 (by decide) ?_
  refine sr_bipush (v := nI 9) hA si_198_9 (by decide) ?_
  refine sr_SFi (as := [.int (nI h), .int (nI 0), .int (nI 9)]) (st := []) hA si_198_11 ss_135 sk_198_83 (mc_inN X g (by omega) (by omega) (by omega)) (by omega) rfl rfl (Nat.le_of_ble_eq_true rfl) ?_
  refine sr_if_neN (tgt := 19) hA si_198_14 (by decide) (by omega) (fun c2 => ?_) (fun c2 => absurd c2 (by omega))
  refine sr_aload_n hA si_198_19 rfl ?_
  refine sr_iload_n hA si_198_20 rfl ?_
  refine sr_VFi (c := 64) (ci := 8) (as := [.int (nI r)]) (st := []) hA si_198_21 sv_190 sk_198_209 (mc_np0 X g hr hp.2.2.1 hzb hn hn6 (fun i hi => by obtain ⟨a, a1, a2⟩ := hks i hi; exact ⟨a, a1, (hp.2.2.2 i hi).trans a2⟩)) (by omega) rfl (by decide) (by decide) rfl sq_c_190 rfl (Nat.le_of_ble_eq_true rfl) ?_
  refine sr_istore_n (ls1 := [.ref 64, .int (nI r), .int (nI h), .int (nI 0), .null]) hA si_198_24 rfl (by rw [sq_l_198]; decide) rfl ?_
  refine sr_iload_n hA si_198_25 rfl ?_
  refine sr_if_geN (tgt := 31) hA si_198_26 (by decide) (by omega) ?_
  refine sr_aload_n hA si_198_31 rfl ?_
  refine sr_iconst (v := nI 0) hA si_198_32 (by decide) ?_
  refine sr_iconst (v := nI 1) hA si_198_33 (by decide) ?_
  refine sr_VRv (c := 64) (ci := 8) (as := [.int (nI 0), .int (nI 1)]) (st := []) hA si_198_34 sv_192 sk_198_212 (ma_copyTo X g (f := 0) (t := 1) (v := v) (by omega) (by omega) (by omega) hv) (by omega) rfl (by decide) (by decide) rfl sq_c_192 rfl (Nat.le_of_ble_eq_true rfl) (fun gz1 qz1 => ?_)
  have az1 := sp_ma.rf.fx qz1.1 (by omega)
  refine sr_iconst (v := nI 0) hA si_198_37 (by decide) ?_
  refine sr_istore (ls1 := [.ref 64, .int (nI r), .int (nI h), .int (nI 0), .int (nI 0)]) hA si_198_38 (by rw [sq_l_198]; decide) rfl ?_
  refine sr_fg (ls1 := [.ref 64, .int (nI r), .int (nI h), .null, .int (nI 0)]) ⟨Or.inr rfl, Or.inr rfl, Or.inr rfl, Or.inl rfl, Or.inr rfl, trivial⟩ ?_
  exact ml_lasts hh hK hp hzb hks hBq hA 20 0 gz1 v A rfl az1 qz1.2 hB (by omega) rfl
