/-- the ways of the wind along a piece -/
def sp_tu (n : Nat) (K T P f : Nat → Int32) : Nat → (Nat → Int32) → Nat → Nat → Option Nat
  | 0, _, _, w => some w
  | m + 1, v, i, w => if sp_cb (K (f i).toNatClampNeg) (T (f i).toNatClampNeg) (v (f i).toNatClampNeg) = true then sp_tu n K T P f m (sp_pl n K P v (f i).toNatClampNeg) (i + 1) (w * sp_pc (sp_set n K T v)) else none
def sp_ul (o : Option Nat) : Nat × Nat := match o with
  | none => (0, 1)
  | some w => (1, w)
abbrev sp_cx (g : sp_G) (p : Nat × Nat) : sp_G := sp_wL (sp_wL g 0 13 (nL p.1 / nL (Nat.gcd p.1 p.2))) 0 14 (nL p.2 / nL (Nat.gcd p.1 p.2))
abbrev sp_cm (g : sp_G) (p : Nat × Nat) : sp_G := sp_wL (sp_wL g 64 3 (nL p.1 / nL (Nat.gcd p.1 p.2))) 64 4 (nL p.2 / nL (Nat.gcd p.1 p.2))
theorem sp_pcB : ∀ s, s < 64 → ∀ a, a < 6 → s / 2 ^ a % 2 = 1 → 1 ≤ sp_pc s := by decide +kernel
theorem sp_st_bit (c : Nat → Bool) : ∀ (n a : Nat), sp_st c n / 2 ^ a % 2 = if a < n ∧ c a = true then 1 else 0
  | 0, a => by
    rw [if_neg (by omega)]
    show 0 / 2 ^ a % 2 = 0
    rw [Nat.zero_div]
  | n + 1, a => by
    have ih := sp_st_bit c n a
    have hl := sp_st_lt c n
    show (sp_st c n + (if c n then 2 ^ n else 0)) / 2 ^ a % 2 = _
    by_cases hc : c n = true
    · rw [if_pos hc]
      rcases Nat.lt_trichotomy a n with h | h | h
      · have e : 2 ^ n = 2 ^ a * (2 * 2 ^ (n - a - 1)) := by
          obtain ⟨q, rfl⟩ : ∃ q, n = a + 1 + q := ⟨n - a - 1, by omega⟩
          rw [show a + 1 + q - a - 1 = q by omega, Nat.pow_add, Nat.pow_succ, Nat.mul_assoc]
        rw [e, Nat.add_mul_div_left _ _ (Nat.two_pow_pos a), Nat.add_mul_mod_self_left, ih]
        by_cases hca : c a = true
        · rw [if_pos ⟨h, hca⟩, if_pos ⟨by omega, hca⟩]
        · rw [if_neg (fun q => hca q.2), if_neg (fun q => hca q.2)]
      · subst h
        rw [if_pos ⟨by omega, hc⟩, show sp_st c a + 2 ^ a = sp_st c a + 2 ^ a * 1 by omega, Nat.add_mul_div_left _ _ (Nat.two_pow_pos a), Nat.div_eq_of_lt hl]
      · rw [if_neg (by omega), Nat.div_eq_of_lt]
        have : 2 ^ (n + 1) ≤ 2 ^ a := Nat.pow_le_pow_right (by omega) (by omega)
        rw [Nat.pow_succ] at this
        omega
    · rw [if_neg hc, Nat.add_zero, ih]
      by_cases h : a < n
      · by_cases hca : c a = true <;> simp [h, hca]; omega
      · rw [if_neg (by omega)]
        by_cases e : a = n
        · subst e; rw [if_neg (fun q => hc q.2)]
        · rw [if_neg (by omega)]
theorem sp_set_bit {n a : Nat} {K T v : Nat → Int32} : sp_set n K T v / 2 ^ a % 2 = if a < n ∧ sp_cb (K a) (T a) (v a) = true then 1 else 0 := sp_st_bit _ n a
theorem sp_pc1 {n a : Nat} {K T v : Nat → Int32} (hn : n ≤ 6) (ha : a < n) (h : sp_cb (K a) (T a) (v a) = true) : 1 ≤ sp_pc (sp_set n K T v) := sp_pcB _ (sp_set64 hn) a (by omega) (by rw [sp_set_bit, if_pos ⟨ha, h⟩])
theorem sp_6w {w i p : Nat} (h1 : w ≤ 6 ^ i) (hp : p ≤ 6) : w * p ≤ 6 ^ (i + 1) := by
  rw [Nat.pow_succ]; exact Nat.mul_le_mul h1 hp
theorem sp_6b {i : Nat} (h : i ≤ 12) : 6 ^ i ≤ 2176782336 := Nat.le_trans (Nat.pow_le_pow_right (by omega) h) (by decide)
set_option maxRecDepth 20000 in
theorem xl_tune {X : sp_X} {ac : sp_Ac} {g : sp_G} {n r z : Nat} {K T P f : Nat → Int32} (hK : sp_KX n K T P g) (hp : sp_PX r z f g) (hzb : z ≤ 12) (hks : sp_ks f n z) {R0 : Option Nat} (hA : sp_Act X 111 8 (sp_Ri (fun x g' => x = nI 1 ∧ ∃ gm, sp_xa g gm ∧ g' = sp_cx gm (sp_ul R0))) ac) : ∀ (m : Nat) (i : Nat) (gg : sp_G) (v : Nat → Int32) (A : Nat) (Bq : Nat) (w : Nat), i + m = z → sp_xa g gg → sp_hS gg 43 44 v → sp_oB n A Bq v → A < 2 ^ 19 + 2 * i → Bq < 2 ^ 19 + 2 * i → w ≤ 6 ^ i → 0 < w → sp_tu n K T P f m v i w = R0 → sp_Ev X ac 111 45 [.ref 0, .int (nI r), .null, .long (nL w), .null, .int (nI i), .null] [] gg := by
  intro m
  induction m with
  | zero =>
    intro i gg v A Bq w h0_ h1_ h2_ h3_ h4_ h5_ h6_ h7_ h8_
    obtain ⟨hn, hn6, -⟩ := id hK
    obtain ⟨hr, -, -, -⟩ := id hp
    refine sr_iload hA si_111_45 rfl ?_
    refine sr_aload_n hA si_111_47 rfl ?_
    refine sr_getR (r := 1) hA si_111_48 sf_111_14 (by decide) (by decide) rfl rfl rfl ?_
    refine sr_iload_n hA si_111_51 rfl ?_
    refine sr_VFi (c := 1) (ci := 5) (as := [.int (nI r)]) (st := [.int (nI i)]) hA si_111_52 sv_26 sk_111_114 (xc_sizeR X gg (z := nI z) (by omega) (by rw [h1_.i 9 (by unfold sp_xs; omega)]; exact hp.2.2.1)) (by omega) rfl (by decide) (by decide) rfl sq_c_26 rfl (Nat.le_of_ble_eq_true rfl) ?_
    refine sr_icmp_geN (tgt := 130) hA si_111_55 (by decide) (by omega) (by omega) (fun c1 => ?_) (fun c1 => absurd c1 (by omega))
    refine sr_aload_n hA si_111_130 rfl ?_
    refine sr_lconst (v := 1) hA si_111_131 rfl ?_
    refine sr_lload_n hA si_111_132 rfl ?_
    refine sr_VFi (c := 0) (ci := 7) (as := [.long 1, .long (nL w)]) (st := []) hA si_111_133 sv_112 sk_111_274 (xc_tellCh X gg (u := 1) (l := w) (by omega) (by have := sp_6b (i := i) (by omega); omega) (sp_eu_le 66 199 1 w (by omega) (sp_eu_of 33 1 w (by have := sp_6b (i := i) (by omega); omega))) (by rw [Nat.gcd_one_left]; omega)) (by omega) rfl (by decide) (by decide) rfl sq_c_112 rfl (Nat.le_of_ble_eq_true rfl) ?_
    have e9 : some w = R0 := h8_
    exact sr_iretR hA si_111_136 sq_r_111 ⟨rfl, gg, h1_, by rw [← e9]; rfl⟩
  | succ m ih =>
    intro i gg v A Bq w h0_ h1_ h2_ h3_ h4_ h5_ h6_ h7_ h8_
    obtain ⟨hn, hn6, -⟩ := id hK
    obtain ⟨hr, -, -, -⟩ := id hp
    obtain ⟨a, ha, ea⟩ := hks i (by omega)
    refine sr_iload hA si_111_45 rfl ?_
    refine sr_aload_n hA si_111_47 rfl ?_
    refine sr_getR (r := 1) hA si_111_48 sf_111_14 (by decide) (by decide) rfl rfl rfl ?_
    refine sr_iload_n hA si_111_51 rfl ?_
    refine sr_VFi (c := 1) (ci := 5) (as := [.int (nI r)]) (st := [.int (nI i)]) hA si_111_52 sv_26 sk_111_114 (xc_sizeR X gg (z := nI z) (by omega) (by rw [h1_.i 9 (by unfold sp_xs; omega)]; exact hp.2.2.1)) (by omega) rfl (by decide) (by decide) rfl sq_c_26 rfl (Nat.le_of_ble_eq_true rfl) ?_
    refine sr_icmp_geN (tgt := 130) hA si_111_55 (by decide) (by omega) (by omega) (fun c1 => absurd c1 (by omega)) (fun c1 => ?_)
    refine sr_aload_n hA si_111_58 rfl ?_
    refine sr_getR (r := 1) hA si_111_59 sf_111_14 (by decide) (by decide) rfl rfl rfl ?_
    refine sr_iload_n hA si_111_62 rfl ?_
    refine sr_iload hA si_111_63 rfl ?_
    refine sr_VFi (c := 1) (ci := 5) (as := [.int (nI r), .int (nI i)]) (st := []) hA si_111_65 sv_18 sk_111_88 (xc_getR X gg (v := nI a) (by omega) (by omega) (by rw [h1_.i (3 + r) (by unfold sp_xs; omega)]; exact ((hp.2.2.2 i (by omega)).trans ea))) (by omega) rfl (by decide) (by decide) rfl sq_c_18 rfl (Nat.le_of_ble_eq_true rfl) ?_
    refine sr_istore (ls1 := [.ref 0, .int (nI r), .null, .long (nL w), .null, .int (nI i), .int (nI a)]) hA si_111_68 (by rw [sq_l_111]; decide) rfl ?_
    refine sr_aload_n hA si_111_70 rfl ?_
    refine sr_getR (r := 18) hA si_111_71 sf_111_32 (by decide) (by decide) rfl rfl rfl ?_
    refine sr_iload hA si_111_74 rfl ?_
    refine sr_aload_n hA si_111_76 rfl ?_
    refine sr_getR (r := 43) hA si_111_77 sf_111_40 (by decide) (by decide) rfl rfl rfl ?_
    by_cases hcb : sp_cb (K a) (T a) (v a) = true
    · refine sr_VFi (c := 18) (ci := 0) (as := [.int (nI a), .ref 43]) (st := []) hA si_111_80 sv_45 sk_111_185 (xa_bears1 X gg (v := v) sp_sd43 (hK.xa h1_) (by omega) h2_ hcb) (by omega) rfl (by decide) (by decide) rfl sq_c_45 rfl (Nat.le_of_ble_eq_true rfl) ?_
      refine sr_if_neN (tgt := 93) hA si_111_83 (by decide) (by omega) (fun c2 => ?_) (fun c2 => absurd c2 (by omega))
      refine sr_lload_n hA si_111_93 rfl ?_
      refine sr_aload_n hA si_111_94 rfl ?_
      refine sr_getR (r := 18) hA si_111_95 sf_111_32 (by decide) (by decide) rfl rfl rfl ?_
      refine sr_aload_n hA si_111_98 rfl ?_
      refine sr_getR (r := 43) hA si_111_99 sf_111_40 (by decide) (by decide) rfl rfl rfl ?_
      refine sr_VFi (c := 18) (ci := 0) (as := [.ref 43]) (st := [.long (nL w)]) hA si_111_102 sv_50 sk_111_175 (xa_playable X gg (v := v) sp_sd43 (hK.xa h1_) h2_) (by omega) rfl (by decide) (by decide) rfl sq_c_50 rfl (Nat.le_of_ble_eq_true rfl) ?_
      obtain ⟨nz1, ez1⟩ : ∃ q, q = sp_set n K T v := ⟨_, rfl⟩
      have lz1 : nz1 < 64 := by rw [ez1]; exact sp_set64 (by omega)
      rw [← ez1]
      refine sr_SFi (as := [.int (nI nz1)]) (st := [.long (nL w)]) hA si_111_105 ss_51 sk_111_179 (xc_bitCount X gg (t := nz1) lz1) (by omega) rfl rfl (Nat.le_of_ble_eq_true rfl) ?_
      refine sr_i2l hA si_111_108 ?_
      refine sr_lmul hA si_111_109 ?_
      refine sr_lstore_n (ls1 := [.ref 0, .int (nI r), .null, .long ((nL w) * ((nI (sp_pc nz1)).toInt64)), .null, .int (nI i), .int (nI a)]) hA si_111_110 rfl (by rw [sq_l_111]; decide) rfl ?_
      refine sr_aload_n hA si_111_111 rfl ?_
      refine sr_getR (r := 18) hA si_111_112 sf_111_32 (by decide) (by decide) rfl rfl rfl ?_
      refine sr_iload hA si_111_115 rfl ?_
      refine sr_aload_n hA si_111_117 rfl ?_
      refine sr_getR (r := 43) hA si_111_118 sf_111_40 (by decide) (by decide) rfl rfl rfl ?_
      refine sr_VRv (c := 18) (ci := 0) (as := [.int (nI a), .ref 43]) (st := []) hA si_111_121 sv_55 sk_111_192 (xa_sound X gg (v := v) sp_sd43 (hK.xa h1_) (by omega) h2_ h3_ (by omega)) (by omega) rfl (by decide) (by decide) rfl sq_c_55 rfl (Nat.le_of_ble_eq_true rfl) (fun gz2 qz2 => ?_)
      have az2 := h1_.sx qz2.1 (by unfold sp_xs; omega) (by unfold sp_xs; omega)
      refine sr_iincN (x := i) (y := 1) (ls1 := [.ref 0, .int (nI r), .null, .long ((nL w) * ((nI (sp_pc nz1)).toInt64)), .null, .int (nI (i + 1)), .int (nI a)]) hA si_111_124 rfl rfl (by rw [sq_l_111]; decide) rfl ?_
      refine sr_goto (tgt := 45) hA si_111_127 (by decide) ?_
      refine sr_fg (ls1 := [.ref 0, .int (nI r), .null, .long ((nL w) * ((nI (sp_pc nz1)).toInt64)), .null, .int (nI (i + 1)), .null]) ⟨Or.inr rfl, Or.inr rfl, Or.inl rfl, Or.inr rfl, Or.inl rfl, Or.inr rfl, Or.inl rfl, trivial⟩ ?_
      rw [show sp_tu n K T P f (m + 1) v i w = sp_tu n K T P f m (sp_pl n K P v a) (i + 1) (w * sp_pc (sp_set n K T v)) from by
          show (if _ then _ else _) = _
          rw [ea, nI_clamp (by omega)]
          exact if_pos hcb] at h8_
      have hpc := sp_pc1 (K := K) (T := T) hn6 ha hcb
      rw [← ez1] at hpc h8_
      have hp6 := sp_pc6 nz1 lz1
      have hw6 := sp_6b (i := i) (by omega)
      have hwp : w * sp_pc nz1 ≤ 2176782336 * 6 := Nat.mul_le_mul (by omega) hp6
      rw [nL_i (by omega), nL_mul (by omega)]
      exact ih (i + 1) gz2 _ (A + 2) (Bq + 2) (w * sp_pc nz1) (by omega) az2 qz2.2 (sp_oB.pl h3_ hn6 ha (by omega) (by omega)) (by omega) (by omega) (sp_6w h6_ hp6) (Nat.mul_pos h7_ (by omega)) h8_
    · refine sr_VFi (c := 18) (ci := 0) (as := [.int (nI a), .ref 43]) (st := []) hA si_111_80 sv_45 sk_111_185 (xa_bears0 X gg (v := v) sp_sd43 (hK.xa h1_) (by omega) h2_ hcb) (by omega) rfl (by decide) (by decide) rfl sq_c_45 rfl (Nat.le_of_ble_eq_true rfl) ?_
      refine sr_if_neN (tgt := 93) hA si_111_83 (by decide) (by omega) (fun c3 => absurd c3 (by omega)) (fun c3 => ?_)
      refine sr_aload_n hA si_111_86 rfl ?_
      refine sr_lconst (v := 0) hA si_111_87 rfl ?_
      refine sr_lconst (v := 1) hA si_111_88 rfl ?_
      refine sr_VFi (c := 0) (ci := 7) (as := [.long 0, .long 1]) (st := []) hA si_111_89 sv_112 sk_111_274 (xc_tellCh X gg (u := 0) (l := 1) (by omega) (by omega) (by unfold sp_eu; exact Or.inr (Or.inl rfl)) (by decide)) (by omega) rfl (by decide) (by decide) rfl sq_c_112 rfl (Nat.le_of_ble_eq_true rfl) ?_
      have e9 : none = R0 := by
        rw [← h8_]
        show _ = (if _ then _ else _)
        rw [ea, nI_clamp (by omega)]
        exact (if_neg hcb).symm
      exact sr_iretR hA si_111_92 sq_r_111 ⟨rfl, gg, h1_, by rw [← e9]; rfl⟩
set_option maxRecDepth 20000 in
theorem xc_tune_e (X : sp_X) (g : sp_G) {n r z : Nat} {K T P f : Nat → Int32} (hK : sp_KX n K T P g) (hp : sp_PX r z f g) (hzb : z ≤ 12) (hks : sp_ks f n z) {A Bq : Nat} {v : Nat → Int32} (hv : sp_hS g 41 42 v) (hB : sp_oB n A Bq v) (hAb : A < 2 ^ 19) (hBb : Bq < 2 ^ 19) : sp_Ct X 8 111 [.ref 0, .int (nI r)] g (sp_Ri (fun x g' => x = nI 1 ∧ ∃ gm, sp_xa g gm ∧ g' = sp_cx gm (sp_ul (sp_tu n K T P f z v 0 1)))) := by
  obtain ⟨hn, hn6, -⟩ := id hK
  obtain ⟨hr, -, -, -⟩ := id hp
  refine sp_walkN (n := 7) sq_p_111 sq_l_111 (Nat.le_of_ble_eq_true rfl) (fun a hA => ?_)
  show sp_Ev X a 111 0 [.ref 0, .int (nI r), .null, .null, .null, .null, .null] [] g
  refine sr_aload_n hA si_111_0 rfl ?_
  refine sr_getR (r := 1) hA si_111_1 sf_111_14 (by decide) (by decide) rfl rfl rfl ?_
  refine sr_iload_n hA si_111_4 rfl ?_
  refine sr_VFi (c := 1) (ci := 5) (as := [.int (nI r)]) (st := []) hA si_111_5 sv_11 sk_111_72 (xc_numR1 X g (by omega)) (by omega) rfl (by decide) (by decide) rfl sq_c_11 rfl (Nat.le_of_ble_eq_true rfl) ?_
  refine sr_if_neN (tgt := 13) hA si_111_8 (by decide) (by omega) (fun c1 => ?_) (fun c1 => absurd c1 (by omega))
  refine sr_aload_n hA si_111_13 rfl ?_
  refine sr_iload_n hA si_111_14 rfl ?_
  refine sr_VFi (c := 0) (ci := 7) (as := [.int (nI r)]) (st := []) hA si_111_15 sv_73 sk_111_223 (xc_pwr0 X g hr hp.2.2.1 hzb hn hn6 (fun i hi => by obtain ⟨a, a1, a2⟩ := hks i hi; exact ⟨a, a1, (hp.2.2.2 i hi).trans a2⟩)) (by omega) rfl (by decide) (by decide) rfl sq_c_73 rfl (Nat.le_of_ble_eq_true rfl) ?_
  refine sr_istore_n (ls1 := [.ref 0, .int (nI r), .int (nI 0), .null, .null, .null, .null]) hA si_111_18 rfl (by rw [sq_l_111]; decide) rfl ?_
  refine sr_iload_n hA si_111_19 rfl ?_
  refine sr_if_eqN (tgt := 29) hA si_111_20 (by decide) (by omega) (fun c2 => ?_) (fun c2 => absurd c2 (by omega))
  refine sr_aload_n hA si_111_29 rfl ?_
  refine sr_getR (r := 43) hA si_111_30 sf_111_40 (by decide) (by decide) rfl rfl rfl ?_
  refine sr_aload_n hA si_111_33 rfl ?_
  refine sr_getR (r := 41) hA si_111_34 sf_111_36 (by decide) (by decide) rfl rfl rfl ?_
  refine sr_VRv (c := 43) (ci := 2) (as := [.ref 41]) (st := []) hA si_111_37 sv_39 sk_111_131 (xa_take X g (v := v) sp_sd43 sp_sd41 (by unfold sp_ap; omega) hv) (by omega) rfl (by decide) (by decide) rfl sq_c_39 rfl (Nat.le_of_ble_eq_true rfl) (fun gz1 qz1 => ?_)
  have az1 := sp_xa.rf.sx qz1.1 (by unfold sp_xs; omega) (by unfold sp_xs; omega)
  refine sr_lconst (v := 1) hA si_111_40 rfl ?_
  refine sr_lstore_n (ls1 := [.ref 0, .int (nI r), .int (nI 0), .long 1, .null, .null, .null]) hA si_111_41 rfl (by rw [sq_l_111]; decide) rfl ?_
  refine sr_iconst (v := nI 0) hA si_111_42 (by decide) ?_
  refine sr_istore (ls1 := [.ref 0, .int (nI r), .int (nI 0), .long 1, .null, .int (nI 0), .null]) hA si_111_43 (by rw [sq_l_111]; decide) rfl ?_
  refine sr_fg (ls1 := [.ref 0, .int (nI r), .null, .long 1, .null, .int (nI 0), .null]) ⟨Or.inr rfl, Or.inr rfl, Or.inl rfl, Or.inr rfl, Or.inl rfl, Or.inr rfl, Or.inl rfl, trivial⟩ ?_
  exact xl_tune hK hp hzb hks hA z 0 gz1 v A Bq 1 (by omega) az1 qz1.2 hB (by omega) (by omega) (by omega) (by omega) rfl
set_option maxRecDepth 20000 in
theorem ml_tune {X : sp_X} {ac : sp_Ac} {g : sp_G} {n r z : Nat} {K T P f : Nat → Int32} (hK : sp_KM n K T P g) (hp : sp_PM r z f g) (hzb : z ≤ 12) (hks : sp_ks f n z) {R0 : Option Nat} (hA : sp_Act X 217 8 (sp_Ri (fun x g' => x = nI 1 ∧ ∃ gm, sp_ma g gm ∧ g' = sp_cm gm (sp_ul R0))) ac) : ∀ (m : Nat) (i : Nat) (gg : sp_G) (v : Nat → Int32) (A : Nat) (Bq : Nat) (w : Nat), i + m = z → sp_ma g gg → sp_hP gg 1 v → sp_oB n A Bq v → A < 2 ^ 19 + 2 * i → Bq < 2 ^ 19 + 2 * i → w ≤ 6 ^ i → 0 < w → sp_tu n K T P f m v i w = R0 → sp_Ev X ac 217 32 [.ref 64, .int (nI r), .null, .long (nL w), .null, .int (nI i)] [] gg := by
  intro m
  induction m with
  | zero =>
    intro i gg v A Bq w h0_ h1_ h2_ h3_ h4_ h5_ h6_ h7_ h8_
    obtain ⟨hn, hn6, -⟩ := id hK
    obtain ⟨hr, -, -, -⟩ := id hp
    refine sr_iload hA si_217_32 rfl ?_
    refine sr_aload_n hA si_217_34 rfl ?_
    refine sr_getR (r := 66) hA si_217_35 sf_217_17 (by decide) (by decide) rfl rfl rfl ?_
    refine sr_iload_n hA si_217_38 rfl ?_
    refine sr_ialdNv (v := nI z) (n := 6) hA si_217_39 (by decide) rfl rfl (by omega) (by decide) (by rw [h1_.i 66 (by omega) (by omega) (by omega)]; exact hp.2.2.1) ?_
    refine sr_icmp_geN (tgt := 95) hA si_217_40 (by decide) (by omega) (by omega) (fun c1 => ?_) (fun c1 => absurd c1 (by omega))
    refine sr_aload_n hA si_217_95 rfl ?_
    refine sr_lconst (v := 1) hA si_217_96 rfl ?_
    refine sr_lload_n hA si_217_97 rfl ?_
    refine sr_VFi (c := 64) (ci := 8) (as := [.long 1, .long (nL w)]) (st := []) hA si_217_98 sv_218 sk_217_271 (mc_part X gg (u := 1) (l := w) (by omega) (by have := sp_6b (i := i) (by omega); omega) (sp_eu_le 66 199 1 w (by omega) (sp_eu_of 33 1 w (by have := sp_6b (i := i) (by omega); omega))) (by rw [Nat.gcd_one_left]; omega)) (by omega) rfl (by decide) (by decide) rfl sq_c_218 rfl (Nat.le_of_ble_eq_true rfl) ?_
    have e9 : some w = R0 := h8_
    exact sr_iretR hA si_217_101 sq_r_217 ⟨rfl, gg, h1_, by rw [← e9]; rfl⟩
  | succ m ih =>
    intro i gg v A Bq w h0_ h1_ h2_ h3_ h4_ h5_ h6_ h7_ h8_
    obtain ⟨hn, hn6, -⟩ := id hK
    obtain ⟨hr, -, -, -⟩ := id hp
    obtain ⟨a, ha, ea⟩ := hks i (by omega)
    refine sr_iload hA si_217_32 rfl ?_
    refine sr_aload_n hA si_217_34 rfl ?_
    refine sr_getR (r := 66) hA si_217_35 sf_217_17 (by decide) (by decide) rfl rfl rfl ?_
    refine sr_iload_n hA si_217_38 rfl ?_
    refine sr_ialdNv (v := nI z) (n := 6) hA si_217_39 (by decide) rfl rfl (by omega) (by decide) (by rw [h1_.i 66 (by omega) (by omega) (by omega)]; exact hp.2.2.1) ?_
    refine sr_icmp_geN (tgt := 95) hA si_217_40 (by decide) (by omega) (by omega) (fun c1 => absurd c1 (by omega)) (fun c1 => ?_)
    refine sr_aload_n hA si_217_43 rfl ?_
    refine sr_iconst (v := nI 1) hA si_217_44 (by decide) ?_
    refine sr_aload_n hA si_217_45 rfl ?_
    refine sr_iload_n hA si_217_46 rfl ?_
    refine sr_iload hA si_217_47 rfl ?_
    refine sr_VFi (c := 64) (ci := 8) (as := [.int (nI r), .int (nI i)]) (st := [.int (nI 1), .ref 64]) hA si_217_49 sv_143 sk_217_101 (by have h := mc_rowAt X gg (r := r) (i := i) (by omega); rw [show gg.1 67 (40 * r + i) = nI a from ((hp.ma h1_).2.2.2 i (by omega)).trans ea] at h; exact h) (by omega) rfl (by decide) (by decide) rfl sq_c_143 rfl (Nat.le_of_ble_eq_true rfl) ?_
    by_cases hcb : sp_cb (K a) (T a) (v a) = true
    · refine sr_VFi (c := 64) (ci := 8) (as := [.int (nI 1), .int (nI a)]) (st := []) hA si_217_52 sv_165 sk_217_155 (ma_can1 X gg (f := 1) (i := a) (v := v) (by omega) (hK.ma h1_) (by omega) h2_ hcb) (by omega) rfl (by decide) (by decide) rfl sq_c_165 rfl (Nat.le_of_ble_eq_true rfl) ?_
      refine sr_if_neN (tgt := 65) hA si_217_55 (by decide) (by omega) (fun c2 => ?_) (fun c2 => absurd c2 (by omega))
      refine sr_lload_n hA si_217_65 rfl ?_
      refine sr_aload_n hA si_217_66 rfl ?_
      refine sr_iconst (v := nI 1) hA si_217_67 (by decide) ?_
      refine sr_VFi (c := 64) (ci := 8) (as := [.int (nI 1)]) (st := [.long (nL w)]) hA si_217_68 sv_170 sk_217_183 (ma_canSet X gg (f := 1) (v := v) (by omega) (hK.ma h1_) h2_) (by omega) rfl (by decide) (by decide) rfl sq_c_170 rfl (Nat.le_of_ble_eq_true rfl) ?_
      obtain ⟨nz1, ez1⟩ : ∃ q, q = sp_set n K T v := ⟨_, rfl⟩
      have lz1 : nz1 < 64 := by rw [ez1]; exact sp_set64 (by omega)
      rw [← ez1]
      refine sr_SFi (as := [.int (nI nz1)]) (st := [.long (nL w)]) hA si_217_71 ss_171 sk_217_186 (mc_bits X gg (t := nz1) lz1) (by omega) rfl rfl (Nat.le_of_ble_eq_true rfl) ?_
      refine sr_i2l hA si_217_74 ?_
      refine sr_lmul hA si_217_75 ?_
      refine sr_lstore_n (ls1 := [.ref 64, .int (nI r), .null, .long ((nL w) * ((nI (sp_pc nz1)).toInt64)), .null, .int (nI i)]) hA si_217_76 rfl (by rw [sq_l_217]; decide) rfl ?_
      refine sr_aload_n hA si_217_77 rfl ?_
      refine sr_iconst (v := nI 1) hA si_217_78 (by decide) ?_
      refine sr_aload_n hA si_217_79 rfl ?_
      refine sr_iload_n hA si_217_80 rfl ?_
      refine sr_iload hA si_217_81 rfl ?_
      refine sr_VFi (c := 64) (ci := 8) (as := [.int (nI r), .int (nI i)]) (st := [.int (nI 1), .ref 64]) hA si_217_83 sv_143 sk_217_101 (by have h := mc_rowAt X gg (r := r) (i := i) (by omega); rw [show gg.1 67 (40 * r + i) = nI a from ((hp.ma h1_).2.2.2 i (by omega)).trans ea] at h; exact h) (by omega) rfl (by decide) (by decide) rfl sq_c_143 rfl (Nat.le_of_ble_eq_true rfl) ?_
      refine sr_VRv (c := 64) (ci := 8) (as := [.int (nI 1), .int (nI a)]) (st := []) hA si_217_86 sv_175 sk_217_192 (ma_plays X gg (f := 1) (i := a) (v := v) (by omega) (hK.ma h1_) (by omega) h2_) (by omega) rfl (by decide) (by decide) rfl sq_c_175 rfl (Nat.le_of_ble_eq_true rfl) (fun gz2 qz2 => ?_)
      have az2 := h1_.fx qz2.1 (by omega)
      refine sr_iincN (x := i) (y := 1) (ls1 := [.ref 64, .int (nI r), .null, .long ((nL w) * ((nI (sp_pc nz1)).toInt64)), .null, .int (nI (i + 1))]) hA si_217_89 rfl rfl (by rw [sq_l_217]; decide) rfl ?_
      refine sr_goto (tgt := 32) hA si_217_92 (by decide) ?_
      rw [show sp_tu n K T P f (m + 1) v i w = sp_tu n K T P f m (sp_pl n K P v a) (i + 1) (w * sp_pc (sp_set n K T v)) from by
          show (if _ then _ else _) = _
          rw [ea, nI_clamp (by omega)]
          exact if_pos hcb] at h8_
      have hpc := sp_pc1 (K := K) (T := T) hn6 ha hcb
      rw [← ez1] at hpc h8_
      have hp6 := sp_pc6 nz1 lz1
      have hw6 := sp_6b (i := i) (by omega)
      have hwp : w * sp_pc nz1 ≤ 2176782336 * 6 := Nat.mul_le_mul (by omega) hp6
      rw [nL_i (by omega), nL_mul (by omega)]
      exact ih (i + 1) gz2 _ (A + 2) (Bq + 2) (w * sp_pc nz1) (by omega) az2 qz2.2 (sp_oB.pl h3_ hn6 ha (by omega) (by omega)) (by omega) (by omega) (sp_6w h6_ hp6) (Nat.mul_pos h7_ (by omega)) h8_
    · refine sr_VFi (c := 64) (ci := 8) (as := [.int (nI 1), .int (nI a)]) (st := []) hA si_217_52 sv_165 sk_217_155 (ma_can0 X gg (f := 1) (i := a) (v := v) (by omega) (hK.ma h1_) (by omega) h2_ hcb) (by omega) rfl (by decide) (by decide) rfl sq_c_165 rfl (Nat.le_of_ble_eq_true rfl) ?_
      refine sr_if_neN (tgt := 65) hA si_217_55 (by decide) (by omega) (fun c3 => absurd c3 (by omega)) (fun c3 => ?_)
      refine sr_aload_n hA si_217_58 rfl ?_
      refine sr_lconst (v := 0) hA si_217_59 rfl ?_
      refine sr_lconst (v := 1) hA si_217_60 rfl ?_
      refine sr_VFi (c := 64) (ci := 8) (as := [.long 0, .long 1]) (st := []) hA si_217_61 sv_218 sk_217_271 (mc_part X gg (u := 0) (l := 1) (by omega) (by omega) (by unfold sp_eu; exact Or.inr (Or.inl rfl)) (by decide)) (by omega) rfl (by decide) (by decide) rfl sq_c_218 rfl (Nat.le_of_ble_eq_true rfl) ?_
      have e9 : none = R0 := by
        rw [← h8_]
        show _ = (if _ then _ else _)
        rw [ea, nI_clamp (by omega)]
        exact (if_neg hcb).symm
      exact sr_iretR hA si_217_64 sq_r_217 ⟨rfl, gg, h1_, by rw [← e9]; rfl⟩
set_option maxRecDepth 20000 in
theorem mc_tune_e (X : sp_X) (g : sp_G) {n r z : Nat} {K T P f : Nat → Int32} (hK : sp_KM n K T P g) (hp : sp_PM r z f g) (hzb : z ≤ 12) (hks : sp_ks f n z) {A Bq : Nat} {v : Nat → Int32} (hv : sp_hP g 0 v) (hB : sp_oB n A Bq v) (hAb : A < 2 ^ 19) (hBb : Bq < 2 ^ 19) : sp_Ct X 8 217 [.ref 64, .int (nI r)] g (sp_Ri (fun x g' => x = nI 1 ∧ ∃ gm, sp_ma g gm ∧ g' = sp_cm gm (sp_ul (sp_tu n K T P f z v 0 1)))) := by
  obtain ⟨hn, hn6, -⟩ := id hK
  obtain ⟨hr, -, -, -⟩ := id hp
  refine sp_walkN (n := 6) sq_p_217 sq_l_217 (Nat.le_of_ble_eq_true rfl) (fun a hA => ?_)
  show sp_Ev X a 217 0 [.ref 64, .int (nI r), .null, .null, .null, .null] [] g
  refine sr_iload_n hA si_217_0 rfl ?_
  refine sr_SFi (as := [.int (nI r)]) (st := []) hA si_217_1 ss_140 sk_217_93 (mc_isRow1 X g (by omega)) (by omega) rfl rfl (Nat.le_of_ble_eq_true rfl) ?_
  refine sr_if_neN (tgt := 9) hA si_217_4 (by decide) (by omega) (fun c1 => ?_) (fun c1 => absurd c1 (by omega))
  refine sr_aload_n hA si_217_9 rfl ?_
  refine sr_iload_n hA si_217_10 rfl ?_
  refine sr_VFi (c := 64) (ci := 8) (as := [.int (nI r)]) (st := []) hA si_217_11 sv_190 sk_217_209 (mc_np0 X g hr hp.2.2.1 hzb hn hn6 (fun i hi => by obtain ⟨a, a1, a2⟩ := hks i hi; exact ⟨a, a1, (hp.2.2.2 i hi).trans a2⟩)) (by omega) rfl (by decide) (by decide) rfl sq_c_190 rfl (Nat.le_of_ble_eq_true rfl) ?_
  refine sr_istore_n (ls1 := [.ref 64, .int (nI r), .int (nI 0), .null, .null, .null]) hA si_217_14 rfl (by rw [sq_l_217]; decide) rfl ?_
  refine sr_iload_n hA si_217_15 rfl ?_
  refine sr_if_geN (tgt := 21) hA si_217_16 (by decide) (by omega) ?_
  refine sr_aload_n hA si_217_21 rfl ?_
  refine sr_iconst (v := nI 0) hA si_217_22 (by decide) ?_
  refine sr_iconst (v := nI 1) hA si_217_23 (by decide) ?_
  refine sr_VRv (c := 64) (ci := 8) (as := [.int (nI 0), .int (nI 1)]) (st := []) hA si_217_24 sv_192 sk_217_212 (ma_copyTo X g (f := 0) (t := 1) (v := v) (by omega) (by omega) (by omega) hv) (by omega) rfl (by decide) (by decide) rfl sq_c_192 rfl (Nat.le_of_ble_eq_true rfl) (fun gz1 qz1 => ?_)
  have az1 := sp_ma.rf.fx qz1.1 (by omega)
  refine sr_lconst (v := 1) hA si_217_27 rfl ?_
  refine sr_lstore_n (ls1 := [.ref 64, .int (nI r), .int (nI 0), .long 1, .null, .null]) hA si_217_28 rfl (by rw [sq_l_217]; decide) rfl ?_
  refine sr_iconst (v := nI 0) hA si_217_29 (by decide) ?_
  refine sr_istore (ls1 := [.ref 64, .int (nI r), .int (nI 0), .long 1, .null, .int (nI 0)]) hA si_217_30 (by rw [sq_l_217]; decide) rfl ?_
  refine sr_fg (ls1 := [.ref 64, .int (nI r), .null, .long 1, .null, .int (nI 0)]) ⟨Or.inr rfl, Or.inr rfl, Or.inl rfl, Or.inr rfl, Or.inl rfl, Or.inr rfl, trivial⟩ ?_
  exact ml_tune hK hp hzb hks hA z 0 gz1 v A Bq 1 (by omega) az1 qz1.2 hB (by omega) (by omega) (by omega) (by omega) rfl
