/-- the bit of that rank -/
def sp_bb (s : Nat) : Nat → Nat → Nat → Nat
  | 0, _, _ => 0
  | m + 1, i, l => if s / 2 ^ i % 2 = 1 then (if l = 0 then i else sp_bb s m (i + 1) (l - 1)) else sp_bb s m (i + 1) l
def sp_rc (s : Nat) : Nat → Nat → Nat
  | 0, _ => 0
  | m + 1, i => s / 2 ^ i % 2 + sp_rc s m (i + 1)
theorem sp_bb_in (s : Nat) : ∀ (m i l : Nat), l < sp_rc s m i → sp_bb s m i l < i + m ∧ s / 2 ^ (sp_bb s m i l) % 2 = 1
  | 0, i, l, h => absurd h (by unfold sp_rc; omega)
  | m + 1, i, l, h => by
    have h : l < s / 2 ^ i % 2 + sp_rc s m (i + 1) := h
    show (if _ then _ else _) < _ ∧ s / 2 ^ (if _ then _ else _) % 2 = 1
    by_cases hb : s / 2 ^ i % 2 = 1
    · rw [if_pos hb]
      by_cases hl : l = 0
      · rw [if_pos hl]; exact ⟨by omega, hb⟩
      · rw [if_neg hl]
        have := sp_bb_in s m (i + 1) (l - 1) (by omega)
        exact ⟨by omega, this.2⟩
    · rw [if_neg hb]
      have := sp_bb_in s m (i + 1) l (by have := Nat.mod_two_eq_zero_or_one (s / 2 ^ i); omega)
      exact ⟨by omega, this.2⟩
theorem sp_rc_pc : ∀ s, s < 64 → sp_rc s 6 0 = sp_pc s := by decide +kernel
theorem sp_pc0 : ∀ s, s < 64 → (sp_pc s = 0 ↔ s = 0) := by decide +kernel
theorem nL_32 {k : Nat} (h : k < 2 ^ 31) : (nL k).toInt32 = nI k := by
  apply Int32.toInt_inj.mp
  rw [nI_toInt h, Int64.toInt_toInt32, nL_toInt (by omega)]
  exact Int.bmod_eq_of_le (by omega) (by omega)
theorem sp_lotE {w : Nat} (h : w < 2147483647) : nL w * 48271 - nL w * 48271 / 2147483647 * 2147483647 = nL (w * 48271 % 2147483647) := by
  rw [show (48271 : Int64) = nL 48271 from rfl, show (2147483647 : Int64) = nL 2147483647 from rfl, nL_mul (by omega), nL_rem (by omega) (by omega)]
theorem sp_lotE2 {w : Nat} (h : w < 2147483647) : 48271 * nL w - 48271 * nL w / 2147483647 * 2147483647 = nL (w * 48271 % 2147483647) := by
  rw [Int64.mul_comm 48271 (nL w)]; exact sp_lotE h
theorem sp_rkL {w c : Nat} (h : w < 2 ^ 63) (hc : c < 2 ^ 31) : nL w - nL w / (nI c).toInt64 * (nI c).toInt64 = nL (w % c) := by
  rw [nL_i hc, nL_rem h (by omega)]
theorem sp_lcm1 {s : Nat} (h : s < 2147483647) : lg_cmp (nI s).toInt64 2147483647 < 0 := by
  rw [nL_i (by omega), show (2147483647 : Int64) = nL 2147483647 from rfl]
  unfold lg_cmp
  rw [if_neg (fun q => absurd ((nL_lt (by omega) (by omega)).mp q) (by omega)), if_neg (fun q => absurd (nL_inj (by omega) (by omega) q) (by omega))]
  decide
theorem sp_lcm0 : ¬ lg_cmp (nI 2147483647).toInt64 2147483647 < 0 := by decide
def sp_wn (n : Nat) (K T P : Nat → Int32) (p : Nat × (Nat → Int32)) : Nat × (Nat → Int32) := (p.1 * 48271 % 2147483647, sp_pl n K P p.2 (sp_bb (sp_set n K T p.2) 6 0 (p.1 * 48271 % 2147483647 % sp_pc (sp_set n K T p.2))))
def sp_sq (n : Nat) (K T P : Nat → Int32) (p : Nat × (Nat → Int32)) : Nat → Nat × (Nat → Int32)
  | 0 => p
  | t + 1 => sp_wn n K T P (sp_sq n K T P p t)
def sp_wt (S : Nat → Nat) : Nat → Nat → Nat
  | 0, t => t
  | m + 1, t => if S t = 0 then t else sp_wt S m (t + 1)
def sp_wx (g gg : sp_G) (dm : Nat) (Q : Nat → Nat × (Nat → Int32)) (t : Nat) : Prop := (∀ c, c ≠ 41 → c ≠ 42 → c ≠ 47 → c ≠ 48 → gg.1 c = g.1 c) ∧ (∀ j, j ≠ 1 → gg.1 47 j = g.1 47 j) ∧ gg.2 = g.2 ∧ gg.1 47 1 = nI (dm + t) ∧ sp_hS gg 41 42 (Q t).2 ∧ (∀ x, x < 9 * (dm + 1) → gg.1 48 x = g.1 48 x) ∧ ∀ j, 1 ≤ j → j ≤ t → ∀ i, i < 9 → gg.1 48 (9 * (dm + j) + i) = (Q j).2 i
def sp_wm (g gg : sp_G) (dm : Nat) (Q : Nat → Nat × (Nat → Int32)) (t : Nat) : Prop := (∀ c, c ≠ 64 → c ≠ 75 → c ≠ 76 → gg.1 c = g.1 c) ∧ (∀ j, j ≠ 21 → gg.1 64 j = g.1 64 j) ∧ gg.2 = g.2 ∧ gg.1 64 21 = nI (dm + t) ∧ sp_hP gg 0 (Q t).2 ∧ (∀ x, x < 9 * dm → gg.1 76 x = g.1 76 x) ∧ ∀ j, j < t → ∀ i, i < 9 → gg.1 76 (9 * (dm + j) + i) = (Q j).2 i
theorem sp_wx.step {g gg g1 : sp_G} {dm t : Nat} {Q : Nat → Nat × (Nat → Int32)} (h : sp_wx g gg dm Q t) (hx : sp_sx 41 42 gg g1) (hv : sp_hS g1 41 42 (Q (t + 1)).2) : sp_wx g (sp_sG (sp_wI g1 47 1 (nI (dm + t + 1))) 48 (dm + t + 1) (sp_sv g1 41 42)) dm Q (t + 1) := by
  obtain ⟨h1, h2, h3, h4, h5, h6, h7⟩ := h
  refine ⟨fun c c1 c2 c3 c4 => ?_, fun j hj => ?_, hx.2.trans h3, rfl, fun j hj => ?_, fun x hxx => ?_, fun j j1 j2 i hi => ?_⟩
  · rw [sp_sG_o c4, sp_wI_ne c3, hx.1 c c1 c2, h1 c c1 c2 c3 c4]
  · rw [sp_sG_o (by decide), sp_rd, if_neg (by omega), hx.1 47 (by decide) (by decide), h2 j hj]
  · rw [← hv j hj]; rfl
  · rw [sp_sG_rd, if_neg (by omega), sp_rd, if_neg (by omega), hx.1 48 (by decide) (by decide), h6 x hxx]
  · rw [sp_sG_rd]
    by_cases e : j = t + 1
    · subst e
      rw [if_pos ⟨rfl, by omega, by omega⟩, show 9 * (dm + (t + 1)) + i - 9 * (dm + t + 1) = i by omega]
      exact hv i hi
    · rw [if_neg (by omega), sp_rd, if_neg (by omega), hx.1 48 (by decide) (by decide), h7 j j1 (by omega) i hi]
theorem sp_wm.step {g gg g2 : sp_G} {dm t : Nat} {Q : Nat → Nat × (Nat → Int32)} (h : sp_wm g gg dm Q t) (hx : sp_fx 0 (sp_wI (sp_sG gg 76 (dm + t) (gg.1 75)) 64 21 (nI (dm + t + 1))) g2) (hv : sp_hP g2 0 (Q (t + 1)).2) : sp_wm g g2 dm Q (t + 1) := by
  obtain ⟨h1, h2, h3, h4, h5, h6, h7⟩ := h
  refine ⟨fun c c1 c2 c3 => ?_, fun j hj => ?_, hx.2.trans h3, ?_, hv, fun x hxx => ?_, fun j hj i hi => ?_⟩
  · funext j
    rw [hx.1 c j (by omega), sp_rd, if_neg (by omega), sp_sG_o c3, h1 c c1 c2 c3]
  · rw [hx.1 64 j (by omega), sp_rd, if_neg (by omega), sp_sG_o (by decide), h2 j hj]
  · rw [hx.1 64 21 (by omega)]; rfl
  · rw [hx.1 76 x (by omega), sp_rd, if_neg (by omega), sp_sG_rd, if_neg (by omega), h6 x hxx]
  · rw [hx.1 76 _ (by omega), sp_rd, if_neg (by omega), sp_sG_rd]
    by_cases e : j = t
    · subst e
      rw [if_pos ⟨rfl, by omega, by omega⟩, show 9 * (dm + j) + i - 9 * (dm + j) = i by omega, ← h5 i hi]
      exact congrArg (gg.1 75) (show i = 9 * 0 + i by omega)
    · rw [if_neg (by omega), h7 j (by omega) i hi]
theorem sp_wx.KX {g gg : sp_G} {dm t n : Nat} {Q : Nat → Nat × (Nat → Int32)} {K T P : Nat → Int32} (h : sp_wx g gg dm Q t) (hK : sp_KX n K T P g) : sp_KX n K T P gg := by
  unfold sp_KX
  rw [h.1 18 (by decide) (by decide) (by decide) (by decide), h.1 19 (by decide) (by decide) (by decide) (by decide), h.1 20 (by decide) (by decide) (by decide) (by decide), h.1 21 (by decide) (by decide) (by decide) (by decide)]
  exact hK
theorem sp_wm.KM {g gg : sp_G} {dm t n : Nat} {Q : Nat → Nat × (Nat → Int32)} {K T P : Nat → Int32} (h : sp_wm g gg dm Q t) (hK : sp_KM n K T P g) : sp_KM n K T P gg := by
  unfold sp_KM
  rw [h.2.1 11 (by decide), h.1 71 (by decide) (by decide) (by decide), h.1 72 (by decide) (by decide) (by decide), h.1 73 (by decide) (by decide) (by decide)]
  exact hK
theorem sp_KM.rem {g : sp_G} {n d : Nat} {K T P v : Nat → Int32} {x : Int32} (hK : sp_KM n K T P g) : sp_KM n K T P (sp_wI (sp_sG g 76 d v) 64 21 x) := hK
theorem sp_rc_le (s : Nat) : ∀ m i, sp_rc s m i ≤ m
  | 0, _ => Nat.le_refl 0
  | m + 1, i => by
    have := sp_rc_le s m (i + 1)
    show s / 2 ^ i % 2 + _ ≤ _
    omega
set_option maxRecDepth 20000 in
theorem xl_bb {X : sp_X} {ac : sp_Ac} {g : sp_G} {s R0 : Nat} (hs : s < 64) (hA : sp_Act X 119 0 (sp_Fi (nI R0) g) ac) : ∀ (m : Nat) (i : Nat) (l : Nat), i + m = 6 → l < sp_rc s m i → sp_bb s m i l = R0 → sp_Ev X ac 119 4 [.int (nI s), .null, .int (nI l), .int (nI i)] [] g := by
  intro m
  induction m with
  | zero =>
    intro i l h0_ h1_ h2_
    refine sr_iload_n hA si_119_4 rfl ?_
    refine sr_bipush (v := nI 6) hA si_119_5 (by decide) ?_
    refine sr_icmp_geN (tgt := 34) hA si_119_7 (by decide) (by omega) (by omega) (fun c1 => ?_) (fun c1 => absurd c1 (by omega))
    refine sr_iconst (v := nI 0) hA si_119_34 (by decide) ?_
    exact absurd h1_ (by unfold sp_rc; omega)
  | succ m ih =>
    intro i l h0_ h1_ h2_
    have hrc : l < s / 2 ^ i % 2 + sp_rc s m (i + 1) := h1_
    have hbb : (if s / 2 ^ i % 2 = 1 then (if l = 0 then i else sp_bb s m (i + 1) (l - 1)) else sp_bb s m (i + 1) l) = R0 := h2_
    have hm2 := sp_rc_le s m (i + 1)
    rcases Nat.mod_two_eq_zero_or_one (s / 2 ^ i) with hb | hb
    rotate_left
    by_cases hl : l = 0
    · refine sr_iload_n hA si_119_4 rfl ?_
      refine sr_bipush (v := nI 6) hA si_119_5 (by decide) ?_
      refine sr_icmp_geN (tgt := 34) hA si_119_7 (by decide) (by omega) (by omega) (fun c1 => absurd c1 (by omega)) (fun c1 => ?_)
      refine sr_iload_n hA si_119_10 rfl ?_
      refine sr_iload_n hA si_119_11 rfl ?_
      refine sr_ishr hA si_119_12 ?_
      refine sr_iconst (v := nI 1) hA si_119_13 (by decide) ?_
      refine sr_iand hA si_119_14 ?_
      refine sr_iconst (v := nI 1) hA si_119_15 (by decide) ?_
      refine sr_icmp_ne (tgt := 28) hA si_119_16 (by decide) (fun c2 => absurd (show nI s >>> (nI i &&& 31) &&& nI 1 = nI 1 by rw [sp_hasE s hs i (by omega), hb]) c2) (fun c2 => ?_)
      refine sr_iload_n hA si_119_19 rfl ?_
      refine sr_if_neN (tgt := 25) hA si_119_20 (by decide) (by omega) (fun c3 => absurd c3 (by omega)) (fun c3 => ?_)
      refine sr_iload_n hA si_119_23 rfl ?_
      rw [if_pos hb, if_pos hl] at hbb
      exact sr_iretF hA si_119_24 sq_r_119 (by rw [hbb]) rfl
    · refine sr_iload_n hA si_119_4 rfl ?_
      refine sr_bipush (v := nI 6) hA si_119_5 (by decide) ?_
      refine sr_icmp_geN (tgt := 34) hA si_119_7 (by decide) (by omega) (by omega) (fun c1 => absurd c1 (by omega)) (fun c1 => ?_)
      refine sr_iload_n hA si_119_10 rfl ?_
      refine sr_iload_n hA si_119_11 rfl ?_
      refine sr_ishr hA si_119_12 ?_
      refine sr_iconst (v := nI 1) hA si_119_13 (by decide) ?_
      refine sr_iand hA si_119_14 ?_
      refine sr_iconst (v := nI 1) hA si_119_15 (by decide) ?_
      refine sr_icmp_ne (tgt := 28) hA si_119_16 (by decide) (fun c2 => absurd (show nI s >>> (nI i &&& 31) &&& nI 1 = nI 1 by rw [sp_hasE s hs i (by omega), hb]) c2) (fun c2 => ?_)
      refine sr_iload_n hA si_119_19 rfl ?_
      refine sr_if_neN (tgt := 25) hA si_119_20 (by decide) (by omega) (fun c3 => ?_) (fun c3 => absurd c3 (by omega))
      refine sr_iincM (x := l) (ls1 := [.int (nI s), .null, .int (nI (l - 1)), .int (nI i)]) hA si_119_25 (by omega) rfl (by rw [sq_l_119]; decide) rfl ?_
      refine sr_iincN (x := i) (y := 1) (ls1 := [.int (nI s), .null, .int (nI (l - 1)), .int (nI (i + 1))]) hA si_119_28 rfl rfl (by rw [sq_l_119]; decide) rfl ?_
      refine sr_goto (tgt := 4) hA si_119_31 (by decide) ?_
      rw [if_pos hb, if_neg hl] at hbb
      exact ih (i + 1) (l - 1) (by omega) (by omega) hbb
    · refine sr_iload_n hA si_119_4 rfl ?_
      refine sr_bipush (v := nI 6) hA si_119_5 (by decide) ?_
      refine sr_icmp_geN (tgt := 34) hA si_119_7 (by decide) (by omega) (by omega) (fun c1 => absurd c1 (by omega)) (fun c1 => ?_)
      refine sr_iload_n hA si_119_10 rfl ?_
      refine sr_iload_n hA si_119_11 rfl ?_
      refine sr_ishr hA si_119_12 ?_
      refine sr_iconst (v := nI 1) hA si_119_13 (by decide) ?_
      refine sr_iand hA si_119_14 ?_
      refine sr_iconst (v := nI 1) hA si_119_15 (by decide) ?_
      refine sr_icmp_ne (tgt := 28) hA si_119_16 (by decide) (fun c2 => ?_) (fun c2 => absurd c2 (show ¬ nI s >>> (nI i &&& 31) &&& nI 1 = nI 1 by rw [sp_hasE s hs i (by omega), hb]; decide))
      refine sr_iincN (x := i) (y := 1) (ls1 := [.int (nI s), .null, .int (nI l), .int (nI (i + 1))]) hA si_119_28 rfl rfl (by rw [sq_l_119]; decide) rfl ?_
      refine sr_goto (tgt := 4) hA si_119_31 (by decide) ?_
      rw [if_neg (by omega)] at hbb
      exact ih (i + 1) l (by omega) (by omega) hbb
set_option maxRecDepth 20000 in
theorem xc_bitAt (X : sp_X) (g : sp_G) {s l : Nat} (hs : s < 64) (hl : l < sp_pc s) : sp_Ct X 0 119 [.int (nI s), .int (nI l)] g (sp_Fi (nI (sp_bb s 6 0 l)) g) := by
  refine sp_walkN (n := 4) sq_p_119 sq_l_119 (Nat.le_of_ble_eq_true rfl) (fun ac hA => ?_)
  show sp_Ev X ac 119 0 [.int (nI s), .int (nI l), .null, .null] [] g
  refine sr_iload_n hA si_119_0 rfl ?_
  refine sr_istore_n (ls1 := [.int (nI s), .int (nI l), .int (nI l), .null]) hA si_119_1 rfl (by rw [sq_l_119]; decide) rfl ?_
  refine sr_iconst (v := nI 0) hA si_119_2 (by decide) ?_
  refine sr_istore_n (ls1 := [.int (nI s), .int (nI l), .int (nI l), .int (nI 0)]) hA si_119_3 rfl (by rw [sq_l_119]; decide) rfl ?_
  refine sr_fg (ls1 := [.int (nI s), .null, .int (nI l), .int (nI 0)]) ⟨Or.inr rfl, Or.inl rfl, Or.inr rfl, Or.inr rfl, trivial⟩ ?_
  exact xl_bb hs hA 6 0 l rfl (by rw [sp_rc_pc s hs]; exact hl) rfl
set_option maxRecDepth 20000 in
theorem ml_bb {X : sp_X} {dd : Nat} {ac : sp_Ac} {gg : sp_G} {s R0 q t w : Nat} (hs : s < 64) (hdd : 1 ≤ dd) {Rt : sp_Rt} (kk : sp_Ev X ac 221 139 [.ref 64, .int (nI q), .null, .long (nL w), .null, .int (nI t), .null, .null, .int (nI R0)] [] gg) (hA : sp_Act X 221 dd Rt ac) : ∀ (m : Nat) (i : Nat) (l : Nat), i + m = 6 → l < sp_rc s m i → sp_bb s m i l = R0 → sp_Ev X ac 221 98 [.ref 64, .int (nI q), .null, .long (nL w), .null, .int (nI t), .int (nI s), .int (nI l), .int (nI i)] [] gg := by
  intro m
  induction m with
  | zero =>
    intro i l h0_ h1_ h2_
    exact absurd h1_ (by unfold sp_rc; omega)
  | succ m ih =>
    intro i l h0_ h1_ h2_
    have hrc : l < s / 2 ^ i % 2 + sp_rc s m (i + 1) := h1_
    have hbb : (if s / 2 ^ i % 2 = 1 then (if l = 0 then i else sp_bb s m (i + 1) (l - 1)) else sp_bb s m (i + 1) l) = R0 := h2_
    have hm2 := sp_rc_le s m (i + 1)
    rcases Nat.mod_two_eq_zero_or_one (s / 2 ^ i) with hb | hb
    rotate_left
    by_cases hl : l = 0
    · refine sr_iload hA si_221_98 rfl ?_
      refine sr_iload hA si_221_100 rfl ?_
      refine sr_SFi (as := [.int (nI s), .int (nI i)]) (st := []) hA si_221_102 ss_203 sk_221_232 (mc_has1 X gg (t := s) (k := i) hs (by omega) hb) (by omega) rfl rfl (Nat.le_of_ble_eq_true rfl) ?_
      refine sr_if_eqN (tgt := 113) hA si_221_105 (by decide) (by omega) (fun c1 => absurd c1 (by omega)) (fun c1 => ?_)
      refine sr_iload hA si_221_108 rfl ?_
      refine sr_if_leN (tgt := 139) hA si_221_110 (by decide) (by omega) (fun c2 => ?_) (fun c2 => absurd c2 (by omega))
      rw [if_pos hb, if_pos hl] at hbb
      refine sr_fg (ls1 := [.ref 64, .int (nI q), .null, .long (nL w), .null, .int (nI t), .null, .null, .int (nI i)]) ⟨Or.inr rfl, Or.inr rfl, Or.inl rfl, Or.inr rfl, Or.inl rfl, Or.inr rfl, Or.inl rfl, Or.inl rfl, Or.inr rfl, trivial⟩ ?_
      rw [hbb]
      exact kk
    · refine sr_iload hA si_221_98 rfl ?_
      refine sr_iload hA si_221_100 rfl ?_
      refine sr_SFi (as := [.int (nI s), .int (nI i)]) (st := []) hA si_221_102 ss_203 sk_221_232 (mc_has1 X gg (t := s) (k := i) hs (by omega) hb) (by omega) rfl rfl (Nat.le_of_ble_eq_true rfl) ?_
      refine sr_if_eqN (tgt := 113) hA si_221_105 (by decide) (by omega) (fun c1 => absurd c1 (by omega)) (fun c1 => ?_)
      refine sr_iload hA si_221_108 rfl ?_
      refine sr_if_leN (tgt := 139) hA si_221_110 (by decide) (by omega) (fun c2 => absurd c2 (by omega)) (fun c2 => ?_)
      refine sr_iload hA si_221_113 rfl ?_
      refine sr_iload hA si_221_115 rfl ?_
      refine sr_iload hA si_221_117 rfl ?_
      refine sr_SFi (as := [.int (nI s), .int (nI i)]) (st := [.int (nI l)]) hA si_221_119 ss_203 sk_221_232 (mc_has1 X gg (t := s) (k := i) hs (by omega) hb) (by omega) rfl rfl (Nat.le_of_ble_eq_true rfl) ?_
      refine sr_if_eqN (tgt := 129) hA si_221_122 (by decide) (by omega) (fun c3 => absurd c3 (by omega)) (fun c3 => ?_)
      refine sr_iconst (v := nI 1) hA si_221_125 (by decide) ?_
      refine sr_goto (tgt := 130) hA si_221_126 (by decide) ?_
      refine sr_isubN hA si_221_130 (by omega) ?_
      refine sr_istore (ls1 := [.ref 64, .int (nI q), .null, .long (nL w), .null, .int (nI t), .int (nI s), .int (nI (l - 1)), .int (nI i)]) hA si_221_131 (by rw [sq_l_221]; decide) rfl ?_
      refine sr_iincN (x := i) (y := 1) (ls1 := [.ref 64, .int (nI q), .null, .long (nL w), .null, .int (nI t), .int (nI s), .int (nI (l - 1)), .int (nI (i + 1))]) hA si_221_133 rfl rfl (by rw [sq_l_221]; decide) rfl ?_
      refine sr_goto (tgt := 98) hA si_221_136 (by decide) ?_
      rw [if_pos hb, if_neg hl] at hbb
      exact ih (i + 1) (l - 1) (by omega) (by omega) hbb
    · refine sr_iload hA si_221_98 rfl ?_
      refine sr_iload hA si_221_100 rfl ?_
      refine sr_SFi (as := [.int (nI s), .int (nI i)]) (st := []) hA si_221_102 ss_203 sk_221_232 (mc_has0 X gg (t := s) (k := i) hs (by omega) hb) (by omega) rfl rfl (Nat.le_of_ble_eq_true rfl) ?_
      refine sr_if_eqN (tgt := 113) hA si_221_105 (by decide) (by omega) (fun c1 => ?_) (fun c1 => absurd c1 (by omega))
      refine sr_iload hA si_221_113 rfl ?_
      refine sr_iload hA si_221_115 rfl ?_
      refine sr_iload hA si_221_117 rfl ?_
      refine sr_SFi (as := [.int (nI s), .int (nI i)]) (st := [.int (nI l)]) hA si_221_119 ss_203 sk_221_232 (mc_has0 X gg (t := s) (k := i) hs (by omega) hb) (by omega) rfl rfl (Nat.le_of_ble_eq_true rfl) ?_
      refine sr_if_eqN (tgt := 129) hA si_221_122 (by decide) (by omega) (fun c2 => ?_) (fun c2 => absurd c2 (by omega))
      refine sr_iconst (v := nI 0) hA si_221_129 (by decide) ?_
      refine sr_isubN hA si_221_130 (by omega) ?_
      refine sr_istore (ls1 := [.ref 64, .int (nI q), .null, .long (nL w), .null, .int (nI t), .int (nI s), .int (nI (l - 0)), .int (nI i)]) hA si_221_131 (by rw [sq_l_221]; decide) rfl ?_
      refine sr_iincN (x := i) (y := 1) (ls1 := [.ref 64, .int (nI q), .null, .long (nL w), .null, .int (nI t), .int (nI s), .int (nI (l - 0)), .int (nI (i + 1))]) hA si_221_133 rfl rfl (by rw [sq_l_221]; decide) rfl ?_
      refine sr_goto (tgt := 98) hA si_221_136 (by decide) ?_
      rw [if_neg (by omega)] at hbb
      exact ih (i + 1) (l - 0) (by omega) (by omega) hbb
