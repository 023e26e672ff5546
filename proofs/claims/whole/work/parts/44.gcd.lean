theorem nL_c0 : lg_cmp (nL 0) 0 = 0 := by decide
theorem nL_lt {a b : Nat} (ha : a < 2 ^ 63) (hb : b < 2 ^ 63) : nL a < nL b ↔ a < b := by
  rw [Int64.lt_iff_toInt_lt, nL_toInt ha, nL_toInt hb]; omega
theorem nL_cp {b : Nat} (hb : b < 2 ^ 63) (h : 0 < b) : lg_cmp (nL b) 0 = 1 := by
  unfold lg_cmp
  exact if_pos (show nL 0 < nL b from (nL_lt (by omega) hb).mpr h)
theorem nL_cn {b : Nat} (hb : b < 2 ^ 63) (h : b ≠ 0) : ¬ lg_cmp (nL b) 0 = 0 := by
  rw [nL_cp hb (by omega)]; decide
theorem nL_cg {b : Nat} (hb : b < 2 ^ 63) (h : 0 < b) : 0 < lg_cmp (nL b) 0 := by
  rw [nL_cp hb h]; decide
/-- dividing in turns ends within m turns -/
def sp_eu : Nat → Nat → Nat → Prop
  | 0, _, b => b = 0
  | m + 1, a, b => b = 0 ∨ sp_eu m b (a % b)
theorem sp_eu_of : ∀ (k a b : Nat), b < 2 ^ k → sp_eu (2 * k) a b
  | 0, a, b, h => by
    show b = 0
    simp at h
    exact h
  | k + 1, a, b, h => by
    show sp_eu (2 * k + 1 + 1) a b
    by_cases hb : b = 0
    · exact Or.inl hb
    refine Or.inr ?_
    by_cases hr : a % b = 0
    · exact Or.inl hr
    refine Or.inr (sp_eu_of k _ _ ?_)
    have h1 : a % b < b := Nat.mod_lt _ (by omega)
    have h2 : b % (a % b) < a % b := Nat.mod_lt _ (by omega)
    have h3 := Nat.div_add_mod b (a % b)
    have h4 : 1 ≤ b / (a % b) := Nat.div_pos (by omega) (by omega)
    have h5 : a % b ≤ a % b * (b / (a % b)) := Nat.le_mul_of_pos_right _ h4
    have h6 : 2 ^ (k + 1) = 2 * 2 ^ k := by rw [Nat.pow_succ]; omega
    omega
theorem sp_eu_le : ∀ (m m' a b : Nat), m ≤ m' → sp_eu m a b → sp_eu m' a b
  | 0, 0, _, _, _, h => h
  | 0, m' + 1, _, _, _, h => Or.inl h
  | m + 1, 0, _, _, h1, _ => absurd h1 (by omega)
  | m + 1, m' + 1, a, b, h1, h => h.imp id (sp_eu_le m m' _ _ (by omega))
theorem sp_gcdS {a b : Nat} : Nat.gcd b (a % b) = Nat.gcd a b := by rw [Nat.gcd_comm b, ← Nat.gcd_rec, Nat.gcd_comm]
set_option maxRecDepth 20000 in
theorem xl_gcd {X : sp_X} {dd : Nat} {ac : sp_Ac} {d0 : Nat} {g : sp_G} (hA : sp_Act X 113 dd (sp_Fl (nL d0) g) ac) : ∀ (m : Nat) (a : Nat) (b : Nat) (t : Nat), sp_eu m a b → a < 2 ^ 63 → b < 2 ^ 63 → Nat.gcd a b = d0 → t + m ≤ 199 → sp_Ev X ac 113 9 [.null, .null, .null, .null, .long (nL a), .null, .long (nL b), .null, .int (nI t), .null, .null] [] g := by
  intro m
  induction m with
  | zero =>
    intro a b t h0_ h1_ h2_ h3_ h4_
    have hb : b = 0 := h0_
    subst hb
    refine sr_iload hA si_113_9 rfl ?_
    refine sr_sipush (v := nI 200) hA si_113_11 (by decide) ?_
    refine sr_icmp_geN (tgt := 45) hA si_113_14 (by decide) (by omega) (by omega) (fun c1 => absurd c1 (by omega)) (fun c1 => ?_)
    refine sr_lload hA si_113_17 rfl ?_
    refine sr_lconst (v := 0) hA si_113_19 rfl ?_
    refine sr_lcmp hA si_113_20 ?_
    refine sr_if_eq (tgt := 45) hA si_113_21 (by decide) (fun c2 => ?_) (fun c2 => absurd nL_c0 c2)
    refine sr_lload hA si_113_45 rfl ?_
    exact sr_lretF hA si_113_47 sq_r_113 (by rw [← h3_, Nat.gcd_zero_right]) rfl
  | succ m ih =>
    intro a b t h0_ h1_ h2_ h3_ h4_
    by_cases hb : b = 0
    · subst hb
      refine sr_iload hA si_113_9 rfl ?_
      refine sr_sipush (v := nI 200) hA si_113_11 (by decide) ?_
      refine sr_icmp_geN (tgt := 45) hA si_113_14 (by decide) (by omega) (by omega) (fun c1 => absurd c1 (by omega)) (fun c1 => ?_)
      refine sr_lload hA si_113_17 rfl ?_
      refine sr_lconst (v := 0) hA si_113_19 rfl ?_
      refine sr_lcmp hA si_113_20 ?_
      refine sr_if_eq (tgt := 45) hA si_113_21 (by decide) (fun c2 => ?_) (fun c2 => absurd nL_c0 c2)
      refine sr_lload hA si_113_45 rfl ?_
      exact sr_lretF hA si_113_47 sq_r_113 (by rw [← h3_, Nat.gcd_zero_right]) rfl
    · have hb63 := h2_
      refine sr_iload hA si_113_9 rfl ?_
      refine sr_sipush (v := nI 200) hA si_113_11 (by decide) ?_
      refine sr_icmp_geN (tgt := 45) hA si_113_14 (by decide) (by omega) (by omega) (fun c1 => absurd c1 (by omega)) (fun c1 => ?_)
      refine sr_lload hA si_113_17 rfl ?_
      refine sr_lconst (v := 0) hA si_113_19 rfl ?_
      refine sr_lcmp hA si_113_20 ?_
      refine sr_if_eq (tgt := 45) hA si_113_21 (by decide) (fun c2 => absurd c2 (nL_cn hb63 hb)) (fun c2 => ?_)
      refine sr_lload hA si_113_24 rfl ?_
      refine sr_lload hA si_113_26 rfl ?_
      refine sr_lrem hA si_113_28 (nL_ne hb63 hb) ?_
      refine sr_lstore (ls1 := [.null, .null, .null, .null, .long (nL a), .null, .long (nL b), .null, .int (nI t), .long ((nL a) - (nL a) / (nL b) * (nL b)), .null]) hA si_113_29 (by rw [sq_l_113]; decide) rfl ?_
      refine sr_lload hA si_113_31 rfl ?_
      refine sr_lstore (ls1 := [.null, .null, .null, .null, .long (nL b), .null, .long (nL b), .null, .int (nI t), .long ((nL a) - (nL a) / (nL b) * (nL b)), .null]) hA si_113_33 (by rw [sq_l_113]; decide) rfl ?_
      refine sr_lload hA si_113_35 rfl ?_
      refine sr_lstore (ls1 := [.null, .null, .null, .null, .long (nL b), .null, .long ((nL a) - (nL a) / (nL b) * (nL b)), .null, .int (nI t), .long ((nL a) - (nL a) / (nL b) * (nL b)), .null]) hA si_113_37 (by rw [sq_l_113]; decide) rfl ?_
      refine sr_iincN (x := t) (y := 1) (ls1 := [.null, .null, .null, .null, .long (nL b), .null, .long ((nL a) - (nL a) / (nL b) * (nL b)), .null, .int (nI (t + 1)), .long ((nL a) - (nL a) / (nL b) * (nL b)), .null]) hA si_113_39 rfl rfl (by rw [sq_l_113]; decide) rfl ?_
      refine sr_goto (tgt := 9) hA si_113_42 (by decide) ?_
      refine sr_fg (ls1 := [.null, .null, .null, .null, .long (nL b), .null, .long ((nL a) - (nL a) / (nL b) * (nL b)), .null, .int (nI (t + 1)), .null, .null]) ⟨Or.inl rfl, Or.inl rfl, Or.inl rfl, Or.inl rfl, Or.inr rfl, Or.inl rfl, Or.inr rfl, Or.inl rfl, Or.inr rfl, Or.inl rfl, Or.inl rfl, trivial⟩ ?_
      rw [nL_rem h1_ h2_]
      exact ih b (a % b) (t + 1) (h0_.resolve_left hb) h2_ (Nat.lt_of_le_of_lt (Nat.mod_le _ _) h1_) (by rw [sp_gcdS]; exact h3_) (by omega)
set_option maxRecDepth 20000 in
theorem ml_gcd {X : sp_X} {dd : Nat} {ac : sp_Ac} {d0 : Nat} {g : sp_G} {u l : Nat} (hd : 0 < d0) (hA : sp_Act X 218 dd (sp_Fi (nI 1) (sp_wL (sp_wL g 64 3 (nL u / nL d0)) 64 4 (nL l / nL d0))) ac) : ∀ (m : Nat) (a : Nat) (b : Nat), sp_eu m a b → a < 2 ^ 63 → b < 2 ^ 63 → Nat.gcd a b = d0 → sp_Ev X ac 218 6 [.ref 64, .long (nL u), .null, .long (nL l), .null, .long (nL a), .null, .long (nL b), .null, .null, .null] [] g := by
  intro m
  induction m with
  | zero =>
    intro a b h0_ h1_ h2_ h3_
    have hb : b = 0 := h0_
    subst hb
    have hd0 : ¬ nL a = 0 := nL_ne h1_ (by rw [Nat.gcd_zero_right] at h3_; omega)
    refine sr_lload hA si_218_6 rfl ?_
    refine sr_lconst (v := 0) hA si_218_8 rfl ?_
    refine sr_lcmp hA si_218_9 ?_
    refine sr_if_eq (tgt := 31) hA si_218_10 (by decide) (fun c1 => ?_) (fun c1 => absurd nL_c0 c1)
    refine sr_aload_n hA si_218_31 rfl ?_
    refine sr_lload_n hA si_218_32 rfl ?_
    refine sr_lload hA si_218_33 rfl ?_
    refine sr_ldiv hA si_218_35 hd0 ?_
    refine sr_putL hA si_218_36 sf_218_90 rfl rfl (by decide) (by decide) rfl rfl ?_
    refine sr_aload_n hA si_218_39 rfl ?_
    refine sr_lload_n hA si_218_40 rfl ?_
    refine sr_lload hA si_218_41 rfl ?_
    refine sr_ldiv hA si_218_43 hd0 ?_
    refine sr_putL hA si_218_44 sf_218_13 rfl rfl (by decide) (by decide) rfl rfl ?_
    refine sr_iconst (v := nI 1) hA si_218_47 (by decide) ?_
    exact sr_iretF hA si_218_48 sq_r_218 rfl (by rw [← h3_, Nat.gcd_zero_right])
  | succ m ih =>
    intro a b h0_ h1_ h2_ h3_
    by_cases hb : b = 0
    · subst hb
      have hd0 : ¬ nL a = 0 := nL_ne h1_ (by rw [Nat.gcd_zero_right] at h3_; omega)
      refine sr_lload hA si_218_6 rfl ?_
      refine sr_lconst (v := 0) hA si_218_8 rfl ?_
      refine sr_lcmp hA si_218_9 ?_
      refine sr_if_eq (tgt := 31) hA si_218_10 (by decide) (fun c1 => ?_) (fun c1 => absurd nL_c0 c1)
      refine sr_aload_n hA si_218_31 rfl ?_
      refine sr_lload_n hA si_218_32 rfl ?_
      refine sr_lload hA si_218_33 rfl ?_
      refine sr_ldiv hA si_218_35 hd0 ?_
      refine sr_putL hA si_218_36 sf_218_90 rfl rfl (by decide) (by decide) rfl rfl ?_
      refine sr_aload_n hA si_218_39 rfl ?_
      refine sr_lload_n hA si_218_40 rfl ?_
      refine sr_lload hA si_218_41 rfl ?_
      refine sr_ldiv hA si_218_43 hd0 ?_
      refine sr_putL hA si_218_44 sf_218_13 rfl rfl (by decide) (by decide) rfl rfl ?_
      refine sr_iconst (v := nI 1) hA si_218_47 (by decide) ?_
      exact sr_iretF hA si_218_48 sq_r_218 rfl (by rw [← h3_, Nat.gcd_zero_right])
    · have hb63 := h2_
      refine sr_lload hA si_218_6 rfl ?_
      refine sr_lconst (v := 0) hA si_218_8 rfl ?_
      refine sr_lcmp hA si_218_9 ?_
      refine sr_if_eq (tgt := 31) hA si_218_10 (by decide) (fun c1 => absurd c1 (nL_cn hb63 hb)) (fun c1 => ?_)
      refine sr_lload hA si_218_13 rfl ?_
      refine sr_lload hA si_218_15 rfl ?_
      refine sr_lrem hA si_218_17 (nL_ne hb63 hb) ?_
      refine sr_lstore (ls1 := [.ref 64, .long (nL u), .null, .long (nL l), .null, .long (nL a), .null, .long (nL b), .null, .long ((nL a) - (nL a) / (nL b) * (nL b)), .null]) hA si_218_18 (by rw [sq_l_218]; decide) rfl ?_
      refine sr_lload hA si_218_20 rfl ?_
      refine sr_lstore (ls1 := [.ref 64, .long (nL u), .null, .long (nL l), .null, .long (nL b), .null, .long (nL b), .null, .long ((nL a) - (nL a) / (nL b) * (nL b)), .null]) hA si_218_22 (by rw [sq_l_218]; decide) rfl ?_
      refine sr_lload hA si_218_24 rfl ?_
      refine sr_lstore (ls1 := [.ref 64, .long (nL u), .null, .long (nL l), .null, .long (nL b), .null, .long ((nL a) - (nL a) / (nL b) * (nL b)), .null, .long ((nL a) - (nL a) / (nL b) * (nL b)), .null]) hA si_218_26 (by rw [sq_l_218]; decide) rfl ?_
      refine sr_goto (tgt := 6) hA si_218_28 (by decide) ?_
      refine sr_fg (ls1 := [.ref 64, .long (nL u), .null, .long (nL l), .null, .long (nL b), .null, .long ((nL a) - (nL a) / (nL b) * (nL b)), .null, .null, .null]) ⟨Or.inr rfl, Or.inr rfl, Or.inl rfl, Or.inr rfl, Or.inl rfl, Or.inr rfl, Or.inl rfl, Or.inr rfl, Or.inl rfl, Or.inl rfl, Or.inl rfl, trivial⟩ ?_
      rw [nL_rem h1_ h2_]
      exact ih b (a % b) (h0_.resolve_left hb) h2_ (Nat.lt_of_le_of_lt (Nat.mod_le _ _) h1_) (by rw [sp_gcdS]; exact h3_)
set_option maxRecDepth 20000 in
theorem xc_gcd (X : sp_X) (g : sp_G) {a b : Nat} (ha : a < 2 ^ 63) (hb : b < 2 ^ 63) (he : sp_eu 199 a b) : sp_Ct X 0 113 [.long (nL a), .long (nL b)] g (sp_Fl (nL (Nat.gcd a b)) g) := by
  refine sp_walkN (n := 11) sq_p_113 sq_l_113 (Nat.le_of_ble_eq_true rfl) (fun ac hA => ?_)
  show sp_Ev X ac 113 0 [.long (nL a), .null, .long (nL b), .null, .null, .null, .null, .null, .null, .null, .null] [] g
  refine sr_lload_n hA si_113_0 rfl ?_
  refine sr_lstore (ls1 := [.long (nL a), .null, .long (nL b), .null, .long (nL a), .null, .null, .null, .null, .null, .null]) hA si_113_1 (by rw [sq_l_113]; decide) rfl ?_
  refine sr_lload_n hA si_113_3 rfl ?_
  refine sr_lstore (ls1 := [.long (nL a), .null, .long (nL b), .null, .long (nL a), .null, .long (nL b), .null, .null, .null, .null]) hA si_113_4 (by rw [sq_l_113]; decide) rfl ?_
  refine sr_iconst (v := nI 0) hA si_113_6 (by decide) ?_
  refine sr_istore (ls1 := [.long (nL a), .null, .long (nL b), .null, .long (nL a), .null, .long (nL b), .null, .int (nI 0), .null, .null]) hA si_113_7 (by rw [sq_l_113]; decide) rfl ?_
  refine sr_fg (ls1 := [.null, .null, .null, .null, .long (nL a), .null, .long (nL b), .null, .int (nI 0), .null, .null]) ⟨Or.inl rfl, Or.inl rfl, Or.inl rfl, Or.inl rfl, Or.inr rfl, Or.inl rfl, Or.inr rfl, Or.inl rfl, Or.inr rfl, Or.inl rfl, Or.inl rfl, trivial⟩ ?_
  exact xl_gcd hA 199 a b 0 he ha hb rfl (by omega)
theorem sp_gcd63 {u l : Nat} (hu : u < 2 ^ 63) (hl : l < 2 ^ 63) : Nat.gcd u l < 2 ^ 63 := by
  rcases Nat.eq_zero_or_pos l with e | e
  · subst e; rw [Nat.gcd_zero_right]; exact hu
  · exact Nat.lt_of_le_of_lt (Nat.gcd_le_right u e) hl
set_option maxRecDepth 20000 in
theorem xc_tellCh (X : sp_X) (g : sp_G) {u l : Nat} (hu : u < 2 ^ 63) (hl : l < 2 ^ 63) (he : sp_eu 199 u l) (hd : 0 < Nat.gcd u l) : sp_Ct X 1 112 [.ref 0, .long (nL u), .long (nL l)] g (sp_Fi (nI 1) (sp_wL (sp_wL g 0 13 (nL u / nL (Nat.gcd u l))) 0 14 (nL l / nL (Nat.gcd u l)))) := by
  have hd63 : Nat.gcd u l < 2 ^ 63 := sp_gcd63 hu hl
  refine sp_walkN (n := 7) sq_p_112 sq_l_112 (Nat.le_of_ble_eq_true rfl) (fun a hA => ?_)
  show sp_Ev X a 112 0 [.ref 0, .long (nL u), .null, .long (nL l), .null, .null, .null] [] g
  refine sr_lload_n hA si_112_0 rfl ?_
  refine sr_lload_n hA si_112_1 rfl ?_
  refine sr_SFl (as := [.long (nL u), .long (nL l)]) (st := []) hA si_112_2 ss_113 sk_112_326 (xc_gcd X g hu hl he) (by omega) rfl rfl (Nat.le_of_ble_eq_true rfl) ?_
  refine sr_lstore (ls1 := [.ref 0, .long (nL u), .null, .long (nL l), .null, .long (nL (Nat.gcd u l)), .null]) hA si_112_5 (by rw [sq_l_112]; decide) rfl ?_
  refine sr_lload hA si_112_7 rfl ?_
  refine sr_lconst (v := 0) hA si_112_9 rfl ?_
  refine sr_lcmp hA si_112_10 ?_
  refine sr_if_gt (tgt := 16) hA si_112_11 (by decide) (fun c1 => ?_) (fun c1 => absurd (nL_cg hd63 hd) c1)
  refine sr_aload_n hA si_112_16 rfl ?_
  refine sr_lload_n hA si_112_17 rfl ?_
  refine sr_lload hA si_112_18 rfl ?_
  refine sr_ldiv hA si_112_20 (nL_ne hd63 (by omega)) ?_
  refine sr_putL hA si_112_21 sf_112_293 rfl rfl (by decide) (by decide) rfl rfl ?_
  refine sr_aload_n hA si_112_24 rfl ?_
  refine sr_lload_n hA si_112_25 rfl ?_
  refine sr_lload hA si_112_26 rfl ?_
  refine sr_ldiv hA si_112_28 (nL_ne hd63 (by omega)) ?_
  refine sr_putL hA si_112_29 sf_112_68 rfl rfl (by decide) (by decide) rfl rfl ?_
  refine sr_iconst (v := nI 1) hA si_112_32 (by decide) ?_
  exact sr_iretF hA si_112_33 sq_r_112 rfl rfl
set_option maxRecDepth 20000 in
theorem mc_part (X : sp_X) (g : sp_G) {u l : Nat} (hu : u < 2 ^ 63) (hl : l < 2 ^ 63) (he : sp_eu 199 u l) (hd : 0 < Nat.gcd u l) : sp_Ct X 0 218 [.ref 64, .long (nL u), .long (nL l)] g (sp_Fi (nI 1) (sp_wL (sp_wL g 64 3 (nL u / nL (Nat.gcd u l))) 64 4 (nL l / nL (Nat.gcd u l)))) := by
  refine sp_walkN (n := 11) sq_p_218 sq_l_218 (Nat.le_of_ble_eq_true rfl) (fun a hA => ?_)
  show sp_Ev X a 218 0 [.ref 64, .long (nL u), .null, .long (nL l), .null, .null, .null, .null, .null, .null, .null] [] g
  refine sr_lload_n hA si_218_0 rfl ?_
  refine sr_lstore (ls1 := [.ref 64, .long (nL u), .null, .long (nL l), .null, .long (nL u), .null, .null, .null, .null, .null]) hA si_218_1 (by rw [sq_l_218]; decide) rfl ?_
  refine sr_lload_n hA si_218_3 rfl ?_
  refine sr_lstore (ls1 := [.ref 64, .long (nL u), .null, .long (nL l), .null, .long (nL u), .null, .long (nL l), .null, .null, .null]) hA si_218_4 (by rw [sq_l_218]; decide) rfl ?_
  exact ml_gcd hd hA 199 u l he hu hl rfl
