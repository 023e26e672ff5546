/-! the same contracts over laid figures -/
theorem xc_soundV (X : sp_X) (g : sp_G) {s o i n k b : Nat} {v : Nat → Int32} (hs : sp_sd s o) (hn : g.1 18 3 = nI n) (hb : n ≤ 6) (hi : i < n) (hk : g.1 19 i = nI k) (hk5 : k ≤ 5) (hbe : v 6 = nI b) (hB : b < 2 ^ 31) : sp_Ct X 2 55 [.ref 18, .int (nI i), .ref s] (sp_sS g s o v) (sp_Fv (sp_sS g s o (sp_pl n (g.1 19) (g.1 21) v i))) := by
  obtain ⟨s1, s2, s3, s4, s5, s6, s7, s8, s9, s10, s11⟩ := id hs
  have e18 : (sp_sS g s o v).1 18 = g.1 18 := sp_sS_o (by omega) (by omega)
  have e19 : (sp_sS g s o v).1 19 = g.1 19 := sp_sS_o (by omega) (by omega)
  have e21 : (sp_sS g s o v).1 21 = g.1 21 := sp_sS_o (by omega) (by omega)
  have h := xc_sound X (sp_sS g s o v) (i := i) (n := n) (k := k) (b := b) hs (by rw [e18]; exact hn) hb hi (by rw [e19]; exact hk) hk5 (by rw [sp_rdS6 s7]; exact hbe) hB
  rw [sp_sS_2, e19, e21, sp_sS_c (sp_pl_c (w := v) (K' := g.1 19) (P' := g.1 21) (fun j hj => sp_sv_s s7 hj) n (by omega) rfl rfl)] at h
  exact h
theorem xc_bearsV1 (X : sp_X) (g : sp_G) {s o i k : Nat} {v : Nat → Int32} (hs : sp_sd s o) (hi : i < 6) (hk : g.1 19 i = nI k) (hkb : k ≤ 5) (h : sp_cb (g.1 19 i) (g.1 20 i) (v i) = true) : sp_Ct X 0 45 [.ref 18, .int (nI i), .ref s] (sp_sS g s o v) (sp_Fi (nI 1) (sp_sS g s o v)) := by
  obtain ⟨s1, s2, s3, s4, s5, s6, s7, s8, s9, s10, s11⟩ := id hs
  have e19 : (sp_sS g s o v).1 19 = g.1 19 := sp_sS_o (by omega) (by omega)
  have e20 : (sp_sS g s o v).1 20 = g.1 20 := sp_sS_o (by omega) (by omega)
  exact xc_bears1 X (sp_sS g s o v) hs hi (by rw [e19]; exact hk) hkb (by rw [e19, e20, sp_rdSf hi]; exact h)
theorem xc_bearsV0 (X : sp_X) (g : sp_G) {s o i k : Nat} {v : Nat → Int32} (hs : sp_sd s o) (hi : i < 6) (hk : g.1 19 i = nI k) (hkb : k ≤ 5) (h : ¬ sp_cb (g.1 19 i) (g.1 20 i) (v i) = true) : sp_Ct X 0 45 [.ref 18, .int (nI i), .ref s] (sp_sS g s o v) (sp_Fi (nI 0) (sp_sS g s o v)) := by
  obtain ⟨s1, s2, s3, s4, s5, s6, s7, s8, s9, s10, s11⟩ := id hs
  have e19 : (sp_sS g s o v).1 19 = g.1 19 := sp_sS_o (by omega) (by omega)
  have e20 : (sp_sS g s o v).1 20 = g.1 20 := sp_sS_o (by omega) (by omega)
  exact xc_bears0 X (sp_sS g s o v) hs hi (by rw [e19]; exact hk) hkb (by rw [e19, e20, sp_rdSf hi]; exact h)
theorem mc_playsV (X : sp_X) (g : sp_G) {f i n k : Nat} {v : Nat → Int32} (hn : g.1 64 11 = nI n) (hb : n ≤ 6) (hi : i < n) (hf : f < 14) (hk : g.1 71 i = nI k) (hk5 : k ≤ 5) : sp_Ct X 2 175 [.ref 64, .int (nI f), .int (nI i)] (sp_sP g f v) (sp_Fv (sp_sP g f (sp_pl n (g.1 71) (g.1 73) v i))) := by
  have h := mc_plays X (sp_sP g f v) (f := f) (i := i) (n := n) (k := k) hn hb hi hf hk hk5
  rw [sp_sP_2, sp_sP_o (by decide), sp_sP_o (by decide), sp_sP_c (sp_pl_c (w := v) (K' := g.1 71) (P' := g.1 73) (fun j hj => sp_pv_s hj) n (by omega) rfl rfl)] at h
  exact h
theorem mc_canV1 (X : sp_X) (g : sp_G) {f i k : Nat} {v : Nat → Int32} (hf : f < 14) (hi : i < 6) (hk : g.1 71 i = nI k) (hkb : k ≤ 5) (h : sp_cb (g.1 71 i) (g.1 72 i) (v i) = true) : sp_Ct X 1 165 [.ref 64, .int (nI f), .int (nI i)] (sp_sP g f v) (sp_Fi (nI 1) (sp_sP g f v)) :=
  mc_canPlay1 X (sp_sP g f v) hf hi hk hkb (by rw [sp_rdPf (by omega), sp_sP_o (by decide), sp_sP_o (by decide)]; exact h)
theorem mc_canV0 (X : sp_X) (g : sp_G) {f i k : Nat} {v : Nat → Int32} (hf : f < 14) (hi : i < 6) (hk : g.1 71 i = nI k) (hkb : k ≤ 5) (h : ¬ sp_cb (g.1 71 i) (g.1 72 i) (v i) = true) : sp_Ct X 1 165 [.ref 64, .int (nI f), .int (nI i)] (sp_sP g f v) (sp_Fi (nI 0) (sp_sP g f v)) :=
  mc_canPlay0 X (sp_sP g f v) hf hi hk hkb (by rw [sp_rdPf (by omega), sp_sP_o (by decide), sp_sP_o (by decide)]; exact h)
/-- f's first z places are keys of n -/
def sp_ks (f : Nat → Int32) (n z : Nat) : Prop := ∀ i, i < z → ∃ a, a < n ∧ f i = nI a
/-- a piece is played as far as it goes -/
def sp_pp (n : Nat) (K T P f : Nat → Int32) : Nat → (Nat → Int32) → Nat → Nat × (Nat → Int32)
  | 0, v, i => (i, v)
  | m + 1, v, i => if sp_cb (K (f i).toNatClampNeg) (T (f i).toNatClampNeg) (v (f i).toNatClampNeg) = true then sp_pp n K T P f m (sp_pl n K P v (f i).toNatClampNeg) (i + 1) else (i, v)
theorem sp_pp_c {n : Nat} {K T P f K' T' P' f' : Nat → Int32} (hn : n ≤ 6) (hK : ∀ a, a < n → K a = K' a ∧ T a = T' a ∧ P a = P' a) : ∀ (m i : Nat) (v w : Nat → Int32), sp_ks f n (i + m) → (∀ j, j < i + m → f j = f' j) → (∀ j, j < 9 → v j = w j) → (sp_pp n K T P f m v i).1 = (sp_pp n K' T' P' f' m w i).1 ∧ ∀ j, j < 9 → (sp_pp n K T P f m v i).2 j = (sp_pp n K' T' P' f' m w i).2 j
  | 0, i, v, w, _, _, hv => ⟨rfl, hv⟩
  | m + 1, i, v, w, hf, hff, hv => by
    obtain ⟨a, ha, ea⟩ := hf i (by omega)
    unfold sp_pp
    rw [← hff i (by omega), ea, nI_clamp (by omega), (hK a ha).1, (hK a ha).2.1, hv a (by omega)]
    split
    · exact sp_pp_c hn hK m (i + 1) _ _ (by rw [show i + 1 + m = i + (m + 1) by omega]; exact hf) (fun j hj => hff j (by omega)) (sp_pl_c hv n (by omega) (hK a ha).1 (hK a ha).2.2)
    · exact ⟨rfl, hv⟩
theorem sp_pp_le {n : Nat} {K T P f : Nat → Int32} : ∀ (m i : Nat) (v : Nat → Int32), (sp_pp n K T P f m v i).1 ≤ i + m
  | 0, i, v => Nat.le_refl _
  | m + 1, i, v => by
    unfold sp_pp
    split
    · have := sp_pp_le (n := n) (K := K) (T := T) (P := P) (f := f) m (i + 1) (sp_pl n K P v (f i).toNatClampNeg)
      omega
    · omega
set_option maxRecDepth 20000 in
theorem xl_piece {X : sp_X} {a : sp_Ac} {g : sp_G} {s o n : Nat} {r z : Nat} (hr : r < 6) (hz : g.1 9 r = nI z) (hzb : z ≤ 12) (hs : sp_sd s o) (hn : g.1 18 3 = nI n) (hb : n ≤ 6) (hK : sp_kk g 19 n) (hks : sp_ks (fun i => g.1 (3 + r) i) n z) {R0 : Nat × (Nat → Int32)} (hA : sp_Act X 74 4 (sp_Fi (nI R0.1) (sp_sS g s o R0.2)) a) : ∀ (m : Nat) (i : Nat) (v : Nat → Int32) (A : Nat) (Bq : Nat), i + m = z → sp_oB n A Bq v → sp_pp n (g.1 19) (g.1 20) (g.1 21) (fun i => g.1 (3 + r) i) m v i = R0 → A < 2 ^ 20 + 2 * i → Bq < 2 ^ 20 + 2 * i → sp_Ev X a 74 10 [.ref 18, .ref 1, .int (nI r), .ref s, .int (nI z), .int (nI i), .null] [] (sp_sS g s o v) := by
  intro m
  induction m with
  | zero =>
    intro i v A Bq h0_ h1_ h2_ h3_ h4_
    obtain ⟨s1, s2, s3, s4, s5, s6, s7, s8, s9, s10, s11⟩ := id hs
    refine sr_iload hA si_74_10 rfl ?_
    refine sr_iload hA si_74_12 rfl ?_
    refine sr_icmp_geN (tgt := 52) hA si_74_14 (by decide) (by omega) (by omega) (fun c1 => ?_) (fun c1 => absurd c1 (by omega))
    refine sr_iload hA si_74_52 rfl ?_
    have e9 : sp_pp n (g.1 19) (g.1 20) (g.1 21) (fun i => g.1 (3 + r) i) 0 v i = (i, v) := rfl
    rw [e9] at h2_
    exact sr_iretF hA si_74_54 sq_r_74 (by rw [← h2_]; rw [show z = i by omega]) (by rw [← h2_])
  | succ m ih =>
    intro i v A Bq h0_ h1_ h2_ h3_ h4_
    obtain ⟨a, ha, ea⟩ := hks i (by omega)
    obtain ⟨k, hkb, hk⟩ := hK a ha
    obtain ⟨b, hbB, hbe⟩ := h1_.2.1
    obtain ⟨s1, s2, s3, s4, s5, s6, s7, s8, s9, s10, s11⟩ := id hs
    refine sr_iload hA si_74_10 rfl ?_
    refine sr_iload hA si_74_12 rfl ?_
    refine sr_icmp_geN (tgt := 52) hA si_74_14 (by decide) (by omega) (by omega) (fun c1 => absurd c1 (by omega)) (fun c1 => ?_)
    refine sr_aload_n hA si_74_17 rfl ?_
    refine sr_iload_n hA si_74_18 rfl ?_
    refine sr_iload hA si_74_19 rfl ?_
    refine sr_VFi (c := 1) (ci := 5) (as := [.int (nI r), .int (nI i)]) (st := []) hA si_74_21 sv_18 sk_74_73 (xc_getR X (sp_sS g s o v) (v := nI a) (by omega) (by omega) (by rw [sp_sS_o (by omega) (by omega)]; exact ea)) (by omega) rfl (by decide) (by decide) rfl sq_c_18 rfl (Nat.le_of_ble_eq_true rfl) ?_
    refine sr_istore (ls1 := [.ref 18, .ref 1, .int (nI r), .ref s, .int (nI z), .int (nI i), .int (nI a)]) hA si_74_24 (by rw [sq_l_74]; decide) rfl ?_
    refine sr_aload_n hA si_74_26 rfl ?_
    refine sr_iload hA si_74_27 rfl ?_
    refine sr_aload_n hA si_74_29 rfl ?_
    by_cases hcb : sp_cb (g.1 19 a) (g.1 20 a) (v a) = true
    · refine sr_VFi (c := 18) (ci := 0) (as := [.int (nI a), .ref s]) (st := []) hA si_74_30 sv_45 sk_74_53 (xc_bearsV1 X g (s := s) (o := o) (i := a) (v := v) hs (by omega) hk hkb hcb) (by omega) rfl (by decide) (by decide) rfl sq_c_45 rfl (Nat.le_of_ble_eq_true rfl) ?_
      refine sr_if_neN (tgt := 39) hA si_74_33 (by decide) (by omega) (fun c2 => ?_) (fun c2 => absurd c2 (by omega))
      refine sr_aload_n hA si_74_39 rfl ?_
      refine sr_iload hA si_74_40 rfl ?_
      refine sr_aload_n hA si_74_42 rfl ?_
      refine sr_VFv (c := 18) (ci := 0) (as := [.int (nI a), .ref s]) (st := []) hA si_74_43 sv_55 sk_74_76 (xc_soundV X g (s := s) (o := o) (i := a) (v := v) hs hn hb (by omega) hk hkb hbe (by omega)) (by omega) rfl (by decide) (by decide) rfl sq_c_55 rfl (Nat.le_of_ble_eq_true rfl) ?_
      refine sr_iincN (x := i) (y := 1) (ls1 := [.ref 18, .ref 1, .int (nI r), .ref s, .int (nI z), .int (nI (i + 1)), .int (nI a)]) hA si_74_46 rfl rfl (by rw [sq_l_74]; decide) rfl ?_
      refine sr_goto (tgt := 10) hA si_74_49 (by decide) ?_
      refine sr_fg (ls1 := [.ref 18, .ref 1, .int (nI r), .ref s, .int (nI z), .int (nI (i + 1)), .null]) ⟨Or.inr rfl, Or.inr rfl, Or.inr rfl, Or.inr rfl, Or.inr rfl, Or.inr rfl, Or.inl rfl, trivial⟩ ?_
      have e9 : sp_pp n (g.1 19) (g.1 20) (g.1 21) (fun i => g.1 (3 + r) i) (m + 1) v i = sp_pp n (g.1 19) (g.1 20) (g.1 21) (fun i => g.1 (3 + r) i) m (sp_pl n (g.1 19) (g.1 21) v a) (i + 1) := by
        show (if _ then _ else _) = _
        have ea2 : (g.1 (3 + r) i) = nI a := ea
        simp only [ea2]
        rw [nI_clamp (by omega), if_pos hcb]
      rw [e9] at h2_
      exact ih (i + 1) (sp_pl n (g.1 19) (g.1 21) v a) (A + 2) (Bq + 2) (by omega) (sp_oB.pl h1_ hb ha (by omega) (by omega)) h2_ (by omega) (by omega)
    · refine sr_VFi (c := 18) (ci := 0) (as := [.int (nI a), .ref s]) (st := []) hA si_74_30 sv_45 sk_74_53 (xc_bearsV0 X g (s := s) (o := o) (i := a) (v := v) hs (by omega) hk hkb hcb) (by omega) rfl (by decide) (by decide) rfl sq_c_45 rfl (Nat.le_of_ble_eq_true rfl) ?_
      refine sr_if_neN (tgt := 39) hA si_74_33 (by decide) (by omega) (fun c3 => absurd c3 (by omega)) (fun c3 => ?_)
      refine sr_iload hA si_74_36 rfl ?_
      have e9 : sp_pp n (g.1 19) (g.1 20) (g.1 21) (fun i => g.1 (3 + r) i) (m + 1) v i = (i, v) := by
        show (if _ then _ else _) = _
        have ea2 : (g.1 (3 + r) i) = nI a := ea
        simp only [ea2]
        rw [nI_clamp (by omega), if_neg hcb]
      rw [e9] at h2_
      exact sr_iretF hA si_74_38 sq_r_74 (by rw [← h2_]) (by rw [← h2_])
set_option maxRecDepth 20000 in
theorem xc_piece (X : sp_X) (g : sp_G) {s o n : Nat} {v : Nat → Int32} {A Bq : Nat} {r z : Nat} (hr : r < 6) (hz : g.1 9 r = nI z) (hzb : z ≤ 12) (hs : sp_sd s o) (hn : g.1 18 3 = nI n) (hb : n ≤ 6) (hK : sp_kk g 19 n) (hks : sp_ks (fun i => g.1 (3 + r) i) n z) (hv : sp_oB n A Bq v) (hAb : A < 2 ^ 20) (hBb : Bq < 2 ^ 20) : sp_Ct X 4 74 [.ref 18, .ref 1, .int (nI r), .ref s] (sp_sS g s o v) (sp_Fi (nI (sp_pp n (g.1 19) (g.1 20) (g.1 21) (fun i => g.1 (3 + r) i) z v 0).1) (sp_sS g s o (sp_pp n (g.1 19) (g.1 20) (g.1 21) (fun i => g.1 (3 + r) i) z v 0).2)) := by
  obtain ⟨s1, s2, s3, s4, s5, s6, s7, s8, s9, s10, s11⟩ := id hs
  refine sp_walkN (n := 7) sq_p_74 sq_l_74 (Nat.le_of_ble_eq_true rfl) (fun a hA => ?_)
  show sp_Ev X a 74 0 [.ref 18, .ref 1, .int (nI r), .ref s, .null, .null, .null] [] (sp_sS g s o v)
  refine sr_aload_n hA si_74_0 rfl ?_
  refine sr_iload_n hA si_74_1 rfl ?_
  refine sr_VFi (c := 1) (ci := 5) (as := [.int (nI r)]) (st := []) hA si_74_2 sv_26 sk_74_67 (xc_sizeR X (sp_sS g s o v) (z := nI z) (by omega) (by rw [sp_sS_o (by omega) (by omega)]; exact hz)) (by omega) rfl (by decide) (by decide) rfl sq_c_26 rfl (Nat.le_of_ble_eq_true rfl) ?_
  refine sr_istore (ls1 := [.ref 18, .ref 1, .int (nI r), .ref s, .int (nI z), .null, .null]) hA si_74_5 (by rw [sq_l_74]; decide) rfl ?_
  refine sr_iconst (v := nI 0) hA si_74_7 (by decide) ?_
  refine sr_istore (ls1 := [.ref 18, .ref 1, .int (nI r), .ref s, .int (nI z), .int (nI 0), .null]) hA si_74_8 (by rw [sq_l_74]; decide) rfl ?_
  exact xl_piece hr hz hzb hs hn hb hK hks hA z 0 v A Bq (by omega) hv rfl (by omega) (by omega)
set_option maxRecDepth 20000 in
theorem ml_piece {X : sp_X} {a : sp_Ac} {g : sp_G} {f n : Nat} {r z : Nat} (hr : r < 6) (hz : g.1 66 r = nI z) (hzb : z ≤ 12) (hf : f < 14) (hn : g.1 64 11 = nI n) (hb : n ≤ 6) (hK : sp_kk g 71 n) (hks : sp_ks (fun i => g.1 67 (40 * r + i)) n z) {R0 : Nat × (Nat → Int32)} (hA : sp_Act X 193 4 (sp_Fi (nI R0.1) (sp_sP g f R0.2)) a) : ∀ (m : Nat) (i : Nat) (v : Nat → Int32) (A : Nat) (Bq : Nat), i + m = z → sp_oB n A Bq v → sp_pp n (g.1 71) (g.1 72) (g.1 73) (fun i => g.1 67 (40 * r + i)) m v i = R0 → A < 2 ^ 20 + 2 * i → Bq < 2 ^ 20 + 2 * i → sp_Ev X a 193 2 [.ref 64, .int (nI f), .int (nI r), .int (nI i)] [] (sp_sP g f v) := by
  intro m
  induction m with
  | zero =>
    intro i v A Bq h0_ h1_ h2_ h3_ h4_
    refine sr_iload_n hA si_193_2 rfl ?_
    refine sr_aload_n hA si_193_3 rfl ?_
    refine sr_getR (r := 66) hA si_193_4 sf_193_17 (by decide) (by decide) rfl rfl rfl ?_
    refine sr_iload_n hA si_193_7 rfl ?_
    refine sr_ialdNv (v := nI z) (n := 6) hA si_193_8 (by decide) rfl rfl (by omega) (by decide) hz ?_
    refine sr_icmp_geN (tgt := 43) hA si_193_9 (by decide) (by omega) (by omega) (fun c1 => ?_) (fun c1 => absurd c1 (by omega))
    refine sr_iload_n hA si_193_43 rfl ?_
    have e9 : sp_pp n (g.1 71) (g.1 72) (g.1 73) (fun i => g.1 67 (40 * r + i)) 0 v i = (i, v) := rfl
    rw [e9] at h2_
    exact sr_iretF hA si_193_44 sq_r_193 (by rw [← h2_]) (by rw [← h2_])
  | succ m ih =>
    intro i v A Bq h0_ h1_ h2_ h3_ h4_
    obtain ⟨a, ha, ea⟩ := hks i (by omega)
    obtain ⟨k, hkb, hk⟩ := hK a ha
    refine sr_iload_n hA si_193_2 rfl ?_
    refine sr_aload_n hA si_193_3 rfl ?_
    refine sr_getR (r := 66) hA si_193_4 sf_193_17 (by decide) (by decide) rfl rfl rfl ?_
    refine sr_iload_n hA si_193_7 rfl ?_
    refine sr_ialdNv (v := nI z) (n := 6) hA si_193_8 (by decide) rfl rfl (by omega) (by decide) hz ?_
    refine sr_icmp_geN (tgt := 43) hA si_193_9 (by decide) (by omega) (by omega) (fun c1 => absurd c1 (by omega)) (fun c1 => ?_)
    refine sr_aload_n hA si_193_12 rfl ?_
    refine sr_iload_n hA si_193_13 rfl ?_
    refine sr_aload_n hA si_193_14 rfl ?_
    refine sr_iload_n hA si_193_15 rfl ?_
    refine sr_iload_n hA si_193_16 rfl ?_
    refine sr_VFi (c := 64) (ci := 8) (as := [.int (nI r), .int (nI i)]) (st := [.int (nI f), .ref 64]) hA si_193_17 sv_143 sk_193_101 (by have h := mc_rowAt X (sp_sP g f v) (r := r) (i := i) (by omega); rw [show (sp_sP g f v).1 67 (40 * r + i) = nI a from ea] at h; exact h) (by omega) rfl (by decide) (by decide) rfl sq_c_143 rfl (Nat.le_of_ble_eq_true rfl) ?_
    by_cases hcb : sp_cb (g.1 71 a) (g.1 72 a) (v a) = true
    · refine sr_VFi (c := 64) (ci := 8) (as := [.int (nI f), .int (nI a)]) (st := []) hA si_193_20 sv_165 sk_193_155 (mc_canV1 X g (f := f) (i := a) (v := v) (by omega) (by omega) hk hkb hcb) (by omega) rfl (by decide) (by decide) rfl sq_c_165 rfl (Nat.le_of_ble_eq_true rfl) ?_
      refine sr_if_eqN (tgt := 43) hA si_193_23 (by decide) (by omega) (fun c2 => absurd c2 (by omega)) (fun c2 => ?_)
      refine sr_aload_n hA si_193_26 rfl ?_
      refine sr_iload_n hA si_193_27 rfl ?_
      refine sr_aload_n hA si_193_28 rfl ?_
      refine sr_iload_n hA si_193_29 rfl ?_
      refine sr_iload_n hA si_193_30 rfl ?_
      refine sr_VFi (c := 64) (ci := 8) (as := [.int (nI r), .int (nI i)]) (st := [.int (nI f), .ref 64]) hA si_193_31 sv_143 sk_193_101 (by have h := mc_rowAt X (sp_sP g f v) (r := r) (i := i) (by omega); rw [show (sp_sP g f v).1 67 (40 * r + i) = nI a from ea] at h; exact h) (by omega) rfl (by decide) (by decide) rfl sq_c_143 rfl (Nat.le_of_ble_eq_true rfl) ?_
      refine sr_VFv (c := 64) (ci := 8) (as := [.int (nI f), .int (nI a)]) (st := []) hA si_193_34 sv_175 sk_193_192 (mc_playsV X g (f := f) (i := a) (v := v) hn hb (by omega) (by omega) hk hkb) (by omega) rfl (by decide) (by decide) rfl sq_c_175 rfl (Nat.le_of_ble_eq_true rfl) ?_
      refine sr_iincN (x := i) (y := 1) (ls1 := [.ref 64, .int (nI f), .int (nI r), .int (nI (i + 1))]) hA si_193_37 rfl rfl (by rw [sq_l_193]; decide) rfl ?_
      refine sr_goto (tgt := 2) hA si_193_40 (by decide) ?_
      have e9 : sp_pp n (g.1 71) (g.1 72) (g.1 73) (fun i => g.1 67 (40 * r + i)) (m + 1) v i = sp_pp n (g.1 71) (g.1 72) (g.1 73) (fun i => g.1 67 (40 * r + i)) m (sp_pl n (g.1 71) (g.1 73) v a) (i + 1) := by
        show (if _ then _ else _) = _
        have ea2 : (g.1 67 (40 * r + i)) = nI a := ea
        simp only [ea2]
        rw [nI_clamp (by omega), if_pos hcb]
      rw [e9] at h2_
      exact ih (i + 1) (sp_pl n (g.1 71) (g.1 73) v a) (A + 2) (Bq + 2) (by omega) (sp_oB.pl h1_ hb ha (by omega) (by omega)) h2_ (by omega) (by omega)
    · refine sr_VFi (c := 64) (ci := 8) (as := [.int (nI f), .int (nI a)]) (st := []) hA si_193_20 sv_165 sk_193_155 (mc_canV0 X g (f := f) (i := a) (v := v) (by omega) (by omega) hk hkb hcb) (by omega) rfl (by decide) (by decide) rfl sq_c_165 rfl (Nat.le_of_ble_eq_true rfl) ?_
      refine sr_if_eqN (tgt := 43) hA si_193_23 (by decide) (by omega) (fun c3 => ?_) (fun c3 => absurd c3 (by omega))
      refine sr_iload_n hA si_193_43 rfl ?_
      have e9 : sp_pp n (g.1 71) (g.1 72) (g.1 73) (fun i => g.1 67 (40 * r + i)) (m + 1) v i = (i, v) := by
        show (if _ then _ else _) = _
        have ea2 : (g.1 67 (40 * r + i)) = nI a := ea
        simp only [ea2]
        rw [nI_clamp (by omega), if_neg hcb]
      rw [e9] at h2_
      exact sr_iretF hA si_193_44 sq_r_193 (by rw [← h2_]) (by rw [← h2_])
set_option maxRecDepth 20000 in
theorem mc_piece (X : sp_X) (g : sp_G) {f n : Nat} {v : Nat → Int32} {A Bq : Nat} {r z : Nat} (hr : r < 6) (hz : g.1 66 r = nI z) (hzb : z ≤ 12) (hf : f < 14) (hn : g.1 64 11 = nI n) (hb : n ≤ 6) (hK : sp_kk g 71 n) (hks : sp_ks (fun i => g.1 67 (40 * r + i)) n z) (hv : sp_oB n A Bq v) (hAb : A < 2 ^ 20) (hBb : Bq < 2 ^ 20) : sp_Ct X 4 193 [.ref 64, .int (nI f), .int (nI r)] (sp_sP g f v) (sp_Fi (nI (sp_pp n (g.1 71) (g.1 72) (g.1 73) (fun i => g.1 67 (40 * r + i)) z v 0).1) (sp_sP g f (sp_pp n (g.1 71) (g.1 72) (g.1 73) (fun i => g.1 67 (40 * r + i)) z v 0).2)) := by
  refine sp_walkN (n := 4) sq_p_193 sq_l_193 (Nat.le_of_ble_eq_true rfl) (fun a hA => ?_)
  show sp_Ev X a 193 0 [.ref 64, .int (nI f), .int (nI r), .null] [] (sp_sP g f v)
  refine sr_iconst (v := nI 0) hA si_193_0 (by decide) ?_
  refine sr_istore_n (ls1 := [.ref 64, .int (nI f), .int (nI r), .int (nI 0)]) hA si_193_1 rfl (by rw [sq_l_193]; decide) rfl ?_
  exact ml_piece hr hz hzb hf hn hb hK hks hA z 0 v A Bq (by omega) hv rfl (by omega) (by omega)
