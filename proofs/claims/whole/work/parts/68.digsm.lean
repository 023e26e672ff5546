set_option maxRecDepth 20000 in
theorem mb_dgA (X : sp_X) (g : sp_G) {d q e0 c n r z A Bq : Nat} {K T P v f : Nat → Int32} {w : Nat → Nat} (hdq : d = q) (hq4 : q ≤ 4) (hK : sp_KM n K T P g) (hp : sp_PM r z f g) (hzb : z ≤ 12) (hks : sp_ks f n z) (h10 : g.1 64 10 = nI c) (hv : sp_f8 g d v) (hB : sp_oB n A Bq v) (hAb : A < 2 ^ 20) (hBb : Bq < 2 ^ 20) (hw : sp_tw g d w) : sp_Ct X 6 196 [.ref 64, .int (nI r), .int (nI d), .int (nI q)] g (sp_Ri (fun x g' => sp_dm d d g g' ∧ (sp_dgo n K T P f z c 0 d e0 v w = none → x = nI 0) ∧ ∀ w', sp_dgo n K T P f z c 0 d e0 v w = some w' → x = nI 1 ∧ sp_tw g' q w')) := by
  have hn6 := hK.2.1
  have hr := hp.1
  refine sp_walkN (n := 5) sq_p_196 sq_l_196 (Nat.le_of_ble_eq_true rfl) (fun ac hA => ?_)
  show sp_Ev X ac 196 0 [.ref 64, .int (nI r), .int (nI d), .int (nI q), .null] [] g
  refine sr_iload_n hA si_196_0 rfl ?_
  refine sr_iload_n hA si_196_1 rfl ?_
  refine sr_icmp_neN (tgt := 36) hA si_196_2 (by decide) (by omega) (by omega) (fun c1 => absurd c1 (by omega)) (fun c1 => ?_)
  refine sr_aload_n hA si_196_5 rfl ?_
  refine sr_iload_n hA si_196_6 rfl ?_
  refine sr_iload_n hA si_196_7 rfl ?_
  refine sr_iconst (v := nI 1) hA si_196_8 (by decide) ?_
  refine sr_iaddN hA si_196_9 ?_
  refine sr_VRv (c := 64) (ci := 8) (as := [.int (nI d), .int (nI (d + 1))]) (st := []) hA si_196_10 sv_192 sk_196_212 (mb_copyTo X g (f := d) (t := d + 1) (by omega) (by omega) (by omega) hv) (by omega) rfl (by decide) (by decide) rfl sq_c_192 rfl (Nat.le_of_ble_eq_true rfl) (fun g1 q1 => ?_)
  have hl1 : sp_dm d d g g1 := q1.1.dm (by omega)
  refine sr_aload_n hA si_196_13 rfl ?_
  refine sr_iload_n hA si_196_14 rfl ?_
  refine sr_iconst (v := nI 1) hA si_196_15 (by decide) ?_
  refine sr_iaddN hA si_196_16 ?_
  refine sr_iload_n hA si_196_17 rfl ?_
  refine sr_VRi (c := 64) (ci := 8) (as := [.int (nI (d + 1)), .int (nI r)]) (st := []) hA si_196_18 sv_193 sk_196_215 (mb_piece X g1 (q := d + 1) (r := r) (by omega) (hK.ma hl1.ma) (hp.ma hl1.ma) hzb hks q1.2.1 hB hAb hBb) (by omega) rfl (by decide) (by decide) rfl sq_c_193 rfl (Nat.le_of_ble_eq_true rfl) (fun xv g2 q2 => ?_)
  obtain ⟨k2, ek⟩ : ∃ z', z' = (sp_pp n K T P f z v 0).1 := ⟨_, rfl⟩
  have hkz : k2 ≤ z := by rw [ek]; have := sp_pp_le (n := n) (K := K) (T := T) (P := P) (f := f) z 0 v; omega
  rw [← ek] at q2
  obtain ⟨exv, hs2⟩ := q2
  subst exv
  have hl2 := hl1.tr (hs2.dm (by omega))
  refine sr_aload_n hA si_196_21 rfl ?_
  refine sr_getR (r := 66) hA si_196_22 sf_196_17 (by decide) (by decide) rfl rfl rfl ?_
  refine sr_iload_n hA si_196_25 rfl ?_
  refine sr_ialdNv (v := nI z) (n := 6) hA si_196_26 (by decide) rfl rfl (by omega) (by decide) (hp.ma hl2.ma).2.2.1 ?_
  refine sr_icmp_neN (tgt := 34) hA si_196_27 (by decide) (by omega) (by omega) (fun c2 => ?_) (fun c2 => ?_)
  · refine sr_iconst (v := nI 0) hA si_196_34 (by decide) ?_
    have e9 : sp_dgo n K T P f z c 0 d e0 v w = none := if_neg (by rw [← ek]; omega)
    exact sr_zretR hA si_196_35 sq_r_196 (by decide) ⟨hl2, fun h => rfl, fun w1 h => (by rw [e9] at h; cases h)⟩
  · refine sr_iconst (v := nI 1) hA si_196_30 (by decide) ?_
    refine sr_goto (tgt := 35) hA si_196_31 (by decide) ?_
    have e9 : sp_dgo n K T P f z c 0 d e0 v w = some w := if_pos (by rw [← ek]; omega)
    exact sr_zretR hA si_196_35 sq_r_196 (by decide) ⟨hl2, fun h => (by rw [e9] at h; cases h), fun w1 h => (by rw [e9] at h; cases h; exact ⟨rfl, fun j hj => (hl2.2.2.2.1 j (by omega)).trans (hw j (by omega))⟩)⟩
set_option maxRecDepth 20000 in
theorem ml_dg {X : sp_X} {ac : sp_Ac} {g : sp_G} {d q m c n r z A Bq : Nat} {K T P v f : Nat → Int32} {w : Nat → Nat} {R0 : Option (Nat → Nat)} (hd : d + (m + 1) = q) (hq4 : q ≤ 4) (hc9 : c ≤ 9) (hK : sp_KM n K T P g) (hp : sp_PM r z f g) (hzb : z ≤ 12) (hks : sp_ks f n z) (h10 : g.1 64 10 = nI c) (hv : sp_f8 g d v) (hB : sp_oB n A Bq v) (hAb : A < 2 ^ 20) (hBb : Bq < 2 ^ 20) (hw : sp_tw g d w) (IH : ∀ (e0 : Nat) (v : Nat → Int32) (w : Nat → Nat) (g : sp_G), e0 ≤ n → e0 = w d → sp_KM n K T P g → sp_PM r z f g → g.1 64 10 = nI c → sp_f8 g (d + 1) v → sp_oB n (A + c) (Bq + c) v → sp_tw g (d + 1) w → sp_Ct X (m + 6) 196 [.ref 64, .int (nI r), .int (nI (d + 1)), .int (nI q)] g (sp_Ri (fun x g' => sp_dm (d + 1) (d + 1) g g' ∧ (sp_dgo n K T P f z c m (d + 1) e0 v w = none → x = nI 0) ∧ ∀ w', sp_dgo n K T P f z c m (d + 1) e0 v w = some w' → x = nI 1 ∧ sp_tw g' q w'))) (hA : sp_Act X 196 (m + 7) (sp_Ri (fun x g' => sp_dm d d g g' ∧ (R0 = none → x = nI 0) ∧ ∀ w', R0 = some w' → x = nI 1 ∧ sp_tw g' q w')) ac) : ∀ (k : Nat) (i : Nat) (gg : sp_G), i + k = n → sp_dm d d g gg → sp_f1 (fun i => sp_dgo n K T P f z c m (d + 1) i (sp_mv v i 6 (nI c)) (sp_un w d i)) k i = R0 → sp_Ev X ac 196 54 [.ref 64, .int (nI r), .int (nI d), .int (nI q), .int (nI i)] [] gg := by
  intro k
  induction k with
  | zero =>
    intro i gg h0_ h1_ h2_
    have hn6 := hK.2.1
    have hr := hp.1
    refine sr_iload hA si_196_54 rfl ?_
    refine sr_aload_n hA si_196_56 rfl ?_
    refine sr_getIv (v := nI n) hA si_196_57 sf_196_142 (by decide) (by decide) rfl (by decide) (hK.ma h1_.ma).1 ?_
    refine sr_icmp_geN (tgt := 115) hA si_196_60 (by decide) (by omega) (by omega) (fun c1 => ?_) (fun c1 => absurd c1 (by omega))
    refine sr_iconst (v := nI 0) hA si_196_115 (by decide) ?_
    have e9 : R0 = none := h2_.symm
    exact sr_zretR hA si_196_116 sq_r_196 (by decide) ⟨h1_, fun h => rfl, fun w2 h => (by rw [e9] at h; cases h)⟩
  | succ k ih =>
    intro i gg h0_ h1_ h2_
    have hn6 := hK.2.1
    have hr := hp.1
    refine sr_iload hA si_196_54 rfl ?_
    refine sr_aload_n hA si_196_56 rfl ?_
    refine sr_getIv (v := nI n) hA si_196_57 sf_196_142 (by decide) (by decide) rfl (by decide) (hK.ma h1_.ma).1 ?_
    refine sr_icmp_geN (tgt := 115) hA si_196_60 (by decide) (by omega) (by omega) (fun c1 => absurd c1 (by omega)) (fun c1 => ?_)
    refine sr_aload_n hA si_196_63 rfl ?_
    refine sr_iload_n hA si_196_64 rfl ?_
    refine sr_iload_n hA si_196_65 rfl ?_
    refine sr_iconst (v := nI 1) hA si_196_66 (by decide) ?_
    refine sr_iaddN hA si_196_67 ?_
    refine sr_VRv (c := 64) (ci := 8) (as := [.int (nI d), .int (nI (d + 1))]) (st := []) hA si_196_68 sv_192 sk_196_212 (mb_copyTo X gg (f := d) (t := d + 1) (by omega) (by omega) (by omega) (hv.dm h1_ (by omega))) (by omega) rfl (by decide) (by decide) rfl sq_c_192 rfl (Nat.le_of_ble_eq_true rfl) (fun g1 q1 => ?_)
    have hk1 : sp_dm d d gg g1 := q1.1.dm (by omega)
    have hj1 := h1_.tr hk1
    refine sr_aload_n hA si_196_71 rfl ?_
    refine sr_iload_n hA si_196_72 rfl ?_
    refine sr_iconst (v := nI 1) hA si_196_73 (by decide) ?_
    refine sr_iaddN hA si_196_74 ?_
    refine sr_iload hA si_196_75 rfl ?_
    refine sr_bipush (v := nI 6) hA si_196_77 (by decide) ?_
    refine sr_aload_n hA si_196_79 rfl ?_
    refine sr_getIv (v := nI c) hA si_196_80 sf_196_76 (by decide) (by decide) rfl (by decide) ((hj1.2.2.1 10 (by omega)).trans h10) ?_
    refine sr_VRi (c := 64) (ci := 8) (as := [.int (nI (d + 1)), .int (nI i), .int (nI 6), .int (nI c)]) (st := []) hA si_196_83 sv_177 sk_196_167 (mb_scoop X g1 (f := d + 1) (i := i) (by omega) (by omega) (nI c) q1.2.1) (by omega) rfl (by decide) (by decide) rfl sq_c_177 rfl (Nat.le_of_ble_eq_true rfl) (fun xz g2 q2 => ?_)
    have hk2 := hk1.tr (q2.1.dm (F := d) (d := d) (by omega))
    have hl1 := (h1_.tr hk2).wt (i := d) (x := nI i) (Nat.le_refl d)
    refine sr_pop hA si_196_86 rfl ?_
    refine sr_aload_n hA si_196_87 rfl ?_
    refine sr_getR (r := 82) hA si_196_88 sf_196_67 (by decide) (by decide) rfl rfl rfl ?_
    refine sr_iload_n hA si_196_91 rfl ?_
    refine sr_iload hA si_196_92 rfl ?_
    refine sr_iastN (n := 12) hA si_196_94 (by decide) rfl rfl (by omega) (by decide) ?_
    refine sr_aload_n hA si_196_95 rfl ?_
    refine sr_iload_n hA si_196_96 rfl ?_
    refine sr_iload_n hA si_196_97 rfl ?_
    refine sr_iconst (v := nI 1) hA si_196_98 (by decide) ?_
    refine sr_iaddN hA si_196_99 ?_
    refine sr_iload_n hA si_196_100 rfl ?_
    refine sr_VRi (c := 64) (ci := 8) (as := [.int (nI r), .int (nI (d + 1)), .int (nI q)]) (st := []) hA si_196_101 sv_196 sk_196_218 (IH i (sp_mv v i 6 (nI c)) (sp_un w d i) (sp_wI g2 82 d (nI i)) (by omega) (by unfold sp_un; rw [if_pos rfl]) (hK.ma hl1.ma) (hp.ma hl1.ma) ((hl1.2.2.1 10 (by omega)).trans h10) (fun j hj => q2.2 j hj) (sp_oB.mv hB hn6 (Or.inl (by omega)) (Or.inr rfl) (by omega) (by omega) (by omega) (by omega)) ((hw.dm h1_).un2 hk2)) (by omega) rfl (by decide) (by decide) rfl sq_c_196 rfl (Nat.le_of_ble_eq_true rfl) (fun xv g3 q3 => ?_)
    obtain ⟨hl3, hn3, hs3⟩ := q3
    have hl4 := hl1.tr (hl3.lo (by omega) (by omega))
    rcases hR : sp_dgo n K T P f z c m (d + 1) i (sp_mv v i 6 (nI c)) (sp_un w d i) with _ | w1
    · have exv := hn3 hR
      subst exv
      refine sr_if_eqN (tgt := 109) hA si_196_104 (by decide) (by omega) (fun c2 => ?_) (fun c2 => absurd c2 (by omega))
      refine sr_iincN (x := i) (y := 1) (ls1 := [.ref 64, .int (nI r), .int (nI d), .int (nI q), .int (nI (i + 1))]) hA si_196_109 rfl rfl (by rw [sq_l_196]; decide) rfl ?_
      refine sr_goto (tgt := 54) hA si_196_112 (by decide) ?_
      exact ih (i + 1) g3 (by omega) hl4 (by rw [← h2_]; exact (sp_f1n hR).symm)
    · obtain ⟨exv, hwy⟩ := hs3 w1 hR
      subst exv
      refine sr_if_eqN (tgt := 109) hA si_196_104 (by decide) (by omega) (fun c3 => absurd c3 (by omega)) (fun c3 => ?_)
      refine sr_iconst (v := nI 1) hA si_196_107 (by decide) ?_
      have e9 : R0 = some w1 := by rw [← h2_]; exact sp_f1s hR
      exact sr_zretR hA si_196_108 sq_r_196 (by decide) ⟨hl4, fun h => (by rw [e9] at h; cases h), fun w2 h => (by rw [e9] at h; cases h; exact ⟨rfl, hwy⟩)⟩
set_option maxRecDepth 20000 in
theorem mb_dgS0 {X : sp_X} {g : sp_G} {d q m e0 c n r z A Bq : Nat} {K T P v f : Nat → Int32} {w : Nat → Nat} (hd : d + (m + 1) = q) (hq4 : q ≤ 4) (hc9 : c ≤ 9) (he0 : e0 ≤ n) (hd0 : d = 0) (hee : e0 = 0) (hK : sp_KM n K T P g) (hp : sp_PM r z f g) (hzb : z ≤ 12) (hks : sp_ks f n z) (h10 : g.1 64 10 = nI c) (hv : sp_f8 g d v) (hB : sp_oB n A Bq v) (hAb : A < 2 ^ 20) (hBb : Bq < 2 ^ 20) (hw : sp_tw g d w) (IH : ∀ (e0 : Nat) (v : Nat → Int32) (w : Nat → Nat) (g : sp_G), e0 ≤ n → e0 = w d → sp_KM n K T P g → sp_PM r z f g → g.1 64 10 = nI c → sp_f8 g (d + 1) v → sp_oB n (A + c) (Bq + c) v → sp_tw g (d + 1) w → sp_Ct X (m + 6) 196 [.ref 64, .int (nI r), .int (nI (d + 1)), .int (nI q)] g (sp_Ri (fun x g' => sp_dm (d + 1) (d + 1) g g' ∧ (sp_dgo n K T P f z c m (d + 1) e0 v w = none → x = nI 0) ∧ ∀ w', sp_dgo n K T P f z c m (d + 1) e0 v w = some w' → x = nI 1 ∧ sp_tw g' q w'))) : sp_Ct X (m + 7) 196 [.ref 64, .int (nI r), .int (nI d), .int (nI q)] g (sp_Ri (fun x g' => sp_dm d d g g' ∧ (sp_dgo n K T P f z c (m + 1) d e0 v w = none → x = nI 0) ∧ ∀ w', sp_dgo n K T P f z c (m + 1) d e0 v w = some w' → x = nI 1 ∧ sp_tw g' q w')) := by
  have hn6 := hK.2.1
  subst hee
  refine sp_walkN (n := 5) sq_p_196 sq_l_196 (Nat.le_of_ble_eq_true rfl) (fun ac hA => ?_)
  show sp_Ev X ac 196 0 [.ref 64, .int (nI r), .int (nI d), .int (nI q), .null] [] g
  refine sr_iload_n hA si_196_0 rfl ?_
  refine sr_iload_n hA si_196_1 rfl ?_
  refine sr_icmp_neN (tgt := 36) hA si_196_2 (by decide) (by omega) (by omega) (fun c1 => ?_) (fun c1 => absurd c1 (by omega))
  refine sr_iload_n hA si_196_36 rfl ?_
  refine sr_if_neN (tgt := 44) hA si_196_37 (by decide) (by omega) (fun c2 => absurd c2 (by omega)) (fun c2 => ?_)
  refine sr_iconst (v := nI 0) hA si_196_40 (by decide) ?_
  refine sr_goto (tgt := 52) hA si_196_41 (by decide) ?_
  refine sr_istore (ls1 := [.ref 64, .int (nI r), .int (nI d), .int (nI q), .int (nI 0)]) hA si_196_52 (by rw [sq_l_196]; decide) rfl ?_
  exact ml_dg hd hq4 hc9 hK hp hzb hks h10 hv hB hAb hBb hw IH hA (n - 0) 0 g (by omega) sp_dm.rf rfl
set_option maxRecDepth 20000 in
theorem mb_dgS1 {X : sp_X} {g : sp_G} {d q m e0 c n r z A Bq : Nat} {K T P v f : Nat → Int32} {w : Nat → Nat} (hd : d + (m + 1) = q) (hq4 : q ≤ 4) (hc9 : c ≤ 9) (he0 : e0 ≤ n) (hd0 : 0 < d) (hee : e0 = w (d - 1)) (hK : sp_KM n K T P g) (hp : sp_PM r z f g) (hzb : z ≤ 12) (hks : sp_ks f n z) (h10 : g.1 64 10 = nI c) (hv : sp_f8 g d v) (hB : sp_oB n A Bq v) (hAb : A < 2 ^ 20) (hBb : Bq < 2 ^ 20) (hw : sp_tw g d w) (IH : ∀ (e0 : Nat) (v : Nat → Int32) (w : Nat → Nat) (g : sp_G), e0 ≤ n → e0 = w d → sp_KM n K T P g → sp_PM r z f g → g.1 64 10 = nI c → sp_f8 g (d + 1) v → sp_oB n (A + c) (Bq + c) v → sp_tw g (d + 1) w → sp_Ct X (m + 6) 196 [.ref 64, .int (nI r), .int (nI (d + 1)), .int (nI q)] g (sp_Ri (fun x g' => sp_dm (d + 1) (d + 1) g g' ∧ (sp_dgo n K T P f z c m (d + 1) e0 v w = none → x = nI 0) ∧ ∀ w', sp_dgo n K T P f z c m (d + 1) e0 v w = some w' → x = nI 1 ∧ sp_tw g' q w'))) : sp_Ct X (m + 7) 196 [.ref 64, .int (nI r), .int (nI d), .int (nI q)] g (sp_Ri (fun x g' => sp_dm d d g g' ∧ (sp_dgo n K T P f z c (m + 1) d e0 v w = none → x = nI 0) ∧ ∀ w', sp_dgo n K T P f z c (m + 1) d e0 v w = some w' → x = nI 1 ∧ sp_tw g' q w')) := by
  have hn6 := hK.2.1
  refine sp_walkN (n := 5) sq_p_196 sq_l_196 (Nat.le_of_ble_eq_true rfl) (fun ac hA => ?_)
  show sp_Ev X ac 196 0 [.ref 64, .int (nI r), .int (nI d), .int (nI q), .null] [] g
  refine sr_iload_n hA si_196_0 rfl ?_
  refine sr_iload_n hA si_196_1 rfl ?_
  refine sr_icmp_neN (tgt := 36) hA si_196_2 (by decide) (by omega) (by omega) (fun c1 => ?_) (fun c1 => absurd c1 (by omega))
  refine sr_iload_n hA si_196_36 rfl ?_
  refine sr_if_neN (tgt := 44) hA si_196_37 (by decide) (by omega) (fun c2 => ?_) (fun c2 => absurd c2 (by omega))
  refine sr_aload_n hA si_196_44 rfl ?_
  refine sr_getR (r := 82) hA si_196_45 sf_196_67 (by decide) (by decide) rfl rfl rfl ?_
  refine sr_iload_n hA si_196_48 rfl ?_
  refine sr_iconst (v := nI 1) hA si_196_49 (by decide) ?_
  refine sr_isubN hA si_196_50 (by omega) ?_
  refine sr_ialdNv (v := nI e0) (n := 12) hA si_196_51 (by decide) rfl rfl (by omega) (by decide) ((hw (d - 1) (by omega)).trans (by rw [hee])) ?_
  refine sr_istore (ls1 := [.ref 64, .int (nI r), .int (nI d), .int (nI q), .int (nI e0)]) hA si_196_52 (by rw [sq_l_196]; decide) rfl ?_
  exact ml_dg hd hq4 hc9 hK hp hzb hks h10 hv hB hAb hBb hw IH hA (n - e0) e0 g (by omega) sp_dm.rf rfl
theorem mb_dg (X : sp_X) {n q c r z : Nat} {K T P f : Nat → Int32} (hq4 : q ≤ 4) (hc9 : c ≤ 9) (hzb : z ≤ 12) (hks : sp_ks f n z) : ∀ (m d e0 A Bq : Nat) (v : Nat → Int32) (w : Nat → Nat) (g : sp_G), d + m = q → e0 ≤ n → (d = 0 → e0 = 0) → (0 < d → e0 = w (d - 1)) → A + 9 * m < 2 ^ 20 → Bq + 9 * m < 2 ^ 20 → sp_KM n K T P g → sp_PM r z f g → g.1 64 10 = nI c → sp_f8 g d v → sp_oB n A Bq v → sp_tw g d w → sp_Ct X (m + 6) 196 [.ref 64, .int (nI r), .int (nI d), .int (nI q)] g (sp_Ri (fun x g' => sp_dm d d g g' ∧ (sp_dgo n K T P f z c m d e0 v w = none → x = nI 0) ∧ ∀ w', sp_dgo n K T P f z c m d e0 v w = some w' → x = nI 1 ∧ sp_tw g' q w'))
  | 0, d, e0, A, Bq, v, w, g, hd, he, h0, h1, hA, hB, hK, hp, h10, hv, hO, hw => mb_dgA X g (by omega) hq4 hK hp hzb hks h10 hv hO (by omega) (by omega) hw
  | m + 1, d, e0, A, Bq, v, w, g, hd, he, h0, h1, hA, hB, hK, hp, h10, hv, hO, hw => by
    have IH := fun (e1 : Nat) (v' : Nat → Int32) (w' : Nat → Nat) (g' : sp_G) (a0 : e1 ≤ n) (a1 : e1 = w' d) a2 a3 a4 a5 a6 a7 => mb_dg X (K := K) (T := T) (P := P) (r := r) hq4 hc9 hzb hks m (d + 1) e1 (A + c) (Bq + c) v' w' g' (by omega) a0 (fun h => absurd h (by omega)) (fun _ => a1) (by omega) (by omega) a2 a3 a4 a5 a6 a7
    by_cases hd0 : d = 0
    · exact mb_dgS0 hd hq4 hc9 he hd0 (h0 hd0) hK hp hzb hks h10 hv hO (by omega) (by omega) hw IH
    · exact mb_dgS1 hd hq4 hc9 he (by omega) (h1 (by omega)) hK hp hzb hks h10 hv hO (by omega) (by omega) hw IH
def sp_fX (t : Nat) (g g' : sp_G) (R : Option (Nat × (Nat → Nat))) (x : Int32) : Prop := (R = none → x = -9 ∧ sp_xa g g') ∧ ∀ q w, R = some (q, w) → q ≤ 6 ∧ x = nI q ∧ sp_bqX q t g g' (some w)
def sp_fM (ce t : Nat) (g g' : sp_G) (R : Option (Nat × (Nat → Nat))) (x : Int32) : Prop := (R = none → x = -9 ∧ sp_ma g g') ∧ ∀ q w, R = some (q, w) → q ≤ 6 ∧ x = nI q ∧ sp_bqM ce q t g g' (some w)
theorem sp_Rel.fo {g g1 g2 : sp_G} {ce t : Nat} {R : Option (Nat × (Nat → Nat))} {x y : Int32} (h : sp_Rel g) (ht : t < 6) (hx : sp_fX t g g1 R x) (hm : sp_fM ce t g1 g2 R y) : y = x ∧ sp_Rel g2 := by
  cases R with
  | none =>
    obtain ⟨e1, a1⟩ := hx.1 rfl
    obtain ⟨e2, a2⟩ := hm.1 rfl
    exact ⟨e2.trans e1.symm, (h.xa a1).ma a2⟩
  | some p =>
    obtain ⟨q, w⟩ := p
    obtain ⟨q6, e1, a1⟩ := hx.2 q w rfl
    obtain ⟨-, e2, a2⟩ := hm.2 q w rfl
    exact ⟨e2.trans e1.symm, h.bq ht q6 a1 a2⟩
theorem sp_fX.o {t : Nat} {g g1 : sp_G} {R : Option (Nat × (Nat → Nat))} {x : Int32} (h : sp_fX t g g1 R x) (ht : t < 6) : ∀ c, 63 < c → g1.1 c = g.1 c := fun c hc => by
  cases R with
  | none => exact (h.1 rfl).2.i c (by unfold sp_xs; omega)
  | some p =>
    obtain ⟨q, w⟩ := p
    obtain ⟨-, -, -, hb⟩ := h.2 q w rfl
    obtain ⟨g3, a1, a2, -⟩ := hb w rfl
    rw [a2.1 c (by omega) (by omega)]
    exact a1.i c (by unfold sp_xs; omega)
set_option maxRecDepth 20000 in
theorem xc_digs_go (X : sp_X) (g : sp_G) {r : Nat} (hr : r < 6) {t : Nat} (ht : t < 6) {c n z A Bq : Nat} {K T P v f : Nat → Int32} (hc9 : c ≤ 9) (h47 : g.1 47 2 = nI c) (hK : sp_KX n K T P g) (hp : sp_PX r z f g) (hzb : z ≤ 12) (hks : sp_ks f n z) (hv : sp_h8 g 41 42 v) (hB : sp_oB n A Bq v) (hAb : A < 2 ^ 19) (hBb : Bq < 2 ^ 19) : sp_Ct X 13 76 [.ref 0, .int (nI r), .int (nI t)] g (sp_Ri (fun x g' => sp_fX t g g' (sp_fdo n K T P f z c v 5 0) x)) := by
  refine sp_walkN (n := 5) sq_p_76 sq_l_76 (Nat.le_of_ble_eq_true rfl) (fun ac hA => ?_)
  show sp_Ev X ac 76 0 [.ref 0, .int (nI r), .int (nI t), .null, .null] [] g
  refine sr_aload_n hA si_76_0 rfl ?_
  refine sr_getR (r := 1) hA si_76_1 sf_76_14 (by decide) (by decide) rfl rfl rfl ?_
  refine sr_iload_n hA si_76_4 rfl ?_
  refine sr_VFi (c := 1) (ci := 5) (as := [.int (nI r)]) (st := []) hA si_76_5 sv_11 sk_76_72 (xc_numR1 X g (by omega)) (by omega) rfl (by decide) (by decide) rfl sq_c_11 rfl (Nat.le_of_ble_eq_true rfl) ?_
  refine sr_if_eqN (tgt := 22) hA si_76_8 (by decide) (by omega) (fun c1 => absurd c1 (by omega)) (fun c1 => ?_)
  refine sr_aload_n hA si_76_11 rfl ?_
  refine sr_getR (r := 1) hA si_76_12 sf_76_14 (by decide) (by decide) rfl rfl rfl ?_
  refine sr_iload_n hA si_76_15 rfl ?_
  refine sr_VFi (c := 1) (ci := 5) (as := [.int (nI t)]) (st := []) hA si_76_16 sv_11 sk_76_72 (xc_numR1 X g (by omega)) (by omega) rfl (by decide) (by decide) rfl sq_c_11 rfl (Nat.le_of_ble_eq_true rfl) ?_
  refine sr_if_neN (tgt := 24) hA si_76_19 (by decide) (by omega) (fun c2 => ?_) (fun c2 => absurd c2 (by omega))
  refine sr_aload_n hA si_76_24 rfl ?_
  refine sr_iload_n hA si_76_25 rfl ?_
  refine sr_VFi (c := 0) (ci := 7) (as := [.int (nI r)]) (st := []) hA si_76_26 sv_73 sk_76_223 (xc_pwr0 X g hr hp.2.2.1 hzb hK.1 hK.2.1 (fun i hi => by obtain ⟨a, a1, a2⟩ := hks i hi; exact ⟨a, a1, (hp.2.2.2 i hi).trans a2⟩)) (by omega) rfl (by decide) (by decide) rfl sq_c_73 rfl (Nat.le_of_ble_eq_true rfl) ?_
  refine sr_istore_n (ls1 := [.ref 0, .int (nI r), .int (nI t), .int (nI 0), .null]) hA si_76_29 rfl (by rw [sq_l_76]; decide) rfl ?_
  refine sr_iload_n hA si_76_30 rfl ?_
  refine sr_if_eqN (tgt := 40) hA si_76_31 (by decide) (by omega) (fun c3 => ?_) (fun c3 => absurd c3 (by omega))
  refine sr_aload_n hA si_76_40 rfl ?_
  refine sr_getR (r := 17) hA si_76_41 sf_76_24 (by decide) (by decide) rfl rfl rfl ?_
  refine sr_aload_n hA si_76_44 rfl ?_
  refine sr_getR (r := 41) hA si_76_45 sf_76_36 (by decide) (by decide) rfl rfl rfl ?_
  refine sr_aload_n hA si_76_48 rfl ?_
  refine sr_getR (r := 47) hA si_76_49 sf_76_49 (by decide) (by decide) rfl rfl rfl ?_
  refine sr_getIv (v := nI c) hA si_76_52 sf_76_184 (by decide) (by decide) rfl (by decide) h47 ?_
  refine sr_aload_n hA si_76_55 rfl ?_
  refine sr_getR (r := 1) hA si_76_56 sf_76_14 (by decide) (by decide) rfl rfl rfl ?_
  refine sr_iload_n hA si_76_59 rfl ?_
  refine sr_VRi (c := 17) (ci := 4) (as := [.ref 41, .int (nI c), .ref 1, .int (nI r)]) (st := []) hA si_76_60 sv_77 sk_76_233 (xb_fd X g (c := c) (r := r) (v := v) hc9 hK hp hzb hks hv hB hAb hBb) (by omega) rfl (by decide) (by decide) rfl sq_c_77 rfl (Nat.le_of_ble_eq_true rfl) (fun xv g1 q1 => ?_)
  obtain ⟨R0, eR⟩ : ∃ z', z' = (sp_fdo n K T P f z c v 5 0) := ⟨_, rfl⟩
  rw [← eR] at q1
  obtain ⟨ax, hfq⟩ := q1
  rcases hR : R0 with _ | ⟨q, w1⟩
  · obtain ⟨exv, h5⟩ := hfq.1 hR
    subst exv
    refine sr_istore (ls1 := [.ref 0, .int (nI r), .int (nI t), .int (nI 0), .int (-9)]) hA si_76_63 (by rw [sq_l_76]; decide) rfl ?_
    refine sr_aload_n hA si_76_65 rfl ?_
    refine sr_getR (r := 17) hA si_76_66 sf_76_24 (by decide) (by decide) rfl rfl rfl ?_
    refine sr_aload_n hA si_76_69 rfl ?_
    refine sr_getR (r := 1) hA si_76_70 sf_76_14 (by decide) (by decide) rfl rfl rfl ?_
    refine sr_iload_n hA si_76_73 rfl ?_
    refine sr_VFv (c := 17) (ci := 4) (as := [.ref 1, .int (nI t)]) (st := []) hA si_76_74 sv_81 sk_76_237 (xb_lay0 X g1 (nI t) h5) (by omega) rfl (by decide) (by decide) rfl sq_c_81 rfl (Nat.le_of_ble_eq_true rfl) ?_
    refine sr_iload hA si_76_77 rfl ?_
    exact sr_iretR hA si_76_79 sq_r_76 (by rw [← eR]; exact ⟨fun _ => ⟨rfl, ax⟩, fun q w h => (by rw [hR] at h; cases h)⟩)
  · obtain ⟨hq4, exv, h5, h38⟩ := hfq.2 q w1 hR
    subst exv
    refine sr_istore (ls1 := [.ref 0, .int (nI r), .int (nI t), .int (nI 0), .int (nI q)]) hA si_76_63 (by rw [sq_l_76]; decide) rfl ?_
    refine sr_aload_n hA si_76_65 rfl ?_
    refine sr_getR (r := 17) hA si_76_66 sf_76_24 (by decide) (by decide) rfl rfl rfl ?_
    refine sr_aload_n hA si_76_69 rfl ?_
    refine sr_getR (r := 1) hA si_76_70 sf_76_14 (by decide) (by decide) rfl rfl rfl ?_
    refine sr_iload_n hA si_76_73 rfl ?_
    refine sr_VRv (c := 17) (ci := 4) (as := [.ref 1, .int (nI t)]) (st := []) hA si_76_74 sv_81 sk_76_237 (xb_lay1 X g1 (r := t) (q := q) ht (by omega) h5) (by omega) rfl (by decide) (by decide) rfl sq_c_81 rfl (Nat.le_of_ble_eq_true rfl) (fun g4 q4 => ?_)
    refine sr_iload hA si_76_77 rfl ?_
    exact sr_iretR hA si_76_79 sq_r_76 (by rw [← eR]; exact ⟨fun h => (by rw [hR] at h; cases h), fun q w h => (by rw [hR] at h; cases h; exact ⟨by omega, rfl, fun h => (by cases h), fun w h => (by cases h; exact ⟨g1, ax, q4, h38⟩)⟩)⟩)
set_option maxRecDepth 20000 in
theorem ml_fd {X : sp_X} {ac : sp_Ac} {g : sp_G} {c n r t z A Bq : Nat} {K T P v f : Nat → Int32} (ht : t < 6) (hc9 : c ≤ 9) (hK : sp_KM n K T P g) (hp : sp_PM r z f g) (hzb : z ≤ 12) (hks : sp_ks f n z) (h10 : g.1 64 10 = nI c) (hv : sp_f8 g 0 v) (hB : sp_oB n A Bq v) (hAb : A < 2 ^ 19) (hBb : Bq < 2 ^ 19) {R0 : Option (Nat × (Nat → Nat))} (hA : sp_Act X 195 12 (sp_Ri (fun x g' => sp_fM 82 t g g' R0 x)) ac) : ∀ (k : Nat) (q : Nat) (gg : sp_G), q + k = 5 → sp_ma g gg → sp_fdo n K T P f z c v k q = R0 → sp_Ev X ac 195 31 [.ref 64, .int (nI r), .int (nI t), .null, .int (nI q)] [] gg := by
  intro k
  induction k with
  | zero =>
    intro q gg h0_ h1_ h2_
    refine sr_iload hA si_195_31 rfl ?_
    refine sr_iconst (v := nI 4) hA si_195_33 (by decide) ?_
    refine sr_icmp_gtN (tgt := 68) hA si_195_34 (by decide) (by omega) (by omega) (fun c1 => ?_) (fun c1 => absurd c1 (by omega))
    refine sr_bipush (v := (-9)) hA si_195_68 (by decide) ?_
    have e9 : R0 = none := h2_.symm
    exact sr_iretR hA si_195_70 sq_r_195 ⟨fun h => ⟨rfl, h1_⟩, fun q0 w0 h => (by rw [e9] at h; cases h)⟩
  | succ k ih =>
    intro q gg h0_ h1_ h2_
    refine sr_iload hA si_195_31 rfl ?_
    refine sr_iconst (v := nI 4) hA si_195_33 (by decide) ?_
    refine sr_icmp_gtN (tgt := 68) hA si_195_34 (by decide) (by omega) (by omega) (fun c1 => absurd c1 (by omega)) (fun c1 => ?_)
    refine sr_aload_n hA si_195_37 rfl ?_
    refine sr_iload_n hA si_195_38 rfl ?_
    refine sr_iconst (v := nI 0) hA si_195_39 (by decide) ?_
    refine sr_iload hA si_195_40 rfl ?_
    refine sr_VRi (c := 64) (ci := 8) (as := [.int (nI r), .int (nI 0), .int (nI q)]) (st := []) hA si_195_42 sv_196 sk_195_218 (mb_dg X (q := q) (c := c) (r := r) (by omega) hc9 hzb hks q 0 0 A Bq v (fun _ => 0) gg (by omega) (by omega) (fun _ => rfl) (fun h => absurd h (by omega)) (by omega) (by omega) (hK.ma h1_) (hp.ma h1_) ((h1_.o 10 (by omega)).trans h10) (fun j hj => by rw [← hv j hj]; exact h1_.f (9 * 0 + j) (by omega)) hB (fun j hj => absurd hj (by omega))) (by omega) rfl (by decide) (by decide) rfl sq_c_196 rfl (Nat.le_of_ble_eq_true rfl) (fun xv g2 q2 => ?_)
    obtain ⟨hl2, hn2, hs2⟩ := q2
    have am2 := h1_.tr hl2.ma
    rcases hR : sp_dgo n K T P f z c q 0 0 v (fun _ => 0) with _ | w1
    · have exv := hn2 hR
      subst exv
      refine sr_if_eqN (tgt := 62) hA si_195_45 (by decide) (by omega) (fun c2 => ?_) (fun c2 => absurd c2 (by omega))
      refine sr_iincN (x := q) (y := 1) (ls1 := [.ref 64, .int (nI r), .int (nI t), .null, .int (nI (q + 1))]) hA si_195_62 rfl rfl (by rw [sq_l_195]; decide) rfl ?_
      refine sr_goto (tgt := 31) hA si_195_65 (by decide) ?_
      exact ih (q + 1) g2 (by omega) am2 (by rw [← h2_]; exact (sp_fdn hR).symm)
    · obtain ⟨exv, hwy⟩ := hs2 w1 hR
      subst exv
      refine sr_if_eqN (tgt := 62) hA si_195_45 (by decide) (by omega) (fun c3 => absurd c3 (by omega)) (fun c3 => ?_)
      refine sr_aload_n hA si_195_48 rfl ?_
      refine sr_iload_n hA si_195_49 rfl ?_
      refine sr_aload_n hA si_195_50 rfl ?_
      refine sr_getR (r := 82) hA si_195_51 sf_195_67 (by decide) (by decide) rfl rfl rfl ?_
      refine sr_iload hA si_195_54 rfl ?_
      refine sr_VRv (c := 64) (ci := 8) (as := [.int (nI t), .ref 82, .int (nI q)]) (st := []) hA si_195_56 sv_197 sk_195_221 (mb_lay82 X g2 (r := t) (q := q) ht (by omega)) (by omega) rfl (by decide) (by decide) rfl sq_c_197 rfl (Nat.le_of_ble_eq_true rfl) (fun g3 q3 => ?_)
      refine sr_iload hA si_195_59 rfl ?_
      have e9 : R0 = some (q, w1) := by rw [← h2_]; exact sp_fds hR
      exact sr_iretR hA si_195_61 sq_r_195 ⟨fun h => (by rw [e9] at h; cases h), fun q0 w0 h => (by rw [e9] at h; cases h; exact ⟨by omega, rfl, fun h => (by cases h), fun w h => (by cases h; exact ⟨g2, am2, q3, hwy⟩)⟩)⟩
set_option maxRecDepth 20000 in
theorem mc_digs_go (X : sp_X) (g : sp_G) {r : Nat} (hr : r < 6) {t : Nat} (ht : t < 6) {c n z A Bq : Nat} {K T P v f : Nat → Int32} (hc9 : c ≤ 9) (h10 : g.1 64 10 = nI c) (hK : sp_KM n K T P g) (hp : sp_PM r z f g) (hzb : z ≤ 12) (hks : sp_ks f n z) (hv : sp_f8 g 0 v) (hB : sp_oB n A Bq v) (hAb : A < 2 ^ 19) (hBb : Bq < 2 ^ 19) : sp_Ct X 12 195 [.ref 64, .int (nI r), .int (nI t)] g (sp_Ri (fun x g' => sp_fM 82 t g g' (sp_fdo n K T P f z c v 5 0) x)) := by
  refine sp_walkN (n := 5) sq_p_195 sq_l_195 (Nat.le_of_ble_eq_true rfl) (fun ac hA => ?_)
  show sp_Ev X ac 195 0 [.ref 64, .int (nI r), .int (nI t), .null, .null] [] g
  refine sr_iload_n hA si_195_0 rfl ?_
  refine sr_SFi (as := [.int (nI r)]) (st := []) hA si_195_1 ss_140 sk_195_93 (mc_isRow1 X g (by omega)) (by omega) rfl rfl (Nat.le_of_ble_eq_true rfl) ?_
  refine sr_if_eqN (tgt := 14) hA si_195_4 (by decide) (by omega) (fun c1 => absurd c1 (by omega)) (fun c1 => ?_)
  refine sr_iload_n hA si_195_7 rfl ?_
  refine sr_SFi (as := [.int (nI t)]) (st := []) hA si_195_8 ss_140 sk_195_93 (mc_isRow1 X g (by omega)) (by omega) rfl rfl (Nat.le_of_ble_eq_true rfl) ?_
  refine sr_if_neN (tgt := 16) hA si_195_11 (by decide) (by omega) (fun c2 => ?_) (fun c2 => absurd c2 (by omega))
  refine sr_aload_n hA si_195_16 rfl ?_
  refine sr_iload_n hA si_195_17 rfl ?_
  refine sr_VFi (c := 64) (ci := 8) (as := [.int (nI r)]) (st := []) hA si_195_18 sv_190 sk_195_209 (mc_np0 X g hr hp.2.2.1 hzb hK.1 hK.2.1 (fun i hi => by obtain ⟨a, a1, a2⟩ := hks i hi; exact ⟨a, a1, (hp.2.2.2 i hi).trans a2⟩)) (by omega) rfl (by decide) (by decide) rfl sq_c_190 rfl (Nat.le_of_ble_eq_true rfl) ?_
  refine sr_istore_n (ls1 := [.ref 64, .int (nI r), .int (nI t), .int (nI 0), .null]) hA si_195_21 rfl (by rw [sq_l_195]; decide) rfl ?_
  refine sr_iload_n hA si_195_22 rfl ?_
  refine sr_if_geN (tgt := 28) hA si_195_23 (by decide) (by omega) ?_
  refine sr_iconst (v := nI 0) hA si_195_28 (by decide) ?_
  refine sr_istore (ls1 := [.ref 64, .int (nI r), .int (nI t), .int (nI 0), .int (nI 0)]) hA si_195_29 (by rw [sq_l_195]; decide) rfl ?_
  refine sr_fg (ls1 := [.ref 64, .int (nI r), .int (nI t), .null, .int (nI 0)]) ⟨Or.inr rfl, Or.inr rfl, Or.inr rfl, Or.inl rfl, Or.inr rfl, trivial⟩ ?_
  exact ml_fd ht hc9 hK hp hzb hks h10 hv hB hAb hBb hA 5 0 g (by omega) sp_ma.rf rfl
theorem pr_digs {X : sp_X} {g : sp_G} (h : sp_Rel g) (r t : Int32) : sp_Pi X 76 195 [.int r, .int t] g := by
  obtain ⟨hF, hR, hT, n, dm, hK, hS, hP⟩ := id h
  obtain ⟨k1, k2, k3, k4⟩ := id hK
  have hS1 := hS.1
  rcases sp_cls r with hr | ⟨r, hrb, rfl⟩
  · exact sp_pF (xc_digs_a X g hr t) (mc_digs_a X g hr t) (by omega) (by omega) h
  by_cases hr : r < 6
  rotate_left
  · exact sp_pF (xc_digs_b X g (by omega) hrb t) (mc_digs_b X g (by omega) hrb t) (by omega) (by omega) h
  rcases sp_cls t with ht | ⟨t, htb, rfl⟩
  · exact sp_pF (xc_digs_c X g hr ht) (mc_digs_c X g hr ht) (by omega) (by omega) h
  by_cases ht : t < 6
  rotate_left
  · exact sp_pF (xc_digs_d X g hr (by omega) htb) (mc_digs_d X g hr (by omega) htb) (by omega) (by omega) h
  rcases sp_pcs h hr hK with ⟨z1, z2⟩ | ⟨z, zb, z1, z2, hz | ⟨hz, ⟨b, b1, b2, b3, b4, b5⟩ | ⟨k5, k6⟩⟩⟩
  · exact sp_pF (xc_digs_r1 X g hr ht z1) (mc_digs_r1 X (sp_rx g 1) hr ht z2) (by omega) (by omega) (h.ref (by omega))
  · exact sp_pF (xc_digs_r5 X g hr ht z1 hz zb) (mc_digs_r5 X (sp_rx g 5) hr ht z2 hz zb) (by omega) (by omega) (h.ref (by omega))
  · exact sp_pF (xc_digs_r3 X g hr ht z1 hz k2 k1 b1 b2 b4) (mc_digs_r3 X (sp_rx g 3) hr ht z2 hz k3 k1 b1 b3 b5) (by omega) (by omega) (h.ref (by omega))
  obtain ⟨c, c1, c2, c3⟩ := hS.2.2.2.1
  refine ⟨13, _, by omega, xc_digs_go X g hr ht c1 c2 (sp_Rel.KX hK) (h.PX hr zb z1) hz k6 hS.hS.d8 (sp_nowk hS) (by omega) (by omega), fun v g1 q1 => ?_⟩
  have o := sp_fX.o q1 ht
  have hKM : sp_KM n (g.1 71) (g.1 72) (g.1 73) g1 := by
    have := sp_Rel.KM hK
    unfold sp_KM at this ⊢
    rw [o 64 (by omega), o 71 (by omega), o 72 (by omega), o 73 (by omega)]
    exact this
  have hPM : sp_PM r z (fun i => g.1 67 (40 * r + i)) g1 := by
    have := sp_Rel.PM (g := g) hr zb z2
    unfold sp_PM at this ⊢
    rw [o 66 (by omega), o 67 (by omega)]
    exact this
  have hu1 : sp_f8 g1 0 (g.1 75) := fun j hj => by
    show g1.1 75 (9 * 0 + j) = _
    rw [o 75 (by omega), show 9 * 0 + j = j by omega]
  refine ⟨12, _, by omega, mc_digs_go X g1 hr ht c1 (by rw [o 64 (by omega)]; exact c3) hKM hPM hz k6 hu1 (sp_nowk hS) (by omega) (by omega), fun v2 g2 q2 => ?_⟩
  exact h.fo ht q1 q2
