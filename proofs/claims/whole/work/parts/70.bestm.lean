/-! the notes that pay most, the reference's -/
def sp_qb (q : Nat) (g : sp_G) (s : sp_Es) : Prop := (s = none → g.1 64 31 = -1) ∧ ∀ b w, s = some (b, w) → b ≤ 100 ∧ g.1 64 31 = nI b ∧ ∀ j, j < q → g.1 83 j = nI (w j)
theorem sp_qb.sm {q F F' : Nat} {g g1 : sp_G} {s : sp_Es} {u : Nat → Int32} {p : Int32} {d i : Nat} (h : sp_qb q g s) (k : sp_sm2 F F' g g1 u p) : sp_qb q (sp_wI g1 82 d (nI i)) s := by
  have e64 : (sp_wI g1 82 d (nI i)).1 64 = g.1 64 := by rw [sp_wI_ne (by decide), k.1 64 (by decide)]
  have e83 : (sp_wI g1 82 d (nI i)).1 83 = g.1 83 := by rw [sp_wI_ne (by decide), k.1 83 (by decide)]
  unfold sp_qb
  rw [e64, e83]
  exact h
theorem sp_qbL {q e : Nat} {g g1 : sp_G} {w : Nat → Nat} (q1 : sp_tt (sp_wI g 64 31 (nI e)) g1 q) (he : e ≤ 100) (hw : sp_tw g q w) : sp_qb q g1 (some (e, w)) := by
  refine ⟨fun h => (by cases h), fun b w' h => ?_⟩
  cases h
  exact ⟨he, by rw [q1.1 64 (by decide)]; rfl, fun j hj => (q1.2.2 j hj).trans (hw j hj)⟩
set_option maxRecDepth 20000 in
theorem mb_beA (X : sp_X) (g : sp_G) {d q n tp : Nat} {K T P v : Nat → Int32} {w : Nat → Nat} {s : sp_Es} {x0 : Int32} (hdq : d = q) (hq5 : q ≤ 5) (hK : sp_KM n K T P g) (ht9 : tp ≤ 9) (hP : sp_p9 n tp P) (hwn : ∀ j, j < d → w j < n) (h0 : g.1 75 8 = x0) (hE : g.1 75 (9 * d + 8) = x0 + nI (sp_ey P w d)) (hw : sp_tw g d w) (hq0 : sp_qb q g s) (hs : s = none) : sp_Ct X 5 205 [.ref 64, .int (nI d), .int (nI q)] g (sp_Rv (fun g' => sp_dm d d g g' ∧ sp_qb q g' (sp_go n K T P (sp_le P) 0 d v w s))) := by
  have hn6 := hK.2.1
  obtain ⟨e, ee⟩ : ∃ z, z = sp_ey P w d := ⟨_, rfl⟩
  have he9 : e ≤ 9 * d := by rw [ee]; exact sp_e9 hP ht9 hwn
  rw [← ee] at hE
  have hgo : sp_go n K T P (sp_le P) 0 d v w s = some (e, w) := by rw [hs, ee]; rfl
  refine sp_walkN (n := 4) sq_p_205 sq_l_205 (Nat.le_of_ble_eq_true rfl) (fun ac hA => ?_)
  show sp_Ev X ac 205 0 [.ref 64, .int (nI d), .int (nI q), .null] [] g
  refine sr_iload_n hA si_205_0 rfl ?_
  refine sr_iload_n hA si_205_1 rfl ?_
  refine sr_icmp_neN (tgt := 40) hA si_205_2 (by decide) (by omega) (by omega) (fun c1 => absurd c1 (by omega)) (fun c1 => ?_)
  refine sr_aload_n hA si_205_5 rfl ?_
  refine sr_iload_n hA si_205_6 rfl ?_
  refine sr_bipush (v := nI 8) hA si_205_7 (by decide) ?_
  refine sr_VFi (c := 64) (ci := 8) (as := [.int (nI d), .int (nI 8)]) (st := []) hA si_205_9 sv_164 sk_205_152 (by have h := mc_v X g (f := d) (i := 8) (by omega); rw [hE] at h; exact h) (by omega) rfl (by decide) (by decide) rfl sq_c_164 rfl (Nat.le_of_ble_eq_true rfl) ?_
  refine sr_aload_n hA si_205_12 rfl ?_
  refine sr_iconst (v := nI 0) hA si_205_13 (by decide) ?_
  refine sr_bipush (v := nI 8) hA si_205_14 (by decide) ?_
  refine sr_VFi (c := 64) (ci := 8) (as := [.int (nI 0), .int (nI 8)]) (st := [.int (x0 + nI e)]) hA si_205_16 sv_164 sk_205_152 (by have h := mc_v X g (f := 0) (i := 8) (by omega); rw [show g.1 75 (9 * 0 + 8) = x0 from h0] at h; exact h) (by omega) rfl (by decide) (by decide) rfl sq_c_164 rfl (Nat.le_of_ble_eq_true rfl) ?_
  refine sr_isub hA si_205_19 ?_
  rw [sp_cnc]
  refine sr_istore_n (ls1 := [.ref 64, .int (nI d), .int (nI q), .int (nI e)]) hA si_205_20 rfl (by rw [sq_l_205]; decide) rfl ?_
  refine sr_iload_n hA si_205_21 rfl ?_
  refine sr_aload_n hA si_205_22 rfl ?_
  refine sr_getIv (v := (-1)) hA si_205_23 sf_205_238 (by decide) (by decide) rfl (by decide) (hq0.1 hs) ?_
  refine sr_icmp_le (tgt := 39) hA si_205_26 (by decide) (fun c2 => absurd c2 (sp_n4 (show (-1 : Int32) < 0 by decide) (by omega))) (fun c2 => ?_)
  refine sr_aload_n hA si_205_29 rfl ?_
  refine sr_iload_n hA si_205_30 rfl ?_
  refine sr_putI hA si_205_31 sf_205_238 rfl rfl (by decide) (by decide) rfl rfl ?_
  refine sr_aload_n hA si_205_34 rfl ?_
  refine sr_iload_n hA si_205_35 rfl ?_
  refine sr_VRv (c := 64) (ci := 8) (as := [.int (nI q)]) (st := []) hA si_205_36 sv_202 sk_205_228 (mb_tt X (sp_wI g 64 31 (nI e)) (q := q) (by omega)) (by omega) rfl (by decide) (by decide) rfl sq_c_202 rfl (Nat.le_of_ble_eq_true rfl) (fun g1 q1 => ?_)
  exact sr_vretR hA si_205_39 sq_r_205 ⟨(sp_dm.rf.wf (i := 31) (x := nI e) (by omega)).tr q1.dm, (by rw [hgo]; exact sp_qbL q1 (by omega) (by rw [← hdq]; exact hw))⟩
set_option maxRecDepth 20000 in
theorem mb_beB (X : sp_X) (g : sp_G) {d q n tp : Nat} {K T P v : Nat → Int32} {w : Nat → Nat} {s : sp_Es} {x0 : Int32} (hdq : d = q) (hq5 : q ≤ 5) (hK : sp_KM n K T P g) (ht9 : tp ≤ 9) (hP : sp_p9 n tp P) (hwn : ∀ j, j < d → w j < n) (h0 : g.1 75 8 = x0) (hE : g.1 75 (9 * d + 8) = x0 + nI (sp_ey P w d)) (hw : sp_tw g d w) (hq0 : sp_qb q g s) {b : Nat} {w0 : Nat → Nat} (hs : s = some (b, w0)) (hpr : ¬ sp_ey P w d ≤ b) : sp_Ct X 5 205 [.ref 64, .int (nI d), .int (nI q)] g (sp_Rv (fun g' => sp_dm d d g g' ∧ sp_qb q g' (sp_go n K T P (sp_le P) 0 d v w s))) := by
  have hn6 := hK.2.1
  obtain ⟨e, ee⟩ : ∃ z, z = sp_ey P w d := ⟨_, rfl⟩
  have he9 : e ≤ 9 * d := by rw [ee]; exact sp_e9 hP ht9 hwn
  rw [← ee] at hE
  rw [← ee] at hpr
  obtain ⟨hb100, hb6, -⟩ := hq0.2 b w0 hs
  have hgo : sp_go n K T P (sp_le P) 0 d v w s = some (e, w) := by
    rw [hs, ee]
    exact if_pos (by show b < sp_ey P w d; omega)
  refine sp_walkN (n := 4) sq_p_205 sq_l_205 (Nat.le_of_ble_eq_true rfl) (fun ac hA => ?_)
  show sp_Ev X ac 205 0 [.ref 64, .int (nI d), .int (nI q), .null] [] g
  refine sr_iload_n hA si_205_0 rfl ?_
  refine sr_iload_n hA si_205_1 rfl ?_
  refine sr_icmp_neN (tgt := 40) hA si_205_2 (by decide) (by omega) (by omega) (fun c1 => absurd c1 (by omega)) (fun c1 => ?_)
  refine sr_aload_n hA si_205_5 rfl ?_
  refine sr_iload_n hA si_205_6 rfl ?_
  refine sr_bipush (v := nI 8) hA si_205_7 (by decide) ?_
  refine sr_VFi (c := 64) (ci := 8) (as := [.int (nI d), .int (nI 8)]) (st := []) hA si_205_9 sv_164 sk_205_152 (by have h := mc_v X g (f := d) (i := 8) (by omega); rw [hE] at h; exact h) (by omega) rfl (by decide) (by decide) rfl sq_c_164 rfl (Nat.le_of_ble_eq_true rfl) ?_
  refine sr_aload_n hA si_205_12 rfl ?_
  refine sr_iconst (v := nI 0) hA si_205_13 (by decide) ?_
  refine sr_bipush (v := nI 8) hA si_205_14 (by decide) ?_
  refine sr_VFi (c := 64) (ci := 8) (as := [.int (nI 0), .int (nI 8)]) (st := [.int (x0 + nI e)]) hA si_205_16 sv_164 sk_205_152 (by have h := mc_v X g (f := 0) (i := 8) (by omega); rw [show g.1 75 (9 * 0 + 8) = x0 from h0] at h; exact h) (by omega) rfl (by decide) (by decide) rfl sq_c_164 rfl (Nat.le_of_ble_eq_true rfl) ?_
  refine sr_isub hA si_205_19 ?_
  rw [sp_cnc]
  refine sr_istore_n (ls1 := [.ref 64, .int (nI d), .int (nI q), .int (nI e)]) hA si_205_20 rfl (by rw [sq_l_205]; decide) rfl ?_
  refine sr_iload_n hA si_205_21 rfl ?_
  refine sr_aload_n hA si_205_22 rfl ?_
  refine sr_getIv (v := nI b) hA si_205_23 sf_205_238 (by decide) (by decide) rfl (by decide) hb6 ?_
  refine sr_icmp_leN (tgt := 39) hA si_205_26 (by decide) (by omega) (by omega) (fun c2 => absurd c2 (by omega)) (fun c2 => ?_)
  refine sr_aload_n hA si_205_29 rfl ?_
  refine sr_iload_n hA si_205_30 rfl ?_
  refine sr_putI hA si_205_31 sf_205_238 rfl rfl (by decide) (by decide) rfl rfl ?_
  refine sr_aload_n hA si_205_34 rfl ?_
  refine sr_iload_n hA si_205_35 rfl ?_
  refine sr_VRv (c := 64) (ci := 8) (as := [.int (nI q)]) (st := []) hA si_205_36 sv_202 sk_205_228 (mb_tt X (sp_wI g 64 31 (nI e)) (q := q) (by omega)) (by omega) rfl (by decide) (by decide) rfl sq_c_202 rfl (Nat.le_of_ble_eq_true rfl) (fun g1 q1 => ?_)
  exact sr_vretR hA si_205_39 sq_r_205 ⟨(sp_dm.rf.wf (i := 31) (x := nI e) (by omega)).tr q1.dm, (by rw [hgo]; exact sp_qbL q1 (by omega) (by rw [← hdq]; exact hw))⟩
set_option maxRecDepth 20000 in
theorem mb_beC (X : sp_X) (g : sp_G) {d q n tp : Nat} {K T P v : Nat → Int32} {w : Nat → Nat} {s : sp_Es} {x0 : Int32} (hdq : d = q) (hq5 : q ≤ 5) (hK : sp_KM n K T P g) (ht9 : tp ≤ 9) (hP : sp_p9 n tp P) (hwn : ∀ j, j < d → w j < n) (h0 : g.1 75 8 = x0) (hE : g.1 75 (9 * d + 8) = x0 + nI (sp_ey P w d)) (hw : sp_tw g d w) (hq0 : sp_qb q g s) {b : Nat} {w0 : Nat → Nat} (hs : s = some (b, w0)) (hpr : sp_ey P w d ≤ b) : sp_Ct X 5 205 [.ref 64, .int (nI d), .int (nI q)] g (sp_Fv g) := by
  have hn6 := hK.2.1
  obtain ⟨e, ee⟩ : ∃ z, z = sp_ey P w d := ⟨_, rfl⟩
  have he9 : e ≤ 9 * d := by rw [ee]; exact sp_e9 hP ht9 hwn
  rw [← ee] at hE
  rw [← ee] at hpr
  obtain ⟨hb100, hb6, -⟩ := hq0.2 b w0 hs
  refine sp_walkN (n := 4) sq_p_205 sq_l_205 (Nat.le_of_ble_eq_true rfl) (fun ac hA => ?_)
  show sp_Ev X ac 205 0 [.ref 64, .int (nI d), .int (nI q), .null] [] g
  refine sr_iload_n hA si_205_0 rfl ?_
  refine sr_iload_n hA si_205_1 rfl ?_
  refine sr_icmp_neN (tgt := 40) hA si_205_2 (by decide) (by omega) (by omega) (fun c1 => absurd c1 (by omega)) (fun c1 => ?_)
  refine sr_aload_n hA si_205_5 rfl ?_
  refine sr_iload_n hA si_205_6 rfl ?_
  refine sr_bipush (v := nI 8) hA si_205_7 (by decide) ?_
  refine sr_VFi (c := 64) (ci := 8) (as := [.int (nI d), .int (nI 8)]) (st := []) hA si_205_9 sv_164 sk_205_152 (by have h := mc_v X g (f := d) (i := 8) (by omega); rw [hE] at h; exact h) (by omega) rfl (by decide) (by decide) rfl sq_c_164 rfl (Nat.le_of_ble_eq_true rfl) ?_
  refine sr_aload_n hA si_205_12 rfl ?_
  refine sr_iconst (v := nI 0) hA si_205_13 (by decide) ?_
  refine sr_bipush (v := nI 8) hA si_205_14 (by decide) ?_
  refine sr_VFi (c := 64) (ci := 8) (as := [.int (nI 0), .int (nI 8)]) (st := [.int (x0 + nI e)]) hA si_205_16 sv_164 sk_205_152 (by have h := mc_v X g (f := 0) (i := 8) (by omega); rw [show g.1 75 (9 * 0 + 8) = x0 from h0] at h; exact h) (by omega) rfl (by decide) (by decide) rfl sq_c_164 rfl (Nat.le_of_ble_eq_true rfl) ?_
  refine sr_isub hA si_205_19 ?_
  rw [sp_cnc]
  refine sr_istore_n (ls1 := [.ref 64, .int (nI d), .int (nI q), .int (nI e)]) hA si_205_20 rfl (by rw [sq_l_205]; decide) rfl ?_
  refine sr_iload_n hA si_205_21 rfl ?_
  refine sr_aload_n hA si_205_22 rfl ?_
  refine sr_getIv (v := nI b) hA si_205_23 sf_205_238 (by decide) (by decide) rfl (by decide) hb6 ?_
  refine sr_icmp_leN (tgt := 39) hA si_205_26 (by decide) (by omega) (by omega) (fun c2 => ?_) (fun c2 => absurd c2 (by omega))
  exact sr_vretF hA si_205_39 sq_r_205 rfl
set_option maxRecDepth 20000 in
theorem ml_be {X : sp_X} {ac : sp_Ac} {g : sp_G} {n d m q tp : Nat} {K T P v : Nat → Int32} {w : Nat → Nat} {s : sp_Es} {x0 : Int32} (hd : d + (m + 1) = q) (hq5 : q ≤ 5) (hK : sp_KM n K T P g) (ht9 : tp ≤ 9) (hP : sp_p9 n tp P) (hwn : ∀ j, j < d → w j < n) (h0 : g.1 75 8 = x0) (hE : g.1 75 (9 * d + 8) = x0 + nI (sp_ey P w d)) (hw : sp_tw g d w) (hv : sp_f8 g d v) (IH : ∀ (v : Nat → Int32) (w : Nat → Nat) (g : sp_G) (s : sp_Es), sp_KM n K T P g → (∀ j, j < d + 1 → w j < n) → g.1 75 8 = x0 → g.1 75 (9 * (d + 1) + 8) = x0 + nI (sp_ey P w (d + 1)) → sp_tw g (d + 1) w → sp_f8 g (d + 1) v → sp_qb q g s → sp_Ct X (m + 5) 205 [.ref 64, .int (nI (d + 1)), .int (nI q)] g (sp_Rv (fun g' => sp_dm (d + 1) (d + 1) g g' ∧ sp_qb q g' (sp_go n K T P (sp_le P) m (d + 1) v w s)))) (hA : sp_Act X 205 (m + 6) (sp_Rv (fun g' => sp_dm d d g g' ∧ sp_qb q g' (sp_go n K T P (sp_le P) (m + 1) d v w s))) ac) : ∀ (k : Nat) (i : Nat) (gg : sp_G), i + k = n → sp_dm d d g gg → sp_qb q gg (sp_gs n K T P (sp_le P) m d v w s i) → sp_Ev X ac 205 42 [.ref 64, .int (nI d), .int (nI q), .int (nI i)] [] gg := by
  intro k
  induction k with
  | zero =>
    intro i gg h0_ h1_ h2_
    have hn6 := hK.2.1
    refine sr_iload_n hA si_205_42 rfl ?_
    refine sr_aload_n hA si_205_43 rfl ?_
    refine sr_getIv (v := nI n) hA si_205_44 sf_205_142 (by decide) (by decide) rfl (by decide) (hK.ma h1_.ma).1 ?_
    refine sr_icmp_geN (tgt := 96) hA si_205_47 (by decide) (by omega) (by omega) (fun c1 => ?_) (fun c1 => absurd c1 (by omega))
    exact sr_vretR hA si_205_96 sq_r_205 ⟨h1_, by rw [show i = n by omega] at h2_; exact h2_⟩
  | succ k ih =>
    intro i gg h0_ h1_ h2_
    have hn6 := hK.2.1
    refine sr_iload_n hA si_205_42 rfl ?_
    refine sr_aload_n hA si_205_43 rfl ?_
    refine sr_getIv (v := nI n) hA si_205_44 sf_205_142 (by decide) (by decide) rfl (by decide) (hK.ma h1_.ma).1 ?_
    refine sr_icmp_geN (tgt := 96) hA si_205_47 (by decide) (by omega) (by omega) (fun c1 => absurd c1 (by omega)) (fun c1 => ?_)
    refine sr_aload_n hA si_205_50 rfl ?_
    refine sr_iload_n hA si_205_51 rfl ?_
    refine sr_iload_n hA si_205_52 rfl ?_
    by_cases hcb : sp_cb (K i) (T i) (v i) = true
    · refine sr_VFi (c := 64) (ci := 8) (as := [.int (nI d), .int (nI i)]) (st := []) hA si_205_53 sv_165 sk_205_155 (mb_can1 X gg (f := d) (i := i) (by omega) (hK.ma h1_.ma) (by omega) (hv.dm h1_ (by omega)) hcb) (by omega) rfl (by decide) (by decide) rfl sq_c_165 rfl (Nat.le_of_ble_eq_true rfl) ?_
      refine sr_if_eqN (tgt := 90) hA si_205_56 (by decide) (by omega) (fun c2 => absurd c2 (by omega)) (fun c2 => ?_)
      refine sr_aload_n hA si_205_59 rfl ?_
      refine sr_iload_n hA si_205_60 rfl ?_
      refine sr_iload_n hA si_205_61 rfl ?_
      refine sr_iconst (v := nI 1) hA si_205_62 (by decide) ?_
      refine sr_iaddN hA si_205_63 ?_
      refine sr_VRv (c := 64) (ci := 8) (as := [.int (nI d), .int (nI (d + 1))]) (st := []) hA si_205_64 sv_192 sk_205_212 (mb_copyTo X gg (f := d) (t := d + 1) (by omega) (by omega) (by omega) (hv.dm h1_ (by omega))) (by omega) rfl (by decide) (by decide) rfl sq_c_192 rfl (Nat.le_of_ble_eq_true rfl) (fun g1 q1 => ?_)
      refine sr_aload_n hA si_205_67 rfl ?_
      refine sr_iload_n hA si_205_68 rfl ?_
      refine sr_iconst (v := nI 1) hA si_205_69 (by decide) ?_
      refine sr_iaddN hA si_205_70 ?_
      refine sr_iload_n hA si_205_71 rfl ?_
      refine sr_VRv (c := 64) (ci := 8) (as := [.int (nI (d + 1)), .int (nI i)]) (st := []) hA si_205_72 sv_175 sk_205_192 (mb_plays X g1 (f := d + 1) (i := i) (by omega) ((hK.ma h1_.ma).ma (sp_ma.rf.fx q1.1 (by omega))) (by omega) q1.2.1) (by omega) rfl (by decide) (by decide) rfl sq_c_175 rfl (Nat.le_of_ble_eq_true rfl) (fun g2 q2 => ?_)
      have qs := sp_sm2.mk (F := d) q1 q2
      have hl1 := h1_.tr (qs.dm (d := d) (by omega))
      obtain ⟨p, hp9, ep⟩ := hP i (by omega)
      have hE1 : g2.1 75 (9 * (d + 1) + 8) = x0 + nI (sp_ey P (sp_un w d i) (d + 1)) := by
        rw [qs.2.2.2.2, h1_.2.1 (9 * d + 8) (by omega), hE, ep, sp_ey_un ep (by omega), Int32.add_assoc, nI_add]
      have h01 : g2.1 75 8 = x0 := by rw [hl1.2.1 8 (by omega)]; exact h0
      refine sr_aload_n hA si_205_75 rfl ?_
      refine sr_getR (r := 82) hA si_205_76 sf_205_67 (by decide) (by decide) rfl rfl rfl ?_
      refine sr_iload_n hA si_205_79 rfl ?_
      refine sr_iload_n hA si_205_80 rfl ?_
      refine sr_iastN (n := 12) hA si_205_81 (by decide) rfl rfl (by omega) (by decide) ?_
      refine sr_aload_n hA si_205_82 rfl ?_
      refine sr_iload_n hA si_205_83 rfl ?_
      refine sr_iconst (v := nI 1) hA si_205_84 (by decide) ?_
      refine sr_iaddN hA si_205_85 ?_
      refine sr_iload_n hA si_205_86 rfl ?_
      refine sr_VRv (c := 64) (ci := 8) (as := [.int (nI (d + 1)), .int (nI q)]) (st := []) hA si_205_87 sv_205 sk_205_241 (IH (sp_pl n K P v i) (sp_un w d i) (sp_wI g2 82 d (nI i)) (sp_gs n K T P (sp_le P) m d v w s i) (hK.ma (hl1.wt (Nat.le_refl _)).ma) (sp_un_lt hwn (by omega)) h01 hE1 ((hw.dm h1_).un qs) qs.2.2.2.1 (h2_.sm qs)) (by omega) rfl (by decide) (by decide) rfl sq_c_205 rfl (Nat.le_of_ble_eq_true rfl) (fun g3 q3 => ?_)
      refine sr_iincN (x := i) (y := 1) (ls1 := [.ref 64, .int (nI d), .int (nI q), .int (nI (i + 1))]) hA si_205_90 rfl rfl (by rw [sq_l_205]; decide) rfl ?_
      refine sr_goto (tgt := 42) hA si_205_93 (by decide) ?_
      exact ih (i + 1) g3 (by omega) ((hl1.wt (Nat.le_refl _)).tr (q3.1.lo (by omega) (by omega))) (by rw [sp_gs1 hcb]; exact q3.2)
    · refine sr_VFi (c := 64) (ci := 8) (as := [.int (nI d), .int (nI i)]) (st := []) hA si_205_53 sv_165 sk_205_155 (mb_can0 X gg (f := d) (i := i) (by omega) (hK.ma h1_.ma) (by omega) (hv.dm h1_ (by omega)) hcb) (by omega) rfl (by decide) (by decide) rfl sq_c_165 rfl (Nat.le_of_ble_eq_true rfl) ?_
      refine sr_if_eqN (tgt := 90) hA si_205_56 (by decide) (by omega) (fun c3 => ?_) (fun c3 => absurd c3 (by omega))
      refine sr_iincN (x := i) (y := 1) (ls1 := [.ref 64, .int (nI d), .int (nI q), .int (nI (i + 1))]) hA si_205_90 rfl rfl (by rw [sq_l_205]; decide) rfl ?_
      refine sr_goto (tgt := 42) hA si_205_93 (by decide) ?_
      exact ih (i + 1) gg (by omega) h1_ (by rw [sp_gs0 hcb]; exact h2_)
set_option maxRecDepth 20000 in
theorem mb_beS {X : sp_X} {g : sp_G} {n d m q tp : Nat} {K T P v : Nat → Int32} {w : Nat → Nat} {s : sp_Es} {x0 : Int32} (hd : d + (m + 1) = q) (hq5 : q ≤ 5) (hK : sp_KM n K T P g) (ht9 : tp ≤ 9) (hP : sp_p9 n tp P) (hwn : ∀ j, j < d → w j < n) (h0 : g.1 75 8 = x0) (hE : g.1 75 (9 * d + 8) = x0 + nI (sp_ey P w d)) (hw : sp_tw g d w) (hv : sp_f8 g d v) (hq0 : sp_qb q g s) (IH : ∀ (v : Nat → Int32) (w : Nat → Nat) (g : sp_G) (s : sp_Es), sp_KM n K T P g → (∀ j, j < d + 1 → w j < n) → g.1 75 8 = x0 → g.1 75 (9 * (d + 1) + 8) = x0 + nI (sp_ey P w (d + 1)) → sp_tw g (d + 1) w → sp_f8 g (d + 1) v → sp_qb q g s → sp_Ct X (m + 5) 205 [.ref 64, .int (nI (d + 1)), .int (nI q)] g (sp_Rv (fun g' => sp_dm (d + 1) (d + 1) g g' ∧ sp_qb q g' (sp_go n K T P (sp_le P) m (d + 1) v w s)))) : sp_Ct X (m + 6) 205 [.ref 64, .int (nI d), .int (nI q)] g (sp_Rv (fun g' => sp_dm d d g g' ∧ sp_qb q g' (sp_go n K T P (sp_le P) (m + 1) d v w s))) := by
  refine sp_walkN (n := 4) sq_p_205 sq_l_205 (Nat.le_of_ble_eq_true rfl) (fun ac hA => ?_)
  show sp_Ev X ac 205 0 [.ref 64, .int (nI d), .int (nI q), .null] [] g
  refine sr_iload_n hA si_205_0 rfl ?_
  refine sr_iload_n hA si_205_1 rfl ?_
  refine sr_icmp_neN (tgt := 40) hA si_205_2 (by decide) (by omega) (by omega) (fun c1 => ?_) (fun c1 => absurd c1 (by omega))
  refine sr_iconst (v := nI 0) hA si_205_40 (by decide) ?_
  refine sr_istore_n (ls1 := [.ref 64, .int (nI d), .int (nI q), .int (nI 0)]) hA si_205_41 rfl (by rw [sq_l_205]; decide) rfl ?_
  exact ml_be hd hq5 hK ht9 hP hwn h0 hE hw hv IH hA n 0 g (by omega) sp_dm.rf hq0
theorem mb_be (X : sp_X) {n q tp : Nat} {K T P : Nat → Int32} {x0 : Int32} (hq5 : q ≤ 5) (ht9 : tp ≤ 9) (hP : sp_p9 n tp P) : ∀ (m d : Nat) (v : Nat → Int32) (w : Nat → Nat) (g : sp_G) (s : sp_Es), d + m = q → sp_KM n K T P g → (∀ j, j < d → w j < n) → g.1 75 8 = x0 → g.1 75 (9 * d + 8) = x0 + nI (sp_ey P w d) → sp_tw g d w → sp_f8 g d v → sp_qb q g s → sp_Ct X (m + 5) 205 [.ref 64, .int (nI d), .int (nI q)] g (sp_Rv (fun g' => sp_dm d d g g' ∧ sp_qb q g' (sp_go n K T P (sp_le P) m d v w s))) := fun m => by
  induction m with
  | zero =>
    intro d v w g s hd hK hwn h0 hE hw hv hq0
    rcases hs : s with _ | ⟨b, w0⟩
    · rw [← hs]
      exact mb_beA X g (by omega) hq5 hK ht9 hP hwn h0 hE hw hq0 hs
    · by_cases hpr : sp_ey P w d ≤ b
      · refine (mb_beC X g (v := v) (by omega) hq5 hK ht9 hP hwn h0 hE hw hq0 hs hpr).mono (fun r g' q1 => ?_)
        obtain ⟨e1, rfl⟩ := q1
        refine ⟨e1, sp_dm.rf, ?_⟩
        rw [show sp_go n K T P (sp_le P) 0 d v w (some (b, w0)) = some (b, w0) from if_neg (by show ¬ b < sp_ey P w d; omega), ← hs]
        exact hq0
      · rw [← hs]
        exact mb_beB X g (by omega) hq5 hK ht9 hP hwn h0 hE hw hq0 hs hpr
  | succ m ih =>
    intro d v w g s hd hK hwn h0 hE hw hv hq0
    exact mb_beS hd hq5 hK ht9 hP hwn h0 hE hw hv hq0 (fun v' w' g' s' a1 a2 a3 a4 a5 a6 a7 => ih (d + 1) v' w' g' s' (by omega) a1 a2 a3 a4 a5 a6 a7)
theorem sp_p0 (x : Int32) : x + nI 0 = x := by
  show x + 0 = x
  exact Int32.add_zero x
set_option maxRecDepth 20000 in
theorem mc_best_go (X : sp_X) (g : sp_G) {q : Nat} (hq5 : q ≤ 5) {t : Nat} (ht : t < 6) {n : Nat} (hn : g.1 64 11 = nI n) (hn0 : 0 < n) (hb : n ≤ 6) {K T P v : Nat → Int32} (hK : sp_KM n K T P g) (hP : sp_p9 n 9 P) (hv : sp_f8 g 0 v) : sp_Ct X (q + 7) 204 [.ref 64, .int (nI q), .int (nI t)] g (sp_Ri (fun x g' => sp_gM 83 q t g g' (sp_go n K T P (sp_le P) q 0 v (fun _ => 0) none) x)) := by
  refine sp_walkN (n := 3) sq_p_204 sq_l_204 (Nat.le_of_ble_eq_true rfl) (fun ac hA => ?_)
  show sp_Ev X ac 204 0 [.ref 64, .int (nI q), .int (nI t)] [] g
  refine sr_iload_n hA si_204_0 rfl ?_
  refine sr_iconst (v := nI 0) hA si_204_1 (by decide) ?_
  refine sr_iconst (v := nI 5) hA si_204_2 (by decide) ?_
  refine sr_SFi (as := [.int (nI q), .int (nI 0), .int (nI 5)]) (st := []) hA si_204_3 ss_135 sk_204_83 (mc_inN X g (by omega) (by omega) (by omega)) (by omega) rfl rfl (Nat.le_of_ble_eq_true rfl) ?_
  refine sr_if_eqN (tgt := 16) hA si_204_6 (by decide) (by omega) (fun c1 => absurd c1 (by omega)) (fun c1 => ?_)
  refine sr_iload_n hA si_204_9 rfl ?_
  refine sr_SFi (as := [.int (nI t)]) (st := []) hA si_204_10 ss_140 sk_204_93 (mc_isRow1 X g (by omega)) (by omega) rfl rfl (Nat.le_of_ble_eq_true rfl) ?_
  refine sr_if_neN (tgt := 18) hA si_204_13 (by decide) (by omega) (fun c2 => ?_) (fun c2 => absurd c2 (by omega))
  refine sr_aload_n hA si_204_18 rfl ?_
  refine sr_getIv (v := nI n) hA si_204_19 sf_204_142 (by decide) (by decide) rfl (by decide) hn ?_
  refine sr_if_neN (tgt := 28) hA si_204_22 (by decide) (by omega) (fun c3 => ?_) (fun c3 => absurd c3 (by omega))
  refine sr_aload_n hA si_204_28 rfl ?_
  refine sr_iconst (v := (-1)) hA si_204_29 (by decide) ?_
  refine sr_putI hA si_204_30 sf_204_238 rfl rfl (by decide) (by decide) rfl rfl ?_
  refine sr_aload_n hA si_204_33 rfl ?_
  refine sr_iconst (v := nI 0) hA si_204_34 (by decide) ?_
  refine sr_iload_n hA si_204_35 rfl ?_
  have am : sp_ma g (sp_wI g 64 31 (-1)) := sp_ma.rf.wI (by omega)
  refine sr_VRv (c := 64) (ci := 8) (as := [.int (nI 0), .int (nI q)]) (st := []) hA si_204_36 sv_205 sk_204_241 (mb_be X (x0 := g.1 75 8) hq5 (show 9 ≤ 9 by omega) hP q 0 v (fun _ => 0) (sp_wI g 64 31 (-1)) none (by omega) (hK.ma am) (fun j hj => absurd hj (by omega)) rfl (sp_p0 _).symm (fun j hj => absurd hj (by omega)) (fun j hj => hv j hj) ⟨fun _ => rfl, fun b w h => (by cases h)⟩) (by omega) rfl (by decide) (by decide) rfl sq_c_205 rfl (Nat.le_of_ble_eq_true rfl) (fun g1 q1 => ?_)
  obtain ⟨S, eS⟩ : ∃ z, z = (sp_go n K T P (sp_le P) q 0 v (fun _ => 0) none) := ⟨_, rfl⟩
  rw [← eS] at q1
  obtain ⟨hl1, hqb⟩ := q1
  have am1 := am.tr hl1.ma
  rcases hs : S with _ | ⟨b, w1⟩
  · have h6 := hqb.1 hs
    refine sr_aload_n hA si_204_39 rfl ?_
    refine sr_getIv (v := (-1)) hA si_204_40 sf_204_238 (by decide) (by decide) rfl (by decide) h6 ?_
    refine sr_if_ge (tgt := 49) hA si_204_43 (by decide) (fun c4 => absurd c4 (sp_m4 (by decide))) (fun c4 => ?_)
    refine sr_bipush (v := (-9)) hA si_204_46 (by decide) ?_
    exact sr_iretR hA si_204_48 sq_r_204 (by rw [← eS]; exact ⟨fun _ => ⟨rfl, am1⟩, fun b w h => (by rw [hs] at h; cases h)⟩)
  · obtain ⟨hb100, h6b, h83⟩ := hqb.2 b w1 hs
    refine sr_aload_n hA si_204_39 rfl ?_
    refine sr_getIv (v := nI b) hA si_204_40 sf_204_238 (by decide) (by decide) rfl (by decide) h6b ?_
    refine sr_if_geN (tgt := 49) hA si_204_43 (by decide) (by omega) ?_
    refine sr_aload_n hA si_204_49 rfl ?_
    refine sr_iload_n hA si_204_50 rfl ?_
    refine sr_aload_n hA si_204_51 rfl ?_
    refine sr_getR (r := 83) hA si_204_52 sf_204_70 (by decide) (by decide) rfl rfl rfl ?_
    refine sr_iload_n hA si_204_55 rfl ?_
    refine sr_VRv (c := 64) (ci := 8) (as := [.int (nI t), .ref 83, .int (nI q)]) (st := []) hA si_204_56 sv_197 sk_204_221 (mb_lay83 X g1 (r := t) (q := q) ht (by omega)) (by omega) rfl (by decide) (by decide) rfl sq_c_197 rfl (Nat.le_of_ble_eq_true rfl) (fun g4 q4 => ?_)
    refine sr_aload_n hA si_204_59 rfl ?_
    refine sr_getIv (v := nI b) hA si_204_60 sf_204_238 (by decide) (by decide) rfl (by decide) ((congrFun (q4.1 64 (by decide) (by decide)) 31).trans h6b) ?_
    exact sr_iretR hA si_204_63 sq_r_204 (by rw [← eS]; exact ⟨fun h => (by rw [hs] at h; cases h), fun b w h => (by rw [hs] at h; cases h; exact ⟨rfl, fun h => (by cases h), fun w h => (by cases h; exact ⟨g1, am1, q4, h83⟩)⟩)⟩)
theorem pr_best {X : sp_X} {g : sp_G} (h : sp_Rel g) (q t : Int32) : sp_Pi X 89 204 [.int q, .int t] g := by
  obtain ⟨hF, hR, hT, n, dm, hK, hS, hP⟩ := id h
  obtain ⟨k1, k2, k3, k4⟩ := id hK
  have hS1 := hS.1
  rcases sp_cls q with hq | ⟨q, hqb, rfl⟩
  · exact sp_pF (xc_best_a X g hq t) (mc_best_a X g hq t) (by omega) (by omega) h
  by_cases hq : q ≤ 5
  rotate_left
  · exact sp_pF (xc_best_b X g (by omega) hqb t) (mc_best_b X g (by omega) hqb t) (by omega) (by omega) h
  rcases sp_cls t with ht | ⟨t, htb, rfl⟩
  · exact sp_pF (xc_best_c X g hq ht) (mc_best_c X g hq ht) (by omega) (by omega) h
  by_cases ht : t < 6
  rotate_left
  · exact sp_pF (xc_best_d X g hq (by omega) htb) (mc_best_d X g hq (by omega) htb) (by omega) (by omega) h
  rcases sp_n0 hK with ⟨z1, z2⟩ | ⟨hn0, -, -⟩
  · exact sp_pF (xc_best_s X g hq ht z1) (mc_best_s X g hq ht z2) (by omega) (by omega) h
  have hP9 : sp_p9 n 9 (g.1 73) := fun i hi => (k4 i hi).2.2.2
  refine ⟨q + 8, _, by omega, xc_best_go X g hq ht k2 hn0 k1 (sp_Rel.KX hK) hP9 hS.hS.d8 (sp_nowk hS) (by omega) (by omega), fun v g1 q1 => ?_⟩
  have o := sp_gX.o q1 ht
  have hKM : sp_KM n (g.1 71) (g.1 72) (g.1 73) g1 := by
    have := sp_Rel.KM hK
    unfold sp_KM at this ⊢
    rw [o 64 (by omega), o 71 (by omega), o 72 (by omega), o 73 (by omega)]
    exact this
  have hu1 : sp_f8 g1 0 (g.1 75) := fun j hj => by
    show g1.1 75 (9 * 0 + j) = _
    rw [o 75 (by omega), show 9 * 0 + j = j by omega]
  refine ⟨q + 7, _, by omega, mc_best_go X g1 hq ht hKM.1 hn0 k1 hKM hP9 hu1, fun v2 g2 q2 => ?_⟩
  exact h.ge ht (by omega) q1 q2
