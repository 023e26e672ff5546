/-! the most keys one behind the other, the reference's -/
def sp_qk (g : sp_G) (s : sp_Ms) : Prop := g.1 64 30 = nI s.1 ∧ ∀ j, j < s.1 → g.1 83 j = nI (s.2 j)
theorem sp_qk.sm {F F' : Nat} {g g1 : sp_G} {s : sp_Ms} {u : Nat → Int32} {p : Int32} {d i : Nat} (h : sp_qk g s) (k : sp_sm2 F F' g g1 u p) : sp_qk (sp_wI g1 82 d (nI i)) s := by
  have e64 : (sp_wI g1 82 d (nI i)).1 64 = g.1 64 := by rw [sp_wI_ne (by decide), k.1 64 (by decide)]
  have e83 : (sp_wI g1 82 d (nI i)).1 83 = g.1 83 := by rw [sp_wI_ne (by decide), k.1 83 (by decide)]
  unfold sp_qk
  rw [e64, e83]
  exact h
theorem sp_qkL {d : Nat} {g g1 : sp_G} {w : Nat → Nat} (q1 : sp_tt (sp_wI g 64 30 (nI d)) g1 d) (hw : sp_tw g d w) : sp_qk g1 (d, w) := ⟨by rw [q1.1 64 (by decide)]; rfl, fun j hj => (q1.2.2 j hj).trans (hw j hj)⟩
set_option maxRecDepth 20000 in
theorem ml_mo {X : sp_X} {ac : sp_Ac} {g : sp_G} {n d m S : Nat} {K T P v : Nat → Int32} {w : Nat → Nat} {s : sp_Ms} (hd : d + (m + 1) = n) (hS : S < 2 ^ n) (hSd : sp_pc S = d) (hK : sp_KM n K T P g) (hv : sp_f8 g d v) (hw : sp_tw g d w) (hsn : s.1 ≤ n) {R0 : sp_Ms} (hR0 : sp_ms n K T P m d S v w s n = R0) (IH : ∀ (S : Nat) (v : Nat → Int32) (w : Nat → Nat) (g : sp_G) (s : sp_Ms), S < 2 ^ n → sp_pc S = d + 1 → sp_KM n K T P g → sp_f8 g (d + 1) v → sp_tw g (d + 1) w → sp_qk g s → s.1 ≤ n → sp_Ct X (m + 5) 201 [.ref 64, .int (nI (d + 1)), .int (nI S)] g (sp_Rv (fun g' => sp_dm (d + 1) (d + 1) g g' ∧ sp_qk g' (sp_mo n K T P m (d + 1) S v w s)))) (hA : sp_Act X 201 (m + 6) (sp_Rv (fun g' => sp_dm d d g g' ∧ sp_qk g' R0)) ac) : ∀ (k : Nat) (i : Nat) (gg : sp_G) (t : sp_Ms), i + k = n → sp_dm d d g gg → sp_qk gg t → t = sp_ms n K T P m d S v w s i → sp_Ev X ac 201 20 [.ref 64, .int (nI d), .int (nI S), .int (nI i)] [] gg := by
  intro k
  induction k with
  | zero =>
    intro i gg t h0_ h1_ h2_ h3_
    have hn6 := hK.2.1
    refine sr_iload_n hA si_201_20 rfl ?_
    refine sr_aload_n hA si_201_21 rfl ?_
    refine sr_getIv (v := nI n) hA si_201_22 sf_201_142 (by decide) (by decide) rfl (by decide) (hK.ma h1_.ma).1 ?_
    refine sr_icmp_geN (tgt := 86) hA si_201_25 (by decide) (by omega) (by omega) (fun c1 => ?_) (fun c1 => absurd c1 (by omega))
    exact sr_vretR hA si_201_86 sq_r_201 ⟨h1_, (by rw [show R0 = t from (by rw [← hR0, h3_, show i = n by omega])]; exact h2_)⟩
  | succ k ih =>
    intro i gg t h0_ h1_ h2_ h3_
    have hn6 := hK.2.1
    have hS64 := sp_bo4 hn6 hS
    have htn : t.1 ≤ n := by rw [h3_]; exact sp_ms_le hd hsn i
    rcases sp_bo5 S i with hbt | hbt
    · refine sr_iload_n hA si_201_20 rfl ?_
      refine sr_aload_n hA si_201_21 rfl ?_
      refine sr_getIv (v := nI n) hA si_201_22 sf_201_142 (by decide) (by decide) rfl (by decide) (hK.ma h1_.ma).1 ?_
      refine sr_icmp_geN (tgt := 86) hA si_201_25 (by decide) (by omega) (by omega) (fun c1 => absurd c1 (by omega)) (fun c1 => ?_)
      refine sr_iload_n hA si_201_28 rfl ?_
      refine sr_iload_n hA si_201_29 rfl ?_
      refine sr_SFi (as := [.int (nI S), .int (nI i)]) (st := []) hA si_201_30 ss_203 sk_201_232 (mc_has0 X gg (t := S) (k := i) hS64 (by omega) hbt) (by omega) rfl rfl (Nat.le_of_ble_eq_true rfl) ?_
      refine sr_if_neN (tgt := 80) hA si_201_33 (by decide) (by omega) (fun c2 => absurd c2 (by omega)) (fun c2 => ?_)
      refine sr_aload_n hA si_201_36 rfl ?_
      refine sr_iload_n hA si_201_37 rfl ?_
      refine sr_iload_n hA si_201_38 rfl ?_
      by_cases hcb : sp_cb (K i) (T i) (v i) = true
      · refine sr_VFi (c := 64) (ci := 8) (as := [.int (nI d), .int (nI i)]) (st := []) hA si_201_39 sv_165 sk_201_155 (mb_can1 X gg (f := d) (i := i) (by omega) (hK.ma h1_.ma) (by omega) (hv.dm h1_ (by omega)) hcb) (by omega) rfl (by decide) (by decide) rfl sq_c_165 rfl (Nat.le_of_ble_eq_true rfl) ?_
        refine sr_if_eqN (tgt := 80) hA si_201_42 (by decide) (by omega) (fun c3 => absurd c3 (by omega)) (fun c3 => ?_)
        refine sr_aload_n hA si_201_45 rfl ?_
        refine sr_iload_n hA si_201_46 rfl ?_
        refine sr_iload_n hA si_201_47 rfl ?_
        refine sr_iconst (v := nI 1) hA si_201_48 (by decide) ?_
        refine sr_iaddN hA si_201_49 ?_
        refine sr_VRv (c := 64) (ci := 8) (as := [.int (nI d), .int (nI (d + 1))]) (st := []) hA si_201_50 sv_192 sk_201_212 (mb_copyTo X gg (f := d) (t := d + 1) (by omega) (by omega) (by omega) (hv.dm h1_ (by omega))) (by omega) rfl (by decide) (by decide) rfl sq_c_192 rfl (Nat.le_of_ble_eq_true rfl) (fun g1 q1 => ?_)
        refine sr_aload_n hA si_201_53 rfl ?_
        refine sr_iload_n hA si_201_54 rfl ?_
        refine sr_iconst (v := nI 1) hA si_201_55 (by decide) ?_
        refine sr_iaddN hA si_201_56 ?_
        refine sr_iload_n hA si_201_57 rfl ?_
        refine sr_VRv (c := 64) (ci := 8) (as := [.int (nI (d + 1)), .int (nI i)]) (st := []) hA si_201_58 sv_175 sk_201_192 (mb_plays X g1 (f := d + 1) (i := i) (by omega) ((hK.ma h1_.ma).ma (sp_ma.rf.fx q1.1 (by omega))) (by omega) q1.2.1) (by omega) rfl (by decide) (by decide) rfl sq_c_175 rfl (Nat.le_of_ble_eq_true rfl) (fun g2 q2 => ?_)
        have qs := sp_sm2.mk (F := d) q1 q2
        have hl1 := h1_.tr (qs.dm (d := d) (by omega))
        obtain ⟨hS2, hpc2⟩ := sp_bo2 n hn6 i (by omega) S hS hbt
        refine sr_aload_n hA si_201_61 rfl ?_
        refine sr_getR (r := 82) hA si_201_62 sf_201_67 (by decide) (by decide) rfl rfl rfl ?_
        refine sr_iload_n hA si_201_65 rfl ?_
        refine sr_iload_n hA si_201_66 rfl ?_
        refine sr_iastN (n := 12) hA si_201_67 (by decide) rfl rfl (by omega) (by decide) ?_
        refine sr_aload_n hA si_201_68 rfl ?_
        refine sr_iload_n hA si_201_69 rfl ?_
        refine sr_iconst (v := nI 1) hA si_201_70 (by decide) ?_
        refine sr_iaddN hA si_201_71 ?_
        refine sr_iload_n hA si_201_72 rfl ?_
        refine sr_iconst (v := nI 1) hA si_201_73 (by decide) ?_
        refine sr_iload_n hA si_201_74 rfl ?_
        refine sr_ishl hA si_201_75 ?_
        refine sr_ior hA si_201_76 ?_
        rw [sp_bo1 i (by omega) S hS64 hbt]
        refine sr_VRv (c := 64) (ci := 8) (as := [.int (nI (d + 1)), .int (nI (S + 2 ^ i))]) (st := []) hA si_201_77 sv_201 sk_201_235 (IH (S + 2 ^ i) (sp_pl n K P v i) (sp_un w d i) (sp_wI g2 82 d (nI i)) t hS2 (by omega) (hK.ma (hl1.wt (Nat.le_refl _)).ma) qs.2.2.2.1 ((hw.dm h1_).un qs) (h2_.sm qs) (by omega)) (by omega) rfl (by decide) (by decide) rfl sq_c_201 rfl (Nat.le_of_ble_eq_true rfl) (fun g3 q3 => ?_)
        refine sr_iincN (x := i) (y := 1) (ls1 := [.ref 64, .int (nI d), .int (nI S), .int (nI (i + 1))]) hA si_201_80 rfl rfl (by rw [sq_l_201]; decide) rfl ?_
        refine sr_goto (tgt := 20) hA si_201_83 (by decide) ?_
        exact ih (i + 1) g3 _ (by omega) ((hl1.wt (Nat.le_refl _)).tr (q3.1.lo (by omega) (by omega))) q3.2 (by rw [sp_ms1 hbt hcb, h3_])
      · refine sr_VFi (c := 64) (ci := 8) (as := [.int (nI d), .int (nI i)]) (st := []) hA si_201_39 sv_165 sk_201_155 (mb_can0 X gg (f := d) (i := i) (by omega) (hK.ma h1_.ma) (by omega) (hv.dm h1_ (by omega)) hcb) (by omega) rfl (by decide) (by decide) rfl sq_c_165 rfl (Nat.le_of_ble_eq_true rfl) ?_
        refine sr_if_eqN (tgt := 80) hA si_201_42 (by decide) (by omega) (fun c4 => ?_) (fun c4 => absurd c4 (by omega))
        refine sr_iincN (x := i) (y := 1) (ls1 := [.ref 64, .int (nI d), .int (nI S), .int (nI (i + 1))]) hA si_201_80 rfl rfl (by rw [sq_l_201]; decide) rfl ?_
        refine sr_goto (tgt := 20) hA si_201_83 (by decide) ?_
        exact ih (i + 1) gg t (by omega) h1_ h2_ (by rw [sp_ms0 (fun q => hcb q.2)]; exact h3_)
    · refine sr_iload_n hA si_201_20 rfl ?_
      refine sr_aload_n hA si_201_21 rfl ?_
      refine sr_getIv (v := nI n) hA si_201_22 sf_201_142 (by decide) (by decide) rfl (by decide) (hK.ma h1_.ma).1 ?_
      refine sr_icmp_geN (tgt := 86) hA si_201_25 (by decide) (by omega) (by omega) (fun c1 => absurd c1 (by omega)) (fun c1 => ?_)
      refine sr_iload_n hA si_201_28 rfl ?_
      refine sr_iload_n hA si_201_29 rfl ?_
      refine sr_SFi (as := [.int (nI S), .int (nI i)]) (st := []) hA si_201_30 ss_203 sk_201_232 (mc_has1 X gg (t := S) (k := i) hS64 (by omega) hbt) (by omega) rfl rfl (Nat.le_of_ble_eq_true rfl) ?_
      refine sr_if_neN (tgt := 80) hA si_201_33 (by decide) (by omega) (fun c2 => ?_) (fun c2 => absurd c2 (by omega))
      refine sr_iincN (x := i) (y := 1) (ls1 := [.ref 64, .int (nI d), .int (nI S), .int (nI (i + 1))]) hA si_201_80 rfl rfl (by rw [sq_l_201]; decide) rfl ?_
      refine sr_goto (tgt := 20) hA si_201_83 (by decide) ?_
      exact ih (i + 1) gg t (by omega) h1_ h2_ (by rw [sp_ms0 (by omega)]; exact h3_)
set_option maxRecDepth 20000 in
theorem ml_moZ {X : sp_X} {ac : sp_Ac} {g : sp_G} {n d S : Nat} {K T P : Nat → Int32} {s : sp_Ms} (hd : d = n) (hS : S < 2 ^ n) (hSd : sp_pc S = d) (hK : sp_KM n K T P g) (hsn : s.1 ≤ n) (hA : sp_Act X 201 5 (sp_Rv (fun g' => sp_dm d d g g' ∧ sp_qk g' s)) ac) : ∀ (k : Nat) (i : Nat) (gg : sp_G), i + k = n → sp_dm d d g gg → sp_qk gg s → sp_Ev X ac 201 20 [.ref 64, .int (nI d), .int (nI S), .int (nI i)] [] gg := by
  intro k
  induction k with
  | zero =>
    intro i gg h0_ h1_ h2_
    have hn6 := hK.2.1
    refine sr_iload_n hA si_201_20 rfl ?_
    refine sr_aload_n hA si_201_21 rfl ?_
    refine sr_getIv (v := nI n) hA si_201_22 sf_201_142 (by decide) (by decide) rfl (by decide) (hK.ma h1_.ma).1 ?_
    refine sr_icmp_geN (tgt := 86) hA si_201_25 (by decide) (by omega) (by omega) (fun c1 => ?_) (fun c1 => absurd c1 (by omega))
    exact sr_vretR hA si_201_86 sq_r_201 ⟨h1_, h2_⟩
  | succ k ih =>
    intro i gg h0_ h1_ h2_
    have hn6 := hK.2.1
    have hS64 := sp_bo4 hn6 hS
    have hbt : S / 2 ^ i % 2 = 1 := sp_bo3 n hn6 S hS (by omega) i (by omega)
    refine sr_iload_n hA si_201_20 rfl ?_
    refine sr_aload_n hA si_201_21 rfl ?_
    refine sr_getIv (v := nI n) hA si_201_22 sf_201_142 (by decide) (by decide) rfl (by decide) (hK.ma h1_.ma).1 ?_
    refine sr_icmp_geN (tgt := 86) hA si_201_25 (by decide) (by omega) (by omega) (fun c1 => absurd c1 (by omega)) (fun c1 => ?_)
    refine sr_iload_n hA si_201_28 rfl ?_
    refine sr_iload_n hA si_201_29 rfl ?_
    refine sr_SFi (as := [.int (nI S), .int (nI i)]) (st := []) hA si_201_30 ss_203 sk_201_232 (mc_has1 X gg (t := S) (k := i) hS64 (by omega) hbt) (by omega) rfl rfl (Nat.le_of_ble_eq_true rfl) ?_
    refine sr_if_neN (tgt := 80) hA si_201_33 (by decide) (by omega) (fun c2 => ?_) (fun c2 => absurd c2 (by omega))
    refine sr_iincN (x := i) (y := 1) (ls1 := [.ref 64, .int (nI d), .int (nI S), .int (nI (i + 1))]) hA si_201_80 rfl rfl (by rw [sq_l_201]; decide) rfl ?_
    refine sr_goto (tgt := 20) hA si_201_83 (by decide) ?_
    exact ih (i + 1) gg (by omega) h1_ h2_
set_option maxRecDepth 20000 in
theorem mb_moS {X : sp_X} {g : sp_G} {n d m S : Nat} {K T P v : Nat → Int32} {w : Nat → Nat} {s : sp_Ms} (hd : d + (m + 1) = n) (hS : S < 2 ^ n) (hSd : sp_pc S = d) (hK : sp_KM n K T P g) (hv : sp_f8 g d v) (hw : sp_tw g d w) (hsn : s.1 ≤ n) (hq0 : sp_qk g s) (IH : ∀ (S : Nat) (v : Nat → Int32) (w : Nat → Nat) (g : sp_G) (s : sp_Ms), S < 2 ^ n → sp_pc S = d + 1 → sp_KM n K T P g → sp_f8 g (d + 1) v → sp_tw g (d + 1) w → sp_qk g s → s.1 ≤ n → sp_Ct X (m + 5) 201 [.ref 64, .int (nI (d + 1)), .int (nI S)] g (sp_Rv (fun g' => sp_dm (d + 1) (d + 1) g g' ∧ sp_qk g' (sp_mo n K T P m (d + 1) S v w s)))) : sp_Ct X (m + 6) 201 [.ref 64, .int (nI d), .int (nI S)] g (sp_Rv (fun g' => sp_dm d d g g' ∧ sp_qk g' (sp_mo n K T P (m + 1) d S v w s))) := by
  have hn6 := hK.2.1
  have hS64 := sp_bo4 hn6 hS
  refine sp_walkN (n := 4) sq_p_201 sq_l_201 (Nat.le_of_ble_eq_true rfl) (fun ac hA => ?_)
  show sp_Ev X ac 201 0 [.ref 64, .int (nI d), .int (nI S), .null] [] g
  refine sr_iload_n hA si_201_0 rfl ?_
  refine sr_aload_n hA si_201_1 rfl ?_
  refine sr_getIv (v := nI s.1) hA si_201_2 sf_201_225 (by decide) (by decide) rfl (by decide) hq0.1 ?_
  refine sr_icmp_leN (tgt := 18) hA si_201_5 (by decide) (by omega) (by omega) (fun c1 => ?_) (fun c1 => ?_)
  · refine sr_iconst (v := nI 0) hA si_201_18 (by decide) ?_
    refine sr_istore_n (ls1 := [.ref 64, .int (nI d), .int (nI S), .int (nI 0)]) hA si_201_19 rfl (by rw [sq_l_201]; decide) rfl ?_
    have e9 : sp_u1 d w s = s := if_neg (by omega)
    exact ml_mo (s := s) hd hS hSd hK hv hw hsn (by show _ = sp_kfo _ (sp_u1 d w s) n; rw [e9]; rfl) IH hA n 0 g s (by omega) sp_dm.rf hq0 rfl
  · refine sr_aload_n hA si_201_8 rfl ?_
    refine sr_iload_n hA si_201_9 rfl ?_
    refine sr_putI hA si_201_10 sf_201_225 rfl rfl (by decide) (by decide) rfl rfl ?_
    refine sr_aload_n hA si_201_13 rfl ?_
    refine sr_iload_n hA si_201_14 rfl ?_
    refine sr_VRv (c := 64) (ci := 8) (as := [.int (nI d)]) (st := []) hA si_201_15 sv_202 sk_201_228 (mb_tt X (sp_wI g 64 30 (nI d)) (q := d) (by omega)) (by omega) rfl (by decide) (by decide) rfl sq_c_202 rfl (Nat.le_of_ble_eq_true rfl) (fun g1 q1 => ?_)
    have hl9 : sp_dm d d g g1 := (sp_dm.rf.wf (i := 30) (x := nI d) (by omega)).tr q1.dm
    refine sr_iconst (v := nI 0) hA si_201_18 (by decide) ?_
    refine sr_istore_n (ls1 := [.ref 64, .int (nI d), .int (nI S), .int (nI 0)]) hA si_201_19 rfl (by rw [sq_l_201]; decide) rfl ?_
    have e9 : sp_u1 d w s = (d, w) := if_pos (by omega)
    exact ml_mo (s := (d, w)) hd hS hSd hK hv hw (by show d ≤ n; omega) (by show _ = sp_kfo _ (sp_u1 d w s) n; rw [e9]; rfl) IH hA n 0 g1 (d, w) (by omega) hl9 (sp_qkL q1 hw) rfl
set_option maxRecDepth 20000 in
theorem mb_moA (X : sp_X) (g : sp_G) {n d S : Nat} {K T P : Nat → Int32} {s : sp_Ms} (hd : d = n) (hS : S < 2 ^ n) (hSd : sp_pc S = d) (hK : sp_KM n K T P g) (hsn : s.1 ≤ n) {v : Nat → Int32} {w : Nat → Nat} (hw : sp_tw g d w) (hq0 : sp_qk g s) : sp_Ct X 5 201 [.ref 64, .int (nI d), .int (nI S)] g (sp_Rv (fun g' => sp_dm d d g g' ∧ sp_qk g' (sp_mo n K T P 0 d S v w s))) := by
  have hn6 := hK.2.1
  have hS64 := sp_bo4 hn6 hS
  refine sp_walkN (n := 4) sq_p_201 sq_l_201 (Nat.le_of_ble_eq_true rfl) (fun ac hA => ?_)
  show sp_Ev X ac 201 0 [.ref 64, .int (nI d), .int (nI S), .null] [] g
  refine sr_iload_n hA si_201_0 rfl ?_
  refine sr_aload_n hA si_201_1 rfl ?_
  refine sr_getIv (v := nI s.1) hA si_201_2 sf_201_225 (by decide) (by decide) rfl (by decide) hq0.1 ?_
  refine sr_icmp_leN (tgt := 18) hA si_201_5 (by decide) (by omega) (by omega) (fun c1 => ?_) (fun c1 => ?_)
  · refine sr_iconst (v := nI 0) hA si_201_18 (by decide) ?_
    refine sr_istore_n (ls1 := [.ref 64, .int (nI d), .int (nI S), .int (nI 0)]) hA si_201_19 rfl (by rw [sq_l_201]; decide) rfl ?_
    have e9 : sp_mo n K T P 0 d S v w s = s := if_neg (by omega)
    rw [e9] at hA
    exact ml_moZ hd hS hSd hK hsn hA n 0 g (by omega) sp_dm.rf hq0
  · refine sr_aload_n hA si_201_8 rfl ?_
    refine sr_iload_n hA si_201_9 rfl ?_
    refine sr_putI hA si_201_10 sf_201_225 rfl rfl (by decide) (by decide) rfl rfl ?_
    refine sr_aload_n hA si_201_13 rfl ?_
    refine sr_iload_n hA si_201_14 rfl ?_
    refine sr_VRv (c := 64) (ci := 8) (as := [.int (nI d)]) (st := []) hA si_201_15 sv_202 sk_201_228 (mb_tt X (sp_wI g 64 30 (nI d)) (q := d) (by omega)) (by omega) rfl (by decide) (by decide) rfl sq_c_202 rfl (Nat.le_of_ble_eq_true rfl) (fun g1 q1 => ?_)
    have hl9 : sp_dm d d g g1 := (sp_dm.rf.wf (i := 30) (x := nI d) (by omega)).tr q1.dm
    refine sr_iconst (v := nI 0) hA si_201_18 (by decide) ?_
    refine sr_istore_n (ls1 := [.ref 64, .int (nI d), .int (nI S), .int (nI 0)]) hA si_201_19 rfl (by rw [sq_l_201]; decide) rfl ?_
    have e9 : sp_mo n K T P 0 d S v w s = (d, w) := if_pos (by omega)
    rw [e9] at hA
    exact ml_moZ (s := (d, w)) hd hS hSd hK (by show d ≤ n; omega) hA n 0 g1 (by omega) hl9 (sp_qkL q1 hw)
theorem mb_mo (X : sp_X) {n : Nat} {K T P : Nat → Int32} : ∀ (m d S : Nat) (v : Nat → Int32) (w : Nat → Nat) (g : sp_G) (s : sp_Ms), d + m = n → S < 2 ^ n → sp_pc S = d → sp_KM n K T P g → sp_f8 g d v → sp_tw g d w → sp_qk g s → s.1 ≤ n → sp_Ct X (m + 5) 201 [.ref 64, .int (nI d), .int (nI S)] g (sp_Rv (fun g' => sp_dm d d g g' ∧ sp_qk g' (sp_mo n K T P m d S v w s)))
  | 0, d, S, v, w, g, s, hd, hS, hSd, hK, hv, hw, hq0, hsn => mb_moA X g (by omega) hS hSd hK hsn hw hq0
  | m + 1, d, S, v, w, g, s, hd, hS, hSd, hK, hv, hw, hq0, hsn => mb_moS hd hS hSd hK hv hw hsn hq0 (fun S' v' w' g' s' a1 a2 a3 a4 a5 a6 a7 => mb_mo X m (d + 1) S' v' w' g' s' (by omega) a1 a2 a3 a4 a5 a6 a7)
set_option maxRecDepth 20000 in
theorem mc_most_go (X : sp_X) (g : sp_G) {r : Nat} (hr : r < 6) {n : Nat} (hn : g.1 64 11 = nI n) (hn0 : 0 < n) (hb : n ≤ 6) {K T P v : Nat → Int32} (hK : sp_KM n K T P g) (hv : sp_f8 g 0 v) : sp_Ct X (n + 7) 200 [.ref 64, .int (nI r)] g (sp_Ri (fun x g' => x = nI (sp_mo n K T P n 0 0 v (fun _ => 0) (0, fun _ => 0)).1 ∧ sp_bqM 83 (sp_mo n K T P n 0 0 v (fun _ => 0) (0, fun _ => 0)).1 r g g' (some (sp_mo n K T P n 0 0 v (fun _ => 0) (0, fun _ => 0)).2))) := by
  refine sp_walkN (n := 2) sq_p_200 sq_l_200 (Nat.le_of_ble_eq_true rfl) (fun ac hA => ?_)
  show sp_Ev X ac 200 0 [.ref 64, .int (nI r)] [] g
  refine sr_iload_n hA si_200_0 rfl ?_
  refine sr_SFi (as := [.int (nI r)]) (st := []) hA si_200_1 ss_140 sk_200_93 (mc_isRow1 X g (by omega)) (by omega) rfl rfl (Nat.le_of_ble_eq_true rfl) ?_
  refine sr_if_neN (tgt := 9) hA si_200_4 (by decide) (by omega) (fun c1 => ?_) (fun c1 => absurd c1 (by omega))
  refine sr_aload_n hA si_200_9 rfl ?_
  refine sr_getIv (v := nI n) hA si_200_10 sf_200_142 (by decide) (by decide) rfl (by decide) hn ?_
  refine sr_if_neN (tgt := 19) hA si_200_13 (by decide) (by omega) (fun c2 => ?_) (fun c2 => absurd c2 (by omega))
  refine sr_aload_n hA si_200_19 rfl ?_
  refine sr_iconst (v := nI 0) hA si_200_20 (by decide) ?_
  refine sr_putI hA si_200_21 sf_200_225 rfl rfl (by decide) (by decide) rfl rfl ?_
  refine sr_aload_n hA si_200_24 rfl ?_
  refine sr_iconst (v := nI 0) hA si_200_25 (by decide) ?_
  refine sr_iconst (v := nI 0) hA si_200_26 (by decide) ?_
  have am : sp_ma g (sp_wI g 64 30 (nI 0)) := sp_ma.rf.wI (by omega)
  refine sr_VRv (c := 64) (ci := 8) (as := [.int (nI 0), .int (nI 0)]) (st := []) hA si_200_27 sv_201 sk_200_235 (mb_mo X n 0 0 v (fun _ => 0) (sp_wI g 64 30 (nI 0)) (0, fun _ => 0) (by omega) (Nat.two_pow_pos n) rfl (hK.ma am) (fun j hj => hv j hj) (fun j hj => absurd hj (by omega)) ⟨rfl, fun j hj => absurd hj (Nat.not_lt_zero _)⟩ (Nat.zero_le _)) (by omega) rfl (by decide) (by decide) rfl sq_c_201 rfl (Nat.le_of_ble_eq_true rfl) (fun g1 q1 => ?_)
  obtain ⟨S, eS⟩ : ∃ z, z = (sp_mo n K T P n 0 0 v (fun _ => 0) (0, fun _ => 0)) := ⟨_, rfl⟩
  rw [← eS] at q1
  have hSn : S.1 ≤ n := by rw [eS]; exact sp_mo_le n 0 0 v _ _ (by omega) (Nat.zero_le _)
  obtain ⟨hl1, hqk⟩ := q1
  have am1 := am.tr hl1.ma
  refine sr_aload_n hA si_200_30 rfl ?_
  refine sr_iload_n hA si_200_31 rfl ?_
  refine sr_aload_n hA si_200_32 rfl ?_
  refine sr_getR (r := 83) hA si_200_33 sf_200_70 (by decide) (by decide) rfl rfl rfl ?_
  refine sr_aload_n hA si_200_36 rfl ?_
  refine sr_getIv (v := nI S.1) hA si_200_37 sf_200_225 (by decide) (by decide) rfl (by decide) hqk.1 ?_
  refine sr_VRv (c := 64) (ci := 8) (as := [.int (nI r), .ref 83, .int (nI S.1)]) (st := []) hA si_200_40 sv_197 sk_200_221 (mb_lay83 X g1 (r := r) (q := S.1) hr (by omega)) (by omega) rfl (by decide) (by decide) rfl sq_c_197 rfl (Nat.le_of_ble_eq_true rfl) (fun g4 q4 => ?_)
  refine sr_aload_n hA si_200_43 rfl ?_
  refine sr_getIv (v := nI S.1) hA si_200_44 sf_200_225 (by decide) (by decide) rfl (by decide) ((congrFun (q4.1 64 (by decide) (by decide)) 30).trans hqk.1) ?_
  exact sr_iretR hA si_200_47 sq_r_200 (by rw [← eS]; exact ⟨rfl, fun h => (by cases h), fun w h => (by cases h; exact ⟨g1, am1, q4, hqk.2⟩)⟩)
theorem pr_most {X : sp_X} {g : sp_G} (h : sp_Rel g) (r : Int32) : sp_Pi X 85 200 [.int r] g := by
  obtain ⟨hF, hR, hT, n, dm, hK, hS, hP⟩ := id h
  obtain ⟨k1, k2, k3, k4⟩ := id hK
  have hS1 := hS.1
  rcases sp_cls r with hr | ⟨r, hrb, rfl⟩
  · exact sp_pF (xc_most_a X g hr) (mc_most_a X g hr) (by omega) (by omega) h
  by_cases hr : r < 6
  rotate_left
  · exact sp_pF (xc_most_b X g (by omega) hrb) (mc_most_b X g (by omega) hrb) (by omega) (by omega) h
  rcases sp_n0 hK with ⟨z1, z2⟩ | ⟨hn0, -, -⟩
  · exact sp_pF (xc_most_s X g hr z1) (mc_most_s X g hr z2) (by omega) (by omega) h
  refine ⟨n + 8, _, by omega, xc_most_go X g hr k2 hn0 k1 (sp_Rel.KX hK) hS.hS.d8 (sp_nowk hS) (by omega) (by omega), fun v g1 q1 => ?_⟩
  obtain ⟨rfl, hbx⟩ := q1
  have hSn : (sp_mo n (g.1 71) (g.1 72) (g.1 73) n 0 0 (g.1 75) (fun _ => 0) (0, fun _ => 0)).1 ≤ n := sp_mo_le n 0 0 _ _ _ (by omega) (Nat.zero_le _)
  obtain ⟨S, eS⟩ : ∃ z', z' = sp_mo n (g.1 71) (g.1 72) (g.1 73) n 0 0 (g.1 75) (fun _ => 0) (0, fun _ => 0) := ⟨_, rfl⟩
  rw [← eS] at hbx hSn
  have o : ∀ c, 63 < c → g1.1 c = g.1 c := fun c hc => by
    obtain ⟨g3, a1, a2, -⟩ := hbx.2 S.2 rfl
    rw [a2.1 c (by omega) (by omega)]
    exact a1.i c (by unfold sp_xs; omega)
  have hKM : sp_KM n (g.1 71) (g.1 72) (g.1 73) g1 := by
    have := sp_Rel.KM hK
    unfold sp_KM at this ⊢
    rw [o 64 (by omega), o 71 (by omega), o 72 (by omega), o 73 (by omega)]
    exact this
  have hu1 : sp_f8 g1 0 (g.1 75) := fun j hj => by
    show g1.1 75 (9 * 0 + j) = _
    rw [o 75 (by omega), show 9 * 0 + j = j by omega]
  refine ⟨n + 7, _, by omega, mc_most_go X g1 hr hKM.1 hn0 k1 hKM hu1, fun v g2 q2 => ?_⟩
  obtain ⟨rfl, hbm⟩ := q2
  rw [← eS] at hbm
  exact ⟨rfl, h.bq hr (by omega) hbx hbm⟩
