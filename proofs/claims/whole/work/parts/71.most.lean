/-! the most keys one behind the other -/
theorem sp_bo1 : ∀ i, i < 6 → ∀ s, s < 64 → s / 2 ^ i % 2 = 0 → nI s ||| (nI 1 <<< (nI i &&& 31)) = nI (s + 2 ^ i) := by decide +kernel
theorem sp_bo2 : ∀ n, n ≤ 6 → ∀ i, i < n → ∀ s, s < 2 ^ n → s / 2 ^ i % 2 = 0 → s + 2 ^ i < 2 ^ n ∧ sp_pc (s + 2 ^ i) = sp_pc s + 1 := by decide +kernel
theorem sp_bo3 : ∀ n, n ≤ 6 → ∀ s, s < 2 ^ n → sp_pc s = n → ∀ i, i < n → s / 2 ^ i % 2 = 1 := by decide +kernel
theorem sp_bo4 {n s : Nat} (hn : n ≤ 6) (hs : s < 2 ^ n) : s < 64 := Nat.lt_of_lt_of_le hs (show 2 ^ n ≤ 2 ^ 6 from Nat.pow_le_pow_right (by omega) hn)
theorem sp_bo5 (s i : Nat) : s / 2 ^ i % 2 = 0 ∨ s / 2 ^ i % 2 = 1 := Nat.mod_two_eq_zero_or_one _
abbrev sp_Ms : Type := Nat × (Nat → Nat)
def sp_u1 (d : Nat) (w : Nat → Nat) (s : sp_Ms) : sp_Ms := if s.1 < d then (d, w) else s
def sp_mo (n : Nat) (K T P : Nat → Int32) : Nat → Nat → Nat → (Nat → Int32) → (Nat → Nat) → sp_Ms → sp_Ms
  | 0, d, _, _, w, s => sp_u1 d w s
  | m + 1, d, S, v, w, s => sp_kfo (fun i s => if S / 2 ^ i % 2 = 0 ∧ sp_cb (K i) (T i) (v i) = true then sp_mo n K T P m (d + 1) (S + 2 ^ i) (sp_pl n K P v i) (sp_un w d i) s else s) (sp_u1 d w s) n
def sp_ms (n : Nat) (K T P : Nat → Int32) (m d S : Nat) (v : Nat → Int32) (w : Nat → Nat) (s : sp_Ms) (i : Nat) : sp_Ms := sp_kfo (fun i s => if S / 2 ^ i % 2 = 0 ∧ sp_cb (K i) (T i) (v i) = true then sp_mo n K T P m (d + 1) (S + 2 ^ i) (sp_pl n K P v i) (sp_un w d i) s else s) s i
theorem sp_ms1 {n : Nat} {K T P : Nat → Int32} {m d S : Nat} {v : Nat → Int32} {w : Nat → Nat} {s : sp_Ms} {i : Nat} (h1 : S / 2 ^ i % 2 = 0) (h : sp_cb (K i) (T i) (v i) = true) : sp_ms n K T P m d S v w s (i + 1) = sp_mo n K T P m (d + 1) (S + 2 ^ i) (sp_pl n K P v i) (sp_un w d i) (sp_ms n K T P m d S v w s i) := if_pos ⟨h1, h⟩
theorem sp_ms0 {n : Nat} {K T P : Nat → Int32} {m d S : Nat} {v : Nat → Int32} {w : Nat → Nat} {s : sp_Ms} {i : Nat} (h : ¬ (S / 2 ^ i % 2 = 0 ∧ sp_cb (K i) (T i) (v i) = true)) : sp_ms n K T P m d S v w s (i + 1) = sp_ms n K T P m d S v w s i := if_neg h
theorem sp_u1_le {n d : Nat} {w : Nat → Nat} {s : sp_Ms} (hs : s.1 ≤ n) (hd : d ≤ n) : (sp_u1 d w s).1 ≤ n := by
  unfold sp_u1
  split
  · exact hd
  · exact hs
theorem sp_mo_le {n : Nat} {K T P : Nat → Int32} : ∀ (m d S : Nat) (v : Nat → Int32) (w : Nat → Nat) (s : sp_Ms), d + m = n → s.1 ≤ n → (sp_mo n K T P m d S v w s).1 ≤ n
  | 0, d, S, v, w, s, hd, hs => sp_u1_le hs (by omega)
  | m + 1, d, S, v, w, s, hd, hs => by
    have key : ∀ i, (sp_ms n K T P m d S v w (sp_u1 d w s) i).1 ≤ n := fun i => by
      induction i with
      | zero => exact sp_u1_le hs (by omega)
      | succ i ih =>
        by_cases h : S / 2 ^ i % 2 = 0 ∧ sp_cb (K i) (T i) (v i) = true
        · rw [sp_ms1 h.1 h.2]
          exact sp_mo_le m (d + 1) _ _ _ _ (by omega) ih
        · rw [sp_ms0 h]; exact ih
    exact key n
theorem sp_ms_le {n : Nat} {K T P : Nat → Int32} {m d S : Nat} {v : Nat → Int32} {w : Nat → Nat} {s : sp_Ms} (hd : d + (m + 1) = n) (hs : s.1 ≤ n) : ∀ i, (sp_ms n K T P m d S v w s i).1 ≤ n := fun i => by
  induction i with
  | zero => exact hs
  | succ i ih =>
    by_cases h : S / 2 ^ i % 2 = 0 ∧ sp_cb (K i) (T i) (v i) = true
    · rw [sp_ms1 h.1 h.2]
      exact sp_mo_le m (d + 1) _ _ _ _ (by omega) ih
    · rw [sp_ms0 h]; exact ih
theorem sp_mo_full {n : Nat} {K T P : Nat → Int32} : ∀ (m d S : Nat) (v : Nat → Int32) (w : Nat → Nat) (s : sp_Ms), d + m = n → n ≤ s.1 → sp_mo n K T P m d S v w s = s
  | 0, d, S, v, w, s, hd, hs => if_neg (by omega)
  | m + 1, d, S, v, w, s, hd, hs => by
    have e : sp_u1 d w s = s := if_neg (by omega)
    have key : ∀ i, sp_ms n K T P m d S v w (sp_u1 d w s) i = s := fun i => by
      induction i with
      | zero => exact e
      | succ i ih =>
        by_cases h : S / 2 ^ i % 2 = 0 ∧ sp_cb (K i) (T i) (v i) = true
        · rw [sp_ms1 h.1 h.2, ih]
          exact sp_mo_full m (d + 1) _ _ _ _ (by omega) hs
        · rw [sp_ms0 h]; exact ih
    exact key n
theorem sp_ms_full {n : Nat} {K T P : Nat → Int32} {m d S : Nat} {v : Nat → Int32} {w : Nat → Nat} {s : sp_Ms} (hd : d + (m + 1) = n) {i : Nat} (hs : n ≤ (sp_ms n K T P m d S v w s i).1) : ∀ k, sp_ms n K T P m d S v w s (i + k) = sp_ms n K T P m d S v w s i := fun k => by
  induction k with
  | zero => rfl
  | succ k ih =>
    show sp_ms n K T P m d S v w s (i + k + 1) = _
    by_cases h : S / 2 ^ (i + k) % 2 = 0 ∧ sp_cb (K (i + k)) (T (i + k)) (v (i + k)) = true
    · rw [sp_ms1 h.1 h.2, ih]
      exact sp_mo_full m (d + 1) _ _ _ _ (by omega) hs
    · rw [sp_ms0 h]; exact ih
def sp_qo (g : sp_G) (s : sp_Ms) : Prop := g.1 17 5 = nI s.1 ∧ ∀ j, j < s.1 → g.1 38 j = nI (s.2 j)
theorem sp_qo.stp {d i : Nat} {g g1 : sp_G} {s : sp_Ms} {u : Nat → Int32} {p : Int32} (h : sp_qo g s) (k : sp_stp d g g1 i u p) (hd : d < 6) : sp_qo g1 s := by
  unfold sp_qo
  rw [k.1 17 (by omega) (by omega) (by omega), k.1 38 (by omega) (by omega) (by omega)]
  exact h
theorem sp_qoL {d : Nat} {g g1 : sp_G} {w : Nat → Nat} (q1 : sp_rmb d g g1) (hw : sp_wy g d w) : sp_qo g1 (d, w) := ⟨q1.2.2.2.1, fun j hj => (q1.2.2.2.2 j hj).trans (hw j hj)⟩
set_option maxRecDepth 20000 in
theorem xl_mo {X : sp_X} {ac : sp_Ac} {g : sp_G} {n d m S A Bq : Nat} {K T P v : Nat → Int32} {w : Nat → Nat} {s : sp_Ms} (hd : d + (m + 1) = n) (hS : S < 2 ^ n) (hSd : sp_pc S = d) (hK : sp_KX n K T P g) (hv : sp_h8 g (23 + d) (30 + d) v) (hB : sp_oB n A Bq v) (hAb : A < 2 ^ 20) (hBb : Bq < 2 ^ 20) (hw : sp_wy g d w) (hsn : s.1 ≤ n) {R0 : sp_Ms} (hR0 : sp_ms n K T P m d S v w s n = R0) (IH : ∀ (S : Nat) (v : Nat → Int32) (w : Nat → Nat) (g : sp_G) (s : sp_Ms), S < 2 ^ n → sp_pc S = d + 1 → sp_KX n K T P g → sp_h8 g (23 + (d + 1)) (30 + (d + 1)) v → sp_oB n (A + 2) (Bq + 2) v → sp_wy g (d + 1) w → sp_qo g s → s.1 ≤ n → sp_Ct X (m + 5) 87 [.ref 17, .int (nI (d + 1)), .int (nI S)] g (sp_Rv (fun g' => sp_lvx (d + 1) g g' ∧ sp_qo g' (sp_mo n K T P m (d + 1) S v w s)))) (hA : sp_Act X 87 (m + 6) (sp_Rv (fun g' => sp_lvx d g g' ∧ sp_qo g' R0)) ac) : ∀ (k : Nat) (i : Nat) (gg : sp_G) (t : sp_Ms), i + k = n → sp_lvx d g gg → sp_qo gg t → t = sp_ms n K T P m d S v w s i → sp_Ev X ac 87 15 [.ref 17, .int (nI d), .int (nI S), .int (nI i)] [] gg := by
  intro k
  induction k with
  | zero =>
    intro i gg t h0_ h1_ h2_ h3_
    have hn6 := hK.2.1
    refine sr_iload_n hA si_87_15 rfl ?_
    refine sr_aload_n hA si_87_16 rfl ?_
    refine sr_getR (r := 18) hA si_87_17 sf_87_12 (by decide) (by decide) rfl rfl rfl ?_
    refine sr_getIv (v := nI n) hA si_87_20 sf_87_96 (by decide) (by decide) rfl (by decide) (hK.xa h1_.xa).1 ?_
    refine sr_icmp_geN (tgt := 75) hA si_87_23 (by decide) (by omega) (by omega) (fun c1 => ?_) (fun c1 => absurd c1 (by omega))
    exact sr_vretR hA si_87_75 sq_r_87 ⟨h1_, (by rw [show R0 = t from (by rw [← hR0, h3_, show i = n by omega])]; exact h2_)⟩
  | succ k ih =>
    intro i gg t h0_ h1_ h2_ h3_
    have hn6 := hK.2.1
    have hS64 := sp_bo4 hn6 hS
    have htn : t.1 ≤ n := by rw [h3_]; exact sp_ms_le hd hsn i
    rcases (show ¬ t.1 < n ∨ (t.1 < n ∧ S / 2 ^ i % 2 = 1) ∨ (t.1 < n ∧ S / 2 ^ i % 2 = 0) by have := sp_bo5 S i; omega) with hf | ⟨hf, hbt⟩ | ⟨hf, hbt⟩
    · refine sr_iload_n hA si_87_15 rfl ?_
      refine sr_aload_n hA si_87_16 rfl ?_
      refine sr_getR (r := 18) hA si_87_17 sf_87_12 (by decide) (by decide) rfl rfl rfl ?_
      refine sr_getIv (v := nI n) hA si_87_20 sf_87_96 (by decide) (by decide) rfl (by decide) (hK.xa h1_.xa).1 ?_
      refine sr_icmp_geN (tgt := 75) hA si_87_23 (by decide) (by omega) (by omega) (fun c1 => absurd c1 (by omega)) (fun c1 => ?_)
      refine sr_aload_n hA si_87_26 rfl ?_
      refine sr_getIv (v := nI t.1) hA si_87_27 sf_87_38 (by decide) (by decide) rfl (by decide) h2_.1 ?_
      refine sr_aload_n hA si_87_30 rfl ?_
      refine sr_getR (r := 18) hA si_87_31 sf_87_12 (by decide) (by decide) rfl rfl rfl ?_
      refine sr_getIv (v := nI n) hA si_87_34 sf_87_96 (by decide) (by decide) rfl (by decide) (hK.xa h1_.xa).1 ?_
      refine sr_icmp_geN (tgt := 75) hA si_87_37 (by decide) (by omega) (by omega) (fun c2 => ?_) (fun c2 => absurd c2 (by omega))
      exact sr_vretR hA si_87_75 sq_r_87 ⟨h1_, (by rw [show R0 = t from (by have hx := sp_ms_full (K := K) (T := T) (P := P) (v := v) (w := w) (s := s) (S := S) hd (i := i) (by rw [← h3_]; omega) (n - i); rw [show i + (n - i) = n by omega] at hx; rw [← hR0, hx, h3_])]; exact h2_)⟩
    · refine sr_iload_n hA si_87_15 rfl ?_
      refine sr_aload_n hA si_87_16 rfl ?_
      refine sr_getR (r := 18) hA si_87_17 sf_87_12 (by decide) (by decide) rfl rfl rfl ?_
      refine sr_getIv (v := nI n) hA si_87_20 sf_87_96 (by decide) (by decide) rfl (by decide) (hK.xa h1_.xa).1 ?_
      refine sr_icmp_geN (tgt := 75) hA si_87_23 (by decide) (by omega) (by omega) (fun c1 => absurd c1 (by omega)) (fun c1 => ?_)
      refine sr_aload_n hA si_87_26 rfl ?_
      refine sr_getIv (v := nI t.1) hA si_87_27 sf_87_38 (by decide) (by decide) rfl (by decide) h2_.1 ?_
      refine sr_aload_n hA si_87_30 rfl ?_
      refine sr_getR (r := 18) hA si_87_31 sf_87_12 (by decide) (by decide) rfl rfl rfl ?_
      refine sr_getIv (v := nI n) hA si_87_34 sf_87_96 (by decide) (by decide) rfl (by decide) (hK.xa h1_.xa).1 ?_
      refine sr_icmp_geN (tgt := 75) hA si_87_37 (by decide) (by omega) (by omega) (fun c2 => absurd c2 (by omega)) (fun c2 => ?_)
      refine sr_iload_n hA si_87_40 rfl ?_
      refine sr_iload_n hA si_87_41 rfl ?_
      refine sr_ishr hA si_87_42 ?_
      refine sr_iconst (v := nI 1) hA si_87_43 (by decide) ?_
      refine sr_iand hA si_87_44 ?_
      rw [sp_hasE S hS64 i (by omega), hbt]
      refine sr_if_neN (tgt := 69) hA si_87_45 (by decide) (by omega) (fun c3 => ?_) (fun c3 => absurd c3 (by omega))
      refine sr_iincN (x := i) (y := 1) (ls1 := [.ref 17, .int (nI d), .int (nI S), .int (nI (i + 1))]) hA si_87_69 rfl rfl (by rw [sq_l_87]; decide) rfl ?_
      refine sr_goto (tgt := 15) hA si_87_72 (by decide) ?_
      exact ih (i + 1) gg t (by omega) h1_ h2_ (by rw [sp_ms0 (by omega)]; exact h3_)
    · refine sr_iload_n hA si_87_15 rfl ?_
      refine sr_aload_n hA si_87_16 rfl ?_
      refine sr_getR (r := 18) hA si_87_17 sf_87_12 (by decide) (by decide) rfl rfl rfl ?_
      refine sr_getIv (v := nI n) hA si_87_20 sf_87_96 (by decide) (by decide) rfl (by decide) (hK.xa h1_.xa).1 ?_
      refine sr_icmp_geN (tgt := 75) hA si_87_23 (by decide) (by omega) (by omega) (fun c1 => absurd c1 (by omega)) (fun c1 => ?_)
      refine sr_aload_n hA si_87_26 rfl ?_
      refine sr_getIv (v := nI t.1) hA si_87_27 sf_87_38 (by decide) (by decide) rfl (by decide) h2_.1 ?_
      refine sr_aload_n hA si_87_30 rfl ?_
      refine sr_getR (r := 18) hA si_87_31 sf_87_12 (by decide) (by decide) rfl rfl rfl ?_
      refine sr_getIv (v := nI n) hA si_87_34 sf_87_96 (by decide) (by decide) rfl (by decide) (hK.xa h1_.xa).1 ?_
      refine sr_icmp_geN (tgt := 75) hA si_87_37 (by decide) (by omega) (by omega) (fun c2 => absurd c2 (by omega)) (fun c2 => ?_)
      refine sr_iload_n hA si_87_40 rfl ?_
      refine sr_iload_n hA si_87_41 rfl ?_
      refine sr_ishr hA si_87_42 ?_
      refine sr_iconst (v := nI 1) hA si_87_43 (by decide) ?_
      refine sr_iand hA si_87_44 ?_
      rw [sp_hasE S hS64 i (by omega), hbt]
      refine sr_if_neN (tgt := 69) hA si_87_45 (by decide) (by omega) (fun c3 => absurd c3 (by omega)) (fun c3 => ?_)
      refine sr_aload_n hA si_87_48 rfl ?_
      refine sr_iload_n hA si_87_49 rfl ?_
      refine sr_iload_n hA si_87_50 rfl ?_
      by_cases hcb : sp_cb (K i) (T i) (v i) = true
      · refine sr_VRi (c := 17) (ci := 4) (as := [.int (nI d), .int (nI i)]) (st := []) hA si_87_51 sv_88 sk_87_107 (xb_step1 X gg (d := d) (i := i) (by omega) (hK.xa h1_.xa) (by omega) (hv.dx h1_ (by omega)) hB (by omega) hcb) (by omega) rfl (by decide) (by decide) rfl sq_c_88 rfl (Nat.le_of_ble_eq_true rfl) (fun xs g1 qs => ?_)
        obtain ⟨exs, qs⟩ := qs
        subst exs
        have hl1 := h1_.tr (qs.dx (by omega))
        obtain ⟨hS2, hpc2⟩ := sp_bo2 n hn6 i (by omega) S hS hbt
        refine sr_if_eqN (tgt := 69) hA si_87_54 (by decide) (by omega) (fun c4 => absurd c4 (by omega)) (fun c4 => ?_)
        refine sr_aload_n hA si_87_57 rfl ?_
        refine sr_iload_n hA si_87_58 rfl ?_
        refine sr_iconst (v := nI 1) hA si_87_59 (by decide) ?_
        refine sr_iaddN hA si_87_60 ?_
        refine sr_iload_n hA si_87_61 rfl ?_
        refine sr_iconst (v := nI 1) hA si_87_62 (by decide) ?_
        refine sr_iload_n hA si_87_63 rfl ?_
        refine sr_ishl hA si_87_64 ?_
        refine sr_ior hA si_87_65 ?_
        rw [sp_bo1 i (by omega) S hS64 hbt]
        refine sr_VRv (c := 17) (ci := 4) (as := [.int (nI (d + 1)), .int (nI (S + 2 ^ i))]) (st := []) hA si_87_66 sv_87 sk_87_103 (IH (S + 2 ^ i) (sp_pl n K P v i) (sp_un w d i) g1 t hS2 (by omega) (hK.xa hl1.xa) qs.2.2.2.2.1 (sp_oB.pl hB hn6 (by omega) (by omega) (by omega)) ((hw.dx h1_).stp qs) (h2_.stp qs (by omega)) (by omega)) (by omega) rfl (by decide) (by decide) rfl sq_c_87 rfl (Nat.le_of_ble_eq_true rfl) (fun g2 q2 => ?_)
        obtain ⟨hl2, hr2⟩ := q2
        refine sr_iincN (x := i) (y := 1) (ls1 := [.ref 17, .int (nI d), .int (nI S), .int (nI (i + 1))]) hA si_87_69 rfl rfl (by rw [sq_l_87]; decide) rfl ?_
        refine sr_goto (tgt := 15) hA si_87_72 (by decide) ?_
        exact ih (i + 1) g2 _ (by omega) (hl1.tr (hl2.lo (by omega))) hr2 (by rw [sp_ms1 hbt hcb, h3_])
      · refine sr_VFi (c := 17) (ci := 4) (as := [.int (nI d), .int (nI i)]) (st := []) hA si_87_51 sv_88 sk_87_107 (xb_step0 X gg (d := d) (i := i) (by omega) (hK.xa h1_.xa) (by omega) (hv.dx h1_ (by omega)) hcb) (by omega) rfl (by decide) (by decide) rfl sq_c_88 rfl (Nat.le_of_ble_eq_true rfl) ?_
        refine sr_if_eqN (tgt := 69) hA si_87_54 (by decide) (by omega) (fun c5 => ?_) (fun c5 => absurd c5 (by omega))
        refine sr_iincN (x := i) (y := 1) (ls1 := [.ref 17, .int (nI d), .int (nI S), .int (nI (i + 1))]) hA si_87_69 rfl rfl (by rw [sq_l_87]; decide) rfl ?_
        refine sr_goto (tgt := 15) hA si_87_72 (by decide) ?_
        exact ih (i + 1) gg t (by omega) h1_ h2_ (by rw [sp_ms0 (fun q => hcb q.2)]; exact h3_)
set_option maxRecDepth 20000 in
theorem xl_moZ {X : sp_X} {ac : sp_Ac} {g : sp_G} {n d S : Nat} {K T P : Nat → Int32} {s : sp_Ms} (hd : d = n) (hS : S < 2 ^ n) (hSd : sp_pc S = d) (hK : sp_KX n K T P g) (hsn : s.1 ≤ n) (hA : sp_Act X 87 5 (sp_Rv (fun g' => sp_lvx d g g' ∧ sp_qo g' s)) ac) : ∀ (k : Nat) (i : Nat) (gg : sp_G), i + k = n → sp_lvx d g gg → sp_qo gg s → sp_Ev X ac 87 15 [.ref 17, .int (nI d), .int (nI S), .int (nI i)] [] gg := by
  intro k
  induction k with
  | zero =>
    intro i gg h0_ h1_ h2_
    have hn6 := hK.2.1
    refine sr_iload_n hA si_87_15 rfl ?_
    refine sr_aload_n hA si_87_16 rfl ?_
    refine sr_getR (r := 18) hA si_87_17 sf_87_12 (by decide) (by decide) rfl rfl rfl ?_
    refine sr_getIv (v := nI n) hA si_87_20 sf_87_96 (by decide) (by decide) rfl (by decide) (hK.xa h1_.xa).1 ?_
    refine sr_icmp_geN (tgt := 75) hA si_87_23 (by decide) (by omega) (by omega) (fun c1 => ?_) (fun c1 => absurd c1 (by omega))
    exact sr_vretR hA si_87_75 sq_r_87 ⟨h1_, h2_⟩
  | succ k ih =>
    intro i gg h0_ h1_ h2_
    have hn6 := hK.2.1
    have hS64 := sp_bo4 hn6 hS
    have hbt : S / 2 ^ i % 2 = 1 := sp_bo3 n hn6 S hS (by omega) i (by omega)
    rcases (show ¬ s.1 < n ∨ s.1 < n by omega) with hf | hf
    · refine sr_iload_n hA si_87_15 rfl ?_
      refine sr_aload_n hA si_87_16 rfl ?_
      refine sr_getR (r := 18) hA si_87_17 sf_87_12 (by decide) (by decide) rfl rfl rfl ?_
      refine sr_getIv (v := nI n) hA si_87_20 sf_87_96 (by decide) (by decide) rfl (by decide) (hK.xa h1_.xa).1 ?_
      refine sr_icmp_geN (tgt := 75) hA si_87_23 (by decide) (by omega) (by omega) (fun c1 => absurd c1 (by omega)) (fun c1 => ?_)
      refine sr_aload_n hA si_87_26 rfl ?_
      refine sr_getIv (v := nI s.1) hA si_87_27 sf_87_38 (by decide) (by decide) rfl (by decide) h2_.1 ?_
      refine sr_aload_n hA si_87_30 rfl ?_
      refine sr_getR (r := 18) hA si_87_31 sf_87_12 (by decide) (by decide) rfl rfl rfl ?_
      refine sr_getIv (v := nI n) hA si_87_34 sf_87_96 (by decide) (by decide) rfl (by decide) (hK.xa h1_.xa).1 ?_
      refine sr_icmp_geN (tgt := 75) hA si_87_37 (by decide) (by omega) (by omega) (fun c2 => ?_) (fun c2 => absurd c2 (by omega))
      exact sr_vretR hA si_87_75 sq_r_87 ⟨h1_, h2_⟩
    · refine sr_iload_n hA si_87_15 rfl ?_
      refine sr_aload_n hA si_87_16 rfl ?_
      refine sr_getR (r := 18) hA si_87_17 sf_87_12 (by decide) (by decide) rfl rfl rfl ?_
      refine sr_getIv (v := nI n) hA si_87_20 sf_87_96 (by decide) (by decide) rfl (by decide) (hK.xa h1_.xa).1 ?_
      refine sr_icmp_geN (tgt := 75) hA si_87_23 (by decide) (by omega) (by omega) (fun c1 => absurd c1 (by omega)) (fun c1 => ?_)
      refine sr_aload_n hA si_87_26 rfl ?_
      refine sr_getIv (v := nI s.1) hA si_87_27 sf_87_38 (by decide) (by decide) rfl (by decide) h2_.1 ?_
      refine sr_aload_n hA si_87_30 rfl ?_
      refine sr_getR (r := 18) hA si_87_31 sf_87_12 (by decide) (by decide) rfl rfl rfl ?_
      refine sr_getIv (v := nI n) hA si_87_34 sf_87_96 (by decide) (by decide) rfl (by decide) (hK.xa h1_.xa).1 ?_
      refine sr_icmp_geN (tgt := 75) hA si_87_37 (by decide) (by omega) (by omega) (fun c2 => absurd c2 (by omega)) (fun c2 => ?_)
      refine sr_iload_n hA si_87_40 rfl ?_
      refine sr_iload_n hA si_87_41 rfl ?_
      refine sr_ishr hA si_87_42 ?_
      refine sr_iconst (v := nI 1) hA si_87_43 (by decide) ?_
      refine sr_iand hA si_87_44 ?_
      rw [sp_hasE S hS64 i (by omega), hbt]
      refine sr_if_neN (tgt := 69) hA si_87_45 (by decide) (by omega) (fun c3 => ?_) (fun c3 => absurd c3 (by omega))
      refine sr_iincN (x := i) (y := 1) (ls1 := [.ref 17, .int (nI d), .int (nI S), .int (nI (i + 1))]) hA si_87_69 rfl rfl (by rw [sq_l_87]; decide) rfl ?_
      refine sr_goto (tgt := 15) hA si_87_72 (by decide) ?_
      exact ih (i + 1) gg (by omega) h1_ h2_
set_option maxRecDepth 20000 in
theorem xb_moS {X : sp_X} {g : sp_G} {n d m S A Bq : Nat} {K T P v : Nat → Int32} {w : Nat → Nat} {s : sp_Ms} (hd : d + (m + 1) = n) (hS : S < 2 ^ n) (hSd : sp_pc S = d) (hK : sp_KX n K T P g) (hv : sp_h8 g (23 + d) (30 + d) v) (hB : sp_oB n A Bq v) (hAb : A < 2 ^ 20) (hBb : Bq < 2 ^ 20) (hw : sp_wy g d w) (hsn : s.1 ≤ n) (hq0 : sp_qo g s) (IH : ∀ (S : Nat) (v : Nat → Int32) (w : Nat → Nat) (g : sp_G) (s : sp_Ms), S < 2 ^ n → sp_pc S = d + 1 → sp_KX n K T P g → sp_h8 g (23 + (d + 1)) (30 + (d + 1)) v → sp_oB n (A + 2) (Bq + 2) v → sp_wy g (d + 1) w → sp_qo g s → s.1 ≤ n → sp_Ct X (m + 5) 87 [.ref 17, .int (nI (d + 1)), .int (nI S)] g (sp_Rv (fun g' => sp_lvx (d + 1) g g' ∧ sp_qo g' (sp_mo n K T P m (d + 1) S v w s)))) : sp_Ct X (m + 6) 87 [.ref 17, .int (nI d), .int (nI S)] g (sp_Rv (fun g' => sp_lvx d g g' ∧ sp_qo g' (sp_mo n K T P (m + 1) d S v w s))) := by
  have hn6 := hK.2.1
  have hS64 := sp_bo4 hn6 hS
  refine sp_walkN (n := 4) sq_p_87 sq_l_87 (Nat.le_of_ble_eq_true rfl) (fun ac hA => ?_)
  show sp_Ev X ac 87 0 [.ref 17, .int (nI d), .int (nI S), .null] [] g
  refine sr_iload_n hA si_87_0 rfl ?_
  refine sr_aload_n hA si_87_1 rfl ?_
  refine sr_getIv (v := nI s.1) hA si_87_2 sf_87_38 (by decide) (by decide) rfl (by decide) hq0.1 ?_
  refine sr_icmp_leN (tgt := 13) hA si_87_5 (by decide) (by omega) (by omega) (fun c1 => ?_) (fun c1 => ?_)
  · refine sr_iconst (v := nI 0) hA si_87_13 (by decide) ?_
    refine sr_istore_n (ls1 := [.ref 17, .int (nI d), .int (nI S), .int (nI 0)]) hA si_87_14 rfl (by rw [sq_l_87]; decide) rfl ?_
    have e9 : sp_u1 d w s = s := if_neg (by omega)
    exact xl_mo (s := s) hd hS hSd hK hv hB hAb hBb hw hsn (by show _ = sp_kfo _ (sp_u1 d w s) n; rw [e9]; rfl) IH hA n 0 g s (by omega) sp_lvx.rf hq0 rfl
  · refine sr_aload_n hA si_87_8 rfl ?_
    refine sr_iload_n hA si_87_9 rfl ?_
    refine sr_VRv (c := 17) (ci := 4) (as := [.int (nI d)]) (st := []) hA si_87_10 sv_80 sk_87_84 (xb_rmb X g (q := d) (by omega)) (by omega) rfl (by decide) (by decide) rfl sq_c_80 rfl (Nat.le_of_ble_eq_true rfl) (fun g1 q1 => ?_)
    refine sr_iconst (v := nI 0) hA si_87_13 (by decide) ?_
    refine sr_istore_n (ls1 := [.ref 17, .int (nI d), .int (nI S), .int (nI 0)]) hA si_87_14 rfl (by rw [sq_l_87]; decide) rfl ?_
    have e9 : sp_u1 d w s = (d, w) := if_pos (by omega)
    exact xl_mo (s := (d, w)) hd hS hSd hK hv hB hAb hBb hw (by show d ≤ n; omega) (by show _ = sp_kfo _ (sp_u1 d w s) n; rw [e9]; rfl) IH hA n 0 g1 (d, w) (by omega) (q1.dx (by omega)) (sp_qoL q1 hw) rfl
set_option maxRecDepth 20000 in
theorem xb_moA (X : sp_X) (g : sp_G) {n d S : Nat} {K T P : Nat → Int32} {s : sp_Ms} (hd : d = n) (hS : S < 2 ^ n) (hSd : sp_pc S = d) (hK : sp_KX n K T P g) (hsn : s.1 ≤ n) {v : Nat → Int32} {w : Nat → Nat} (hw : sp_wy g d w) (hq0 : sp_qo g s) : sp_Ct X 5 87 [.ref 17, .int (nI d), .int (nI S)] g (sp_Rv (fun g' => sp_lvx d g g' ∧ sp_qo g' (sp_mo n K T P 0 d S v w s))) := by
  have hn6 := hK.2.1
  have hS64 := sp_bo4 hn6 hS
  refine sp_walkN (n := 4) sq_p_87 sq_l_87 (Nat.le_of_ble_eq_true rfl) (fun ac hA => ?_)
  show sp_Ev X ac 87 0 [.ref 17, .int (nI d), .int (nI S), .null] [] g
  refine sr_iload_n hA si_87_0 rfl ?_
  refine sr_aload_n hA si_87_1 rfl ?_
  refine sr_getIv (v := nI s.1) hA si_87_2 sf_87_38 (by decide) (by decide) rfl (by decide) hq0.1 ?_
  refine sr_icmp_leN (tgt := 13) hA si_87_5 (by decide) (by omega) (by omega) (fun c1 => ?_) (fun c1 => ?_)
  · refine sr_iconst (v := nI 0) hA si_87_13 (by decide) ?_
    refine sr_istore_n (ls1 := [.ref 17, .int (nI d), .int (nI S), .int (nI 0)]) hA si_87_14 rfl (by rw [sq_l_87]; decide) rfl ?_
    have e9 : sp_mo n K T P 0 d S v w s = s := if_neg (by omega)
    rw [e9] at hA
    exact xl_moZ hd hS hSd hK hsn hA n 0 g (by omega) sp_lvx.rf hq0
  · refine sr_aload_n hA si_87_8 rfl ?_
    refine sr_iload_n hA si_87_9 rfl ?_
    refine sr_VRv (c := 17) (ci := 4) (as := [.int (nI d)]) (st := []) hA si_87_10 sv_80 sk_87_84 (xb_rmb X g (q := d) (by omega)) (by omega) rfl (by decide) (by decide) rfl sq_c_80 rfl (Nat.le_of_ble_eq_true rfl) (fun g1 q1 => ?_)
    refine sr_iconst (v := nI 0) hA si_87_13 (by decide) ?_
    refine sr_istore_n (ls1 := [.ref 17, .int (nI d), .int (nI S), .int (nI 0)]) hA si_87_14 rfl (by rw [sq_l_87]; decide) rfl ?_
    have e9 : sp_mo n K T P 0 d S v w s = (d, w) := if_pos (by omega)
    rw [e9] at hA
    exact xl_moZ (s := (d, w)) hd hS hSd hK (by show d ≤ n; omega) hA n 0 g1 (by omega) (q1.dx (by omega)) (sp_qoL q1 hw)
theorem xb_mo (X : sp_X) {n : Nat} {K T P : Nat → Int32} : ∀ (m d S A Bq : Nat) (v : Nat → Int32) (w : Nat → Nat) (g : sp_G) (s : sp_Ms), d + m = n → A + 2 * m < 2 ^ 20 → Bq + 2 * m < 2 ^ 20 → S < 2 ^ n → sp_pc S = d → sp_KX n K T P g → sp_h8 g (23 + d) (30 + d) v → sp_oB n A Bq v → sp_wy g d w → sp_qo g s → s.1 ≤ n → sp_Ct X (m + 5) 87 [.ref 17, .int (nI d), .int (nI S)] g (sp_Rv (fun g' => sp_lvx d g g' ∧ sp_qo g' (sp_mo n K T P m d S v w s)))
  | 0, d, S, A, Bq, v, w, g, s, hd, hA, hB, hS, hSd, hK, hv, hO, hw, hq0, hsn => xb_moA X g (by omega) hS hSd hK hsn hw hq0
  | m + 1, d, S, A, Bq, v, w, g, s, hd, hA, hB, hS, hSd, hK, hv, hO, hw, hq0, hsn => xb_moS hd hS hSd hK hv hO (by omega) (by omega) hw hsn hq0 (fun S' v' w' g' s' a1 a2 a3 a4 a5 a6 a7 a8 => xb_mo X m (d + 1) S' (A + 2) (Bq + 2) v' w' g' s' (by omega) (by omega) (by omega) a1 a2 a3 a4 a5 a6 a7 a8)
set_option maxRecDepth 20000 in
theorem xb_moR {X : sp_X} {g : sp_G} {n m A Bq : Nat} {K T P v : Nat → Int32} (hd : 0 + (m + 1) = n) (hK : sp_KX n K T P g) (hv : sp_h8 g 23 30 v) (hB : sp_oB n A Bq v) (hAb : A < 2 ^ 20) (hBb : Bq < 2 ^ 20) (h5 : g.1 17 5 = -1) (IH : ∀ (S : Nat) (v : Nat → Int32) (w : Nat → Nat) (g : sp_G) (s : sp_Ms), S < 2 ^ n → sp_pc S = 0 + 1 → sp_KX n K T P g → sp_h8 g (23 + (0 + 1)) (30 + (0 + 1)) v → sp_oB n (A + 2) (Bq + 2) v → sp_wy g (0 + 1) w → sp_qo g s → s.1 ≤ n → sp_Ct X (m + 5) 87 [.ref 17, .int (nI (0 + 1)), .int (nI S)] g (sp_Rv (fun g' => sp_lvx (0 + 1) g g' ∧ sp_qo g' (sp_mo n K T P m (0 + 1) S v w s)))) : sp_Ct X (m + 6) 87 [.ref 17, .int (nI 0), .int (nI 0)] g (sp_Rv (fun g' => sp_lvx 0 g g' ∧ sp_qo g' (sp_mo n K T P (m + 1) 0 0 v (fun _ => 0) (0, fun _ => 0)))) := by
  have hn6 := hK.2.1
  refine sp_walkN (n := 4) sq_p_87 sq_l_87 (Nat.le_of_ble_eq_true rfl) (fun ac hA => ?_)
  show sp_Ev X ac 87 0 [.ref 17, .int (nI 0), .int (nI 0), .null] [] g
  refine sr_iload_n hA si_87_0 rfl ?_
  refine sr_aload_n hA si_87_1 rfl ?_
  refine sr_getIv (v := (-1)) hA si_87_2 sf_87_38 (by decide) (by decide) rfl (by decide) h5 ?_
  refine sr_icmp_le (tgt := 13) hA si_87_5 (by decide) (fun c1 => absurd c1 (sp_n4 (show (-1 : Int32) < 0 by decide) (by omega))) (fun c1 => ?_)
  refine sr_aload_n hA si_87_8 rfl ?_
  refine sr_iload_n hA si_87_9 rfl ?_
  refine sr_VRv (c := 17) (ci := 4) (as := [.int (nI 0)]) (st := []) hA si_87_10 sv_80 sk_87_84 (xb_rmb X g (q := 0) (by omega)) (by omega) rfl (by decide) (by decide) rfl sq_c_80 rfl (Nat.le_of_ble_eq_true rfl) (fun g1 q1 => ?_)
  refine sr_iconst (v := nI 0) hA si_87_13 (by decide) ?_
  refine sr_istore_n (ls1 := [.ref 17, .int (nI 0), .int (nI 0), .int (nI 0)]) hA si_87_14 rfl (by rw [sq_l_87]; decide) rfl ?_
  exact xl_mo (d := 0) (S := 0) (w := fun _ => 0) (s := (0, fun _ => 0)) hd (Nat.two_pow_pos n) rfl hK hv hB hAb hBb (fun j hj => absurd hj (by omega)) (Nat.zero_le _) rfl IH hA n 0 g1 (0, fun _ => 0) (by omega) (q1.dx (by omega)) ⟨q1.2.2.2.1, fun j hj => absurd hj (Nat.not_lt_zero _)⟩ rfl
set_option maxRecDepth 20000 in
theorem xb_mu (X : sp_X) (g : sp_G) {n A Bq : Nat} {K T P v : Nat → Int32} (hn0 : 0 < n) (hK : sp_KX n K T P g) (hv : sp_h8 g 41 42 v) (hB : sp_oB n A Bq v) (hAb : A < 2 ^ 19) (hBb : Bq < 2 ^ 19) : sp_Ct X (n + 6) 86 [.ref 17, .ref 41] g (sp_Ri (fun x g' => x = nI (sp_mo n K T P n 0 0 v (fun _ => 0) (0, fun _ => 0)).1 ∧ sp_xa g g' ∧ sp_qo g' (sp_mo n K T P n 0 0 v (fun _ => 0) (0, fun _ => 0)) ∧ (sp_mo n K T P n 0 0 v (fun _ => 0) (0, fun _ => 0)).1 ≤ n)) := by
  have hn6 := hK.2.1
  obtain ⟨m, rfl⟩ : ∃ m, n = m + 1 := ⟨n - 1, by omega⟩
  refine sp_walkN (n := 2) sq_p_86 sq_l_86 (Nat.le_of_ble_eq_true rfl) (fun ac hA => ?_)
  show sp_Ev X ac 86 0 [.ref 17, .ref 41] [] g
  refine sr_aload_n hA si_86_0 rfl ?_
  refine sr_aload_n hA si_86_1 rfl ?_
  refine sr_VRv (c := 17) (ci := 4) (as := [.ref 41]) (st := []) hA si_86_2 sv_78 sk_86_77 (xb_begin X g sp_sd41 (by unfold sp_ap; omega) hv) (by omega) rfl (by decide) (by decide) rfl sq_c_78 rfl (Nat.le_of_ble_eq_true rfl) (fun g1 q1 => ?_)
  refine sr_aload_n hA si_86_5 rfl ?_
  refine sr_iconst (v := nI 0) hA si_86_6 (by decide) ?_
  refine sr_iconst (v := nI 0) hA si_86_7 (by decide) ?_
  refine sr_VRv (c := 17) (ci := 4) (as := [.int (nI 0), .int (nI 0)]) (st := []) hA si_86_8 sv_87 sk_86_103 (xb_moR (m := m) (by omega) (hK.xa q1.xa) q1.2.2.1 hB (by omega) (by omega) q1.2.2.2.2.1 (fun S' v' w' g' s' a1 a2 a3 a4 a5 a6 a7 a8 => xb_mo X m (0 + 1) S' (A + 2) (Bq + 2) v' w' g' s' (by omega) (by omega) (by omega) a1 a2 a3 a4 a5 a6 a7 a8)) (by omega) rfl (by decide) (by decide) rfl sq_c_87 rfl (Nat.le_of_ble_eq_true rfl) (fun g2 q2 => ?_)
  obtain ⟨S, eS⟩ : ∃ z, z = sp_mo (m + 1) K T P (m + 1) 0 0 v (fun _ => 0) (0, fun _ => 0) := ⟨_, rfl⟩
  rw [← eS] at q2
  have hSn : S.1 ≤ m + 1 := by rw [eS]; exact sp_mo_le (m + 1) 0 0 v _ _ (by omega) (Nat.zero_le _)
  obtain ⟨hl2, hq2⟩ := q2
  refine sr_aload_n hA si_86_11 rfl ?_
  refine sr_getIv (v := nI S.1) hA si_86_12 sf_86_38 (by decide) (by decide) rfl (by decide) hq2.1 ?_
  exact sr_iretR hA si_86_15 sq_r_86 (by rw [← eS]; exact ⟨rfl, q1.xa.tr hl2.xa, hq2, hSn⟩)
set_option maxRecDepth 20000 in
theorem xc_most_a (X : sp_X) (g : sp_G) {r : Int32} (hr : r < 0) : sp_Ct X 9 85 [.ref 0, .int r] g (sp_Fi (-1) g) := by
  refine sp_walkN (n := 3) sq_p_85 sq_l_85 (Nat.le_of_ble_eq_true rfl) (fun a hA => ?_)
  show sp_Ev X a 85 0 [.ref 0, .int r, .null] [] g
  refine sr_aload_n hA si_85_0 rfl ?_
  refine sr_getR (r := 1) hA si_85_1 sf_85_14 (by decide) (by decide) rfl rfl rfl ?_
  refine sr_iload_n hA si_85_4 rfl ?_
  refine sr_VFi (c := 1) (ci := 5) (as := [.int r]) (st := []) hA si_85_5 sv_11 sk_85_72 (xc_numRM X g hr) (by omega) rfl (by decide) (by decide) rfl sq_c_11 rfl (Nat.le_of_ble_eq_true rfl) ?_
  refine sr_if_neN (tgt := 13) hA si_85_8 (by decide) (by omega) (fun c1 => absurd c1 (by omega)) (fun c1 => ?_)
  refine sr_iconst (v := (-1)) hA si_85_11 (by decide) ?_
  exact sr_iretF hA si_85_12 sq_r_85 rfl rfl
set_option maxRecDepth 20000 in
theorem xc_most_b (X : sp_X) (g : sp_G) {r : Nat} (hr : 6 ≤ r) (hrb : r < 2 ^ 31) : sp_Ct X 9 85 [.ref 0, .int (nI r)] g (sp_Fi (-1) g) := by
  refine sp_walkN (n := 3) sq_p_85 sq_l_85 (Nat.le_of_ble_eq_true rfl) (fun a hA => ?_)
  show sp_Ev X a 85 0 [.ref 0, .int (nI r), .null] [] g
  refine sr_aload_n hA si_85_0 rfl ?_
  refine sr_getR (r := 1) hA si_85_1 sf_85_14 (by decide) (by decide) rfl rfl rfl ?_
  refine sr_iload_n hA si_85_4 rfl ?_
  refine sr_VFi (c := 1) (ci := 5) (as := [.int (nI r)]) (st := []) hA si_85_5 sv_11 sk_85_72 (xc_numRH X g (by omega) (by omega)) (by omega) rfl (by decide) (by decide) rfl sq_c_11 rfl (Nat.le_of_ble_eq_true rfl) ?_
  refine sr_if_neN (tgt := 13) hA si_85_8 (by decide) (by omega) (fun c1 => absurd c1 (by omega)) (fun c1 => ?_)
  refine sr_iconst (v := (-1)) hA si_85_11 (by decide) ?_
  exact sr_iretF hA si_85_12 sq_r_85 rfl rfl
set_option maxRecDepth 20000 in
theorem xc_most_s (X : sp_X) (g : sp_G) {r : Nat} (hr : r < 6) (hn : g.1 18 3 = nI 0) : sp_Ct X 9 85 [.ref 0, .int (nI r)] g (sp_Fi (-4) g) := by
  refine sp_walkN (n := 3) sq_p_85 sq_l_85 (Nat.le_of_ble_eq_true rfl) (fun a hA => ?_)
  show sp_Ev X a 85 0 [.ref 0, .int (nI r), .null] [] g
  refine sr_aload_n hA si_85_0 rfl ?_
  refine sr_getR (r := 1) hA si_85_1 sf_85_14 (by decide) (by decide) rfl rfl rfl ?_
  refine sr_iload_n hA si_85_4 rfl ?_
  refine sr_VFi (c := 1) (ci := 5) (as := [.int (nI r)]) (st := []) hA si_85_5 sv_11 sk_85_72 (xc_numR1 X g (by omega)) (by omega) rfl (by decide) (by decide) rfl sq_c_11 rfl (Nat.le_of_ble_eq_true rfl) ?_
  refine sr_if_neN (tgt := 13) hA si_85_8 (by decide) (by omega) (fun c1 => ?_) (fun c1 => absurd c1 (by omega))
  refine sr_aload_n hA si_85_13 rfl ?_
  refine sr_getR (r := 18) hA si_85_14 sf_85_32 (by decide) (by decide) rfl rfl rfl ?_
  refine sr_getIv (v := nI 0) hA si_85_17 sf_85_145 (by decide) (by decide) rfl (by decide) hn ?_
  refine sr_if_neN (tgt := 26) hA si_85_20 (by decide) (by omega) (fun c2 => absurd c2 (by omega)) (fun c2 => ?_)
  refine sr_bipush (v := (-4)) hA si_85_23 (by decide) ?_
  exact sr_iretF hA si_85_25 sq_r_85 rfl rfl
set_option maxRecDepth 20000 in
theorem mc_most_a (X : sp_X) (g : sp_G) {r : Int32} (hr : r < 0) : sp_Ct X 9 200 [.ref 64, .int r] g (sp_Fi (-1) g) := by
  refine sp_walkN (n := 2) sq_p_200 sq_l_200 (Nat.le_of_ble_eq_true rfl) (fun a hA => ?_)
  show sp_Ev X a 200 0 [.ref 64, .int r] [] g
  refine sr_iload_n hA si_200_0 rfl ?_
  refine sr_SFi (as := [.int r]) (st := []) hA si_200_1 ss_140 sk_200_93 (mc_isRowM X g hr) (by omega) rfl rfl (Nat.le_of_ble_eq_true rfl) ?_
  refine sr_if_neN (tgt := 9) hA si_200_4 (by decide) (by omega) (fun c1 => absurd c1 (by omega)) (fun c1 => ?_)
  refine sr_iconst (v := (-1)) hA si_200_7 (by decide) ?_
  exact sr_iretF hA si_200_8 sq_r_200 rfl rfl
set_option maxRecDepth 20000 in
theorem mc_most_b (X : sp_X) (g : sp_G) {r : Nat} (hr : 6 ≤ r) (hrb : r < 2 ^ 31) : sp_Ct X 9 200 [.ref 64, .int (nI r)] g (sp_Fi (-1) g) := by
  refine sp_walkN (n := 2) sq_p_200 sq_l_200 (Nat.le_of_ble_eq_true rfl) (fun a hA => ?_)
  show sp_Ev X a 200 0 [.ref 64, .int (nI r)] [] g
  refine sr_iload_n hA si_200_0 rfl ?_
  refine sr_SFi (as := [.int (nI r)]) (st := []) hA si_200_1 ss_140 sk_200_93 (mc_isRowH X g (by omega) (by omega)) (by omega) rfl rfl (Nat.le_of_ble_eq_true rfl) ?_
  refine sr_if_neN (tgt := 9) hA si_200_4 (by decide) (by omega) (fun c1 => absurd c1 (by omega)) (fun c1 => ?_)
  refine sr_iconst (v := (-1)) hA si_200_7 (by decide) ?_
  exact sr_iretF hA si_200_8 sq_r_200 rfl rfl
set_option maxRecDepth 20000 in
theorem mc_most_s (X : sp_X) (g : sp_G) {r : Nat} (hr : r < 6) (hn : g.1 64 11 = nI 0) : sp_Ct X 9 200 [.ref 64, .int (nI r)] g (sp_Fi (-4) g) := by
  refine sp_walkN (n := 2) sq_p_200 sq_l_200 (Nat.le_of_ble_eq_true rfl) (fun a hA => ?_)
  show sp_Ev X a 200 0 [.ref 64, .int (nI r)] [] g
  refine sr_iload_n hA si_200_0 rfl ?_
  refine sr_SFi (as := [.int (nI r)]) (st := []) hA si_200_1 ss_140 sk_200_93 (mc_isRow1 X g (by omega)) (by omega) rfl rfl (Nat.le_of_ble_eq_true rfl) ?_
  refine sr_if_neN (tgt := 9) hA si_200_4 (by decide) (by omega) (fun c1 => ?_) (fun c1 => absurd c1 (by omega))
  refine sr_aload_n hA si_200_9 rfl ?_
  refine sr_getIv (v := nI 0) hA si_200_10 sf_200_142 (by decide) (by decide) rfl (by decide) hn ?_
  refine sr_if_neN (tgt := 19) hA si_200_13 (by decide) (by omega) (fun c2 => absurd c2 (by omega)) (fun c2 => ?_)
  refine sr_bipush (v := (-4)) hA si_200_16 (by decide) ?_
  exact sr_iretF hA si_200_18 sq_r_200 rfl rfl
set_option maxRecDepth 20000 in
theorem xc_most_go (X : sp_X) (g : sp_G) {r : Nat} (hr : r < 6) {n : Nat} (hn : g.1 18 3 = nI n) (hn0 : 0 < n) (hb : n ≤ 6) {A Bq : Nat} {K T P v : Nat → Int32} (hK : sp_KX n K T P g) (hv : sp_h8 g 41 42 v) (hB : sp_oB n A Bq v) (hAb : A < 2 ^ 19) (hBb : Bq < 2 ^ 19) : sp_Ct X (n + 8) 85 [.ref 0, .int (nI r)] g (sp_Ri (fun x g' => x = nI (sp_mo n K T P n 0 0 v (fun _ => 0) (0, fun _ => 0)).1 ∧ sp_bqX (sp_mo n K T P n 0 0 v (fun _ => 0) (0, fun _ => 0)).1 r g g' (some (sp_mo n K T P n 0 0 v (fun _ => 0) (0, fun _ => 0)).2))) := by
  refine sp_walkN (n := 3) sq_p_85 sq_l_85 (Nat.le_of_ble_eq_true rfl) (fun ac hA => ?_)
  show sp_Ev X ac 85 0 [.ref 0, .int (nI r), .null] [] g
  refine sr_aload_n hA si_85_0 rfl ?_
  refine sr_getR (r := 1) hA si_85_1 sf_85_14 (by decide) (by decide) rfl rfl rfl ?_
  refine sr_iload_n hA si_85_4 rfl ?_
  refine sr_VFi (c := 1) (ci := 5) (as := [.int (nI r)]) (st := []) hA si_85_5 sv_11 sk_85_72 (xc_numR1 X g (by omega)) (by omega) rfl (by decide) (by decide) rfl sq_c_11 rfl (Nat.le_of_ble_eq_true rfl) ?_
  refine sr_if_neN (tgt := 13) hA si_85_8 (by decide) (by omega) (fun c1 => ?_) (fun c1 => absurd c1 (by omega))
  refine sr_aload_n hA si_85_13 rfl ?_
  refine sr_getR (r := 18) hA si_85_14 sf_85_32 (by decide) (by decide) rfl rfl rfl ?_
  refine sr_getIv (v := nI n) hA si_85_17 sf_85_145 (by decide) (by decide) rfl (by decide) hn ?_
  refine sr_if_neN (tgt := 26) hA si_85_20 (by decide) (by omega) (fun c2 => ?_) (fun c2 => absurd c2 (by omega))
  refine sr_aload_n hA si_85_26 rfl ?_
  refine sr_getR (r := 17) hA si_85_27 sf_85_24 (by decide) (by decide) rfl rfl rfl ?_
  refine sr_aload_n hA si_85_30 rfl ?_
  refine sr_getR (r := 41) hA si_85_31 sf_85_36 (by decide) (by decide) rfl rfl rfl ?_
  refine sr_VRi (c := 17) (ci := 4) (as := [.ref 41]) (st := []) hA si_85_34 sv_86 sk_85_241 (xb_mu X g (v := v) hn0 hK hv hB hAb hBb) (by omega) rfl (by decide) (by decide) rfl sq_c_86 rfl (Nat.le_of_ble_eq_true rfl) (fun xv g1 q1 => ?_)
  obtain ⟨S, eS⟩ : ∃ z, z = (sp_mo n K T P n 0 0 v (fun _ => 0) (0, fun _ => 0)) := ⟨_, rfl⟩
  rw [← eS] at q1
  obtain ⟨exv, ax, hqo, hSn⟩ := q1
  subst exv
  refine sr_istore_n (ls1 := [.ref 0, .int (nI r), .int (nI S.1)]) hA si_85_37 rfl (by rw [sq_l_85]; decide) rfl ?_
  refine sr_aload_n hA si_85_38 rfl ?_
  refine sr_getR (r := 17) hA si_85_39 sf_85_24 (by decide) (by decide) rfl rfl rfl ?_
  refine sr_aload_n hA si_85_42 rfl ?_
  refine sr_getR (r := 1) hA si_85_43 sf_85_14 (by decide) (by decide) rfl rfl rfl ?_
  refine sr_iload_n hA si_85_46 rfl ?_
  refine sr_VRv (c := 17) (ci := 4) (as := [.ref 1, .int (nI r)]) (st := []) hA si_85_47 sv_81 sk_85_237 (xb_lay1 X g1 (r := r) (q := S.1) hr (by omega) hqo.1) (by omega) rfl (by decide) (by decide) rfl sq_c_81 rfl (Nat.le_of_ble_eq_true rfl) (fun g4 q4 => ?_)
  refine sr_iload_n hA si_85_50 rfl ?_
  exact sr_iretR hA si_85_51 sq_r_85 (by rw [← eS]; exact ⟨rfl, fun h => (by cases h), fun w h => (by cases h; exact ⟨g1, ax, q4, hqo.2⟩)⟩)
