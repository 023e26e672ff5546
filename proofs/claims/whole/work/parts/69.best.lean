/-! the notes that pay most -/
def sp_ey (P : Nat → Int32) (w : Nat → Nat) : Nat → Nat
  | 0 => 0
  | d + 1 => sp_ey P w d + (P (w d)).toNatClampNeg
theorem sp_ey_c {P : Nat → Int32} {w w' : Nat → Nat} : ∀ d, (∀ j, j < d → w j = w' j) → sp_ey P w d = sp_ey P w' d
  | 0, _ => rfl
  | d + 1, h => by
    show sp_ey P w d + _ = sp_ey P w' d + _
    rw [sp_ey_c d (fun j hj => h j (by omega)), h d (by omega)]
theorem sp_ey_un {P : Nat → Int32} {w : Nat → Nat} {d i p : Nat} (h : P i = nI p) (hp : p ≤ 9) : sp_ey P (sp_un w d i) (d + 1) = sp_ey P w d + p := by
  show sp_ey P (sp_un w d i) d + (P (sp_un w d i d)).toNatClampNeg = _
  rw [sp_ey_c (w := sp_un w d i) (w' := w) d (fun j hj => if_neg (by omega)), show sp_un w d i d = i from if_pos rfl, h, nI_clamp (by omega)]
abbrev sp_Es : Type := Option (Nat × (Nat → Nat))
def sp_le (P : Nat → Int32) (d : Nat) (_ : Nat → Int32) (w : Nat → Nat) (s : sp_Es) : sp_Es := match s with
  | none => some (sp_ey P w d, w)
  | some p => if p.1 < sp_ey P w d then some (sp_ey P w d, w) else some p
def sp_p9 (n tp : Nat) (P : Nat → Int32) : Prop := ∀ i, i < n → ∃ p, p ≤ tp ∧ P i = nI p
theorem sp_go_pr {n tp : Nat} {K T P : Nat → Int32} (hP : sp_p9 n tp P) (ht : tp ≤ 9) {b : Nat} {w0 : Nat → Nat} : ∀ (m d : Nat) (v : Nat → Int32) (w : Nat → Nat), sp_ey P w d + m * tp ≤ b → sp_go n K T P (sp_le P) m d v w (some (b, w0)) = some (b, w0)
  | 0, d, v, w, h => if_neg (by show ¬ b < sp_ey P w d; omega)
  | m + 1, d, v, w, h => by
    have key : ∀ i, i ≤ n → sp_gs n K T P (sp_le P) m d v w (some (b, w0)) i = some (b, w0) := fun i => by
      induction i with
      | zero => intro _; rfl
      | succ i ih =>
        intro hi
        by_cases hc : sp_cb (K i) (T i) (v i) = true
        · obtain ⟨p, p1, p2⟩ := hP i (by omega)
          rw [sp_gs1 hc, ih (by omega)]
          refine sp_go_pr hP ht m (d + 1) _ _ ?_
          rw [sp_ey_un p2 (by omega)]
          rw [Nat.succ_mul] at h
          omega
        · rw [sp_gs0 hc]; exact ih (by omega)
    exact key n (Nat.le_refl _)
theorem sp_e9 {n tp d : Nat} {P : Nat → Int32} {w : Nat → Nat} (hP : sp_p9 n tp P) (ht : tp ≤ 9) (hw : ∀ j, j < d → w j < n) : sp_ey P w d ≤ 9 * d := by
  induction d with
  | zero => exact Nat.le_refl _
  | succ d ih =>
    obtain ⟨p, p1, p2⟩ := hP (w d) (hw d (by omega))
    have := ih (fun j hj => hw j (by omega))
    show sp_ey P w d + (P (w d)).toNatClampNeg ≤ _
    rw [p2, nI_clamp (by omega)]
    omega
theorem sp_un_lt {n d i : Nat} {w : Nat → Nat} (hw : ∀ j, j < d → w j < n) (hi : i < n) : ∀ j, j < d + 1 → sp_un w d i j < n := fun j hj => by
  unfold sp_un
  by_cases e : j = d
  · rw [if_pos e]; exact hi
  · rw [if_neg e]; exact hw j (by omega)
def sp_qp (q : Nat) (g : sp_G) (s : sp_Es) : Prop := (s = none → g.1 17 6 = -9 ∧ g.1 17 5 = -1) ∧ ∀ b w, s = some (b, w) → b ≤ 100 ∧ g.1 17 6 = nI b ∧ g.1 17 5 = nI q ∧ ∀ j, j < q → g.1 38 j = nI (w j)
theorem sp_qp.stp {q d i : Nat} {g g1 : sp_G} {s : sp_Es} {u : Nat → Int32} {p : Int32} (h : sp_qp q g s) (k : sp_stp d g g1 i u p) (hd : d < 6) : sp_qp q g1 s := by
  have e17 := k.1 17 (by omega) (by omega) (by omega)
  have e38 := k.1 38 (by omega) (by omega) (by omega)
  unfold sp_qp
  rw [e17, e38]
  exact h
theorem sp_cnc (x y : Int32) : x + y - x = y := by
  apply Int32.toBitVec_inj.mp
  rw [Int32.toBitVec_sub, Int32.toBitVec_add, BitVec.add_comm, BitVec.add_sub_cancel]
set_option maxRecDepth 20000 in
theorem xl_tp {X : sp_X} {ac : sp_Ac} {g : sp_G} {n : Nat} {K T P : Nat → Int32} (hK : sp_KX n K T P g) (hP : sp_p9 n 9 P) (hA : sp_Act X 91 1 (sp_Ri (fun x g' => g' = g ∧ ∃ t, x = nI t ∧ t ≤ 9 ∧ sp_p9 n t P)) ac) : ∀ (m : Nat) (i : Nat) (t : Nat), i + m = n → t ≤ 9 → sp_p9 i t P → sp_Ev X ac 91 4 [.ref 18, .int (nI t), .int (nI i)] [] g := by
  intro m
  induction m with
  | zero =>
    intro i t h0_ h1_ h2_
    have hn6 := hK.2.1
    refine sr_iload_n hA si_91_4 rfl ?_
    refine sr_aload_n hA si_91_5 rfl ?_
    refine sr_getIv (v := nI n) hA si_91_6 sf_91_21 (by decide) (by decide) rfl (by decide) hK.1 ?_
    refine sr_icmp_geN (tgt := 29) hA si_91_9 (by decide) (by omega) (by omega) (fun c1 => ?_) (fun c1 => absurd c1 (by omega))
    refine sr_iload_n hA si_91_29 rfl ?_
    exact sr_iretR hA si_91_30 sq_r_91 ⟨rfl, t, rfl, h1_, by rw [show n = i by omega]; exact h2_⟩
  | succ m ih =>
    intro i t h0_ h1_ h2_
    have hn6 := hK.2.1
    obtain ⟨p, hp, ep⟩ := hP i (by omega)
    refine sr_iload_n hA si_91_4 rfl ?_
    refine sr_aload_n hA si_91_5 rfl ?_
    refine sr_getIv (v := nI n) hA si_91_6 sf_91_21 (by decide) (by decide) rfl (by decide) hK.1 ?_
    refine sr_icmp_geN (tgt := 29) hA si_91_9 (by decide) (by omega) (by omega) (fun c1 => absurd c1 (by omega)) (fun c1 => ?_)
    refine sr_iload_n hA si_91_12 rfl ?_
    refine sr_aload_n hA si_91_13 rfl ?_
    refine sr_getR (r := 21) hA si_91_14 sf_91_18 (by decide) (by decide) rfl rfl rfl ?_
    refine sr_iload_n hA si_91_17 rfl ?_
    refine sr_ialdNv (v := nI p) (n := 6) hA si_91_18 (by decide) rfl rfl (by omega) (by decide) ((hK.2.2 i (by omega)).2.2.1.trans ep) ?_
    refine sr_mmax hA si_91_19 sk_91_38 (by omega) (Nat.le_of_ble_eq_true rfl) ?_
    rw [sp_maxN (a := t) (b := p) (by omega) (by omega)]
    refine sr_istore_n (ls1 := [.ref 18, .int (nI (max t p)), .int (nI i)]) hA si_91_22 rfl (by rw [sq_l_91]; decide) rfl ?_
    refine sr_iincN (x := i) (y := 1) (ls1 := [.ref 18, .int (nI (max t p)), .int (nI (i + 1))]) hA si_91_23 rfl rfl (by rw [sq_l_91]; decide) rfl ?_
    refine sr_goto (tgt := 4) hA si_91_26 (by decide) ?_
    exact ih (i + 1) (max t p) (by omega) (by omega) (fun j hj => by
      by_cases e : j = i
      · subst e; exact ⟨p, by omega, ep⟩
      · obtain ⟨p2, a1, a2⟩ := h2_ j (by omega)
        exact ⟨p2, by omega, a2⟩)
set_option maxRecDepth 20000 in
theorem xb_tp (X : sp_X) (g : sp_G) {n : Nat} {K T P : Nat → Int32} (hK : sp_KX n K T P g) (hP : sp_p9 n 9 P) : sp_Ct X 1 91 [.ref 18] g (sp_Ri (fun x g' => g' = g ∧ ∃ t, x = nI t ∧ t ≤ 9 ∧ sp_p9 n t P)) := by
  refine sp_walkN (n := 3) sq_p_91 sq_l_91 (Nat.le_of_ble_eq_true rfl) (fun ac hA => ?_)
  show sp_Ev X ac 91 0 [.ref 18, .null, .null] [] g
  refine sr_iconst (v := nI 0) hA si_91_0 (by decide) ?_
  refine sr_istore_n (ls1 := [.ref 18, .int (nI 0), .null]) hA si_91_1 rfl (by rw [sq_l_91]; decide) rfl ?_
  refine sr_iconst (v := nI 0) hA si_91_2 (by decide) ?_
  refine sr_istore_n (ls1 := [.ref 18, .int (nI 0), .int (nI 0)]) hA si_91_3 rfl (by rw [sq_l_91]; decide) rfl ?_
  exact xl_tp hK hP hA n 0 0 (by omega) (by omega) (fun j hj => absurd hj (by omega))
set_option maxRecDepth 20000 in
theorem xb_pdA (X : sp_X) (g : sp_G) {d m q n tp : Nat} {K T P v : Nat → Int32} {w : Nat → Nat} {s : sp_Es} (hd : d + m = q) (hq5 : q ≤ 5) (hK : sp_KX n K T P g) (ht9 : tp ≤ 9) (h7 : g.1 17 7 = nI tp) (hP : sp_p9 n tp P) (hwn : ∀ j, j < d → w j < n) (hE : g.1 (23 + d) 3 = nI (sp_ey P w d)) (hq0 : sp_qp q g s) {b : Nat} {w0 : Nat → Nat} (hs : s = some (b, w0)) (hpr : sp_ey P w d + m * tp ≤ b) : sp_Ct X (m + 5) 92 [.ref 17, .int (nI d), .int (nI m)] g (sp_Fv g) := by
  have hn6 := hK.2.1
  obtain ⟨e, ee⟩ : ∃ z, z = sp_ey P w d := ⟨_, rfl⟩
  have he9 : e ≤ 9 * d := by rw [ee]; exact sp_e9 hP ht9 hwn
  rw [← ee] at hE
  have hmt : m * tp ≤ m * 9 := Nat.mul_le_mul_left _ ht9
  rw [← ee] at hpr
  obtain ⟨hb100, hb6, -⟩ := hq0.2 b w0 hs
  refine sp_walkN (n := 5) sq_p_92 sq_l_92 (Nat.le_of_ble_eq_true rfl) (fun ac hA => ?_)
  show sp_Ev X ac 92 0 [.ref 17, .int (nI d), .int (nI m), .null, .null] [] g
  refine sr_aload_n hA si_92_0 rfl ?_
  refine sr_getR (r := 22) hA si_92_1 sf_92_20 (by decide) (by decide) rfl rfl rfl ?_
  refine sr_iload_n hA si_92_4 rfl ?_
  refine sr_aaldN (r := (23 + d)) (n := 7) hA si_92_5 (by decide) (by decide) rfl (by omega) (by decide) (sp_bhr (by omega)) ?_
  refine sr_getIv (v := nI e) hA si_92_6 sf_92_60 (by decide) (sp_bh (by omega)).1 (sp_bh (by omega)).2.1 (by decide) hE ?_
  refine sr_istore_n (ls1 := [.ref 17, .int (nI d), .int (nI m), .int (nI e), .null]) hA si_92_9 rfl (by rw [sq_l_92]; decide) rfl ?_
  refine sr_iload_n hA si_92_10 rfl ?_
  refine sr_iload_n hA si_92_11 rfl ?_
  refine sr_aload_n hA si_92_12 rfl ?_
  refine sr_getIv (v := nI tp) hA si_92_13 sf_92_118 (by decide) (by decide) rfl (by decide) h7 ?_
  refine sr_imulN hA si_92_16 ?_
  refine sr_iaddN hA si_92_17 ?_
  refine sr_aload_n hA si_92_18 rfl ?_
  refine sr_getIv (v := nI b) hA si_92_19 sf_92_111 (by decide) (by decide) rfl (by decide) hb6 ?_
  refine sr_icmp_gtN (tgt := 26) hA si_92_22 (by decide) (by omega) (by omega) (fun c1 => absurd c1 (by omega)) (fun c1 => ?_)
  exact sr_vretF hA si_92_25 sq_r_92 rfl
theorem sp_lvx.w17 {d j : Nat} {g : sp_G} {x : Int32} : sp_lvx d g (sp_wI g 17 j x) := ⟨fun c hc => sp_wI_ne (by omega), fun k _ => by rw [sp_wI_ne (by decide)], fun _ _ => rfl⟩
theorem sp_qpL {q d e : Nat} {g g1 : sp_G} {w : Nat → Nat} (hd : d = q) (q1 : sp_rmb d (sp_wI g 17 6 (nI e)) g1) (he : e ≤ 100) (hw : sp_wy g d w) : sp_qp q g1 (some (e, w)) := by
  refine ⟨fun h => (by cases h), fun b w' h => ?_⟩
  cases h
  subst hd
  exact ⟨he, (q1.2.2.1 6 (by decide)).trans rfl, q1.2.2.2.1, fun j hj => (q1.2.2.2.2 j hj).trans (hw j hj)⟩
set_option maxRecDepth 20000 in
theorem xb_pdB (X : sp_X) (g : sp_G) {d q n tp : Nat} {K T P v : Nat → Int32} {w : Nat → Nat} {s : sp_Es} (hd0 : d = q) (hq5 : q ≤ 5) (hK : sp_KX n K T P g) (ht9 : tp ≤ 9) (h7 : g.1 17 7 = nI tp) (hP : sp_p9 n tp P) (hwn : ∀ j, j < d → w j < n) (hE : g.1 (23 + d) 3 = nI (sp_ey P w d)) (hq0 : sp_qp q g s) (hwy : sp_wy g d w) (hs : s = none) : sp_Ct X 5 92 [.ref 17, .int (nI d), .int (nI 0)] g (sp_Rv (fun g' => sp_lvx d g g' ∧ g'.1 17 7 = g.1 17 7 ∧ sp_qp q g' (sp_go n K T P (sp_le P) 0 d v w s))) := by
  have hn6 := hK.2.1
  obtain ⟨e, ee⟩ : ∃ z, z = sp_ey P w d := ⟨_, rfl⟩
  have he9 : e ≤ 9 * d := by rw [ee]; exact sp_e9 hP ht9 hwn
  rw [← ee] at hE
  have hgo : sp_go n K T P (sp_le P) 0 d v w s = some (e, w) := by rw [hs, ee]; rfl
  refine sp_walkN (n := 5) sq_p_92 sq_l_92 (Nat.le_of_ble_eq_true rfl) (fun ac hA => ?_)
  show sp_Ev X ac 92 0 [.ref 17, .int (nI d), .int (nI 0), .null, .null] [] g
  refine sr_aload_n hA si_92_0 rfl ?_
  refine sr_getR (r := 22) hA si_92_1 sf_92_20 (by decide) (by decide) rfl rfl rfl ?_
  refine sr_iload_n hA si_92_4 rfl ?_
  refine sr_aaldN (r := (23 + d)) (n := 7) hA si_92_5 (by decide) (by decide) rfl (by omega) (by decide) (sp_bhr (by omega)) ?_
  refine sr_getIv (v := nI e) hA si_92_6 sf_92_60 (by decide) (sp_bh (by omega)).1 (sp_bh (by omega)).2.1 (by decide) hE ?_
  refine sr_istore_n (ls1 := [.ref 17, .int (nI d), .int (nI 0), .int (nI e), .null]) hA si_92_9 rfl (by rw [sq_l_92]; decide) rfl ?_
  refine sr_iload_n hA si_92_10 rfl ?_
  refine sr_iload_n hA si_92_11 rfl ?_
  refine sr_aload_n hA si_92_12 rfl ?_
  refine sr_getIv (v := nI tp) hA si_92_13 sf_92_118 (by decide) (by decide) rfl (by decide) h7 ?_
  refine sr_imulN hA si_92_16 ?_
  refine sr_iaddN hA si_92_17 ?_
  refine sr_aload_n hA si_92_18 rfl ?_
  refine sr_getIv (v := (-9)) hA si_92_19 sf_92_111 (by decide) (by decide) rfl (by decide) (hq0.1 hs).1 ?_
  refine sr_icmp_gt (tgt := 26) hA si_92_22 (by decide) (fun c1 => ?_) (fun c1 => absurd (sp_n1 (show (-9 : Int32) < 0 by decide) (by omega)) c1)
  refine sr_iload_n hA si_92_26 rfl ?_
  refine sr_if_neN (tgt := 41) hA si_92_27 (by decide) (by omega) (fun c2 => absurd c2 (by omega)) (fun c2 => ?_)
  refine sr_aload_n hA si_92_30 rfl ?_
  refine sr_iload_n hA si_92_31 rfl ?_
  refine sr_putI hA si_92_32 sf_92_111 rfl rfl (by decide) (by decide) rfl rfl ?_
  refine sr_aload_n hA si_92_35 rfl ?_
  refine sr_iload_n hA si_92_36 rfl ?_
  refine sr_VRv (c := 17) (ci := 4) (as := [.int (nI d)]) (st := []) hA si_92_37 sv_80 sk_92_84 (xb_rmb X (sp_wI g 17 6 (nI e)) (q := d) (by omega)) (by omega) rfl (by decide) (by decide) rfl sq_c_80 rfl (Nat.le_of_ble_eq_true rfl) (fun g1 q1 => ?_)
  exact sr_vretR hA si_92_40 sq_r_92 ⟨(sp_lvx.tr (sp_lvx.w17 (d := d) (j := 6) (x := nI e)) (q1.dx (by omega))), (q1.2.2.1 7 (by decide)).trans rfl, (by rw [hgo]; exact sp_qpL hd0 q1 (by omega) hwy)⟩
set_option maxRecDepth 20000 in
theorem xb_pdC (X : sp_X) (g : sp_G) {d q n tp : Nat} {K T P v : Nat → Int32} {w : Nat → Nat} {s : sp_Es} (hd0 : d = q) (hq5 : q ≤ 5) (hK : sp_KX n K T P g) (ht9 : tp ≤ 9) (h7 : g.1 17 7 = nI tp) (hP : sp_p9 n tp P) (hwn : ∀ j, j < d → w j < n) (hE : g.1 (23 + d) 3 = nI (sp_ey P w d)) (hq0 : sp_qp q g s) (hwy : sp_wy g d w) {b : Nat} {w0 : Nat → Nat} (hs : s = some (b, w0)) (hpr : ¬ sp_ey P w d ≤ b) : sp_Ct X 5 92 [.ref 17, .int (nI d), .int (nI 0)] g (sp_Rv (fun g' => sp_lvx d g g' ∧ g'.1 17 7 = g.1 17 7 ∧ sp_qp q g' (sp_go n K T P (sp_le P) 0 d v w s))) := by
  have hn6 := hK.2.1
  obtain ⟨e, ee⟩ : ∃ z, z = sp_ey P w d := ⟨_, rfl⟩
  have he9 : e ≤ 9 * d := by rw [ee]; exact sp_e9 hP ht9 hwn
  rw [← ee] at hE
  rw [← ee] at hpr
  obtain ⟨hb100, hb6, -⟩ := hq0.2 b w0 hs
  have hgo : sp_go n K T P (sp_le P) 0 d v w s = some (e, w) := by
    rw [hs, ee]
    exact if_pos (by show b < sp_ey P w d; omega)
  refine sp_walkN (n := 5) sq_p_92 sq_l_92 (Nat.le_of_ble_eq_true rfl) (fun ac hA => ?_)
  show sp_Ev X ac 92 0 [.ref 17, .int (nI d), .int (nI 0), .null, .null] [] g
  refine sr_aload_n hA si_92_0 rfl ?_
  refine sr_getR (r := 22) hA si_92_1 sf_92_20 (by decide) (by decide) rfl rfl rfl ?_
  refine sr_iload_n hA si_92_4 rfl ?_
  refine sr_aaldN (r := (23 + d)) (n := 7) hA si_92_5 (by decide) (by decide) rfl (by omega) (by decide) (sp_bhr (by omega)) ?_
  refine sr_getIv (v := nI e) hA si_92_6 sf_92_60 (by decide) (sp_bh (by omega)).1 (sp_bh (by omega)).2.1 (by decide) hE ?_
  refine sr_istore_n (ls1 := [.ref 17, .int (nI d), .int (nI 0), .int (nI e), .null]) hA si_92_9 rfl (by rw [sq_l_92]; decide) rfl ?_
  refine sr_iload_n hA si_92_10 rfl ?_
  refine sr_iload_n hA si_92_11 rfl ?_
  refine sr_aload_n hA si_92_12 rfl ?_
  refine sr_getIv (v := nI tp) hA si_92_13 sf_92_118 (by decide) (by decide) rfl (by decide) h7 ?_
  refine sr_imulN hA si_92_16 ?_
  refine sr_iaddN hA si_92_17 ?_
  refine sr_aload_n hA si_92_18 rfl ?_
  refine sr_getIv (v := nI b) hA si_92_19 sf_92_111 (by decide) (by decide) rfl (by decide) hb6 ?_
  refine sr_icmp_gtN (tgt := 26) hA si_92_22 (by decide) (by omega) (by omega) (fun c1 => ?_) (fun c1 => absurd c1 (by omega))
  refine sr_iload_n hA si_92_26 rfl ?_
  refine sr_if_neN (tgt := 41) hA si_92_27 (by decide) (by omega) (fun c2 => absurd c2 (by omega)) (fun c2 => ?_)
  refine sr_aload_n hA si_92_30 rfl ?_
  refine sr_iload_n hA si_92_31 rfl ?_
  refine sr_putI hA si_92_32 sf_92_111 rfl rfl (by decide) (by decide) rfl rfl ?_
  refine sr_aload_n hA si_92_35 rfl ?_
  refine sr_iload_n hA si_92_36 rfl ?_
  refine sr_VRv (c := 17) (ci := 4) (as := [.int (nI d)]) (st := []) hA si_92_37 sv_80 sk_92_84 (xb_rmb X (sp_wI g 17 6 (nI e)) (q := d) (by omega)) (by omega) rfl (by decide) (by decide) rfl sq_c_80 rfl (Nat.le_of_ble_eq_true rfl) (fun g1 q1 => ?_)
  exact sr_vretR hA si_92_40 sq_r_92 ⟨(sp_lvx.tr (sp_lvx.w17 (d := d) (j := 6) (x := nI e)) (q1.dx (by omega))), (q1.2.2.1 7 (by decide)).trans rfl, (by rw [hgo]; exact sp_qpL hd0 q1 (by omega) hwy)⟩
set_option maxRecDepth 20000 in
theorem xl_pd {X : sp_X} {ac : sp_Ac} {g : sp_G} {n d m q tp A Bq : Nat} {K T P v : Nat → Int32} {w : Nat → Nat} {s : sp_Es} (hd : d + (m + 1) = q) (hq5 : q ≤ 5) (hK : sp_KX n K T P g) (ht9 : tp ≤ 9) (h7 : g.1 17 7 = nI tp) (hP : sp_p9 n tp P) (hwn : ∀ j, j < d → w j < n) (hE : g.1 (23 + d) 3 = nI (sp_ey P w d)) (hw : sp_wy g d w) (hv : sp_h8 g (23 + d) (30 + d) v) (hB : sp_oB n A Bq v) (hAb : A < 2 ^ 20) (hBb : Bq < 2 ^ 20) (IH : ∀ (v : Nat → Int32) (w : Nat → Nat) (g : sp_G) (s : sp_Es), sp_KX n K T P g → g.1 17 7 = nI tp → (∀ j, j < d + 1 → w j < n) → g.1 (23 + (d + 1)) 3 = nI (sp_ey P w (d + 1)) → sp_wy g (d + 1) w → sp_h8 g (23 + (d + 1)) (30 + (d + 1)) v → sp_oB n (A + 2) (Bq + 2) v → sp_qp q g s → sp_Ct X (m + 5) 92 [.ref 17, .int (nI (d + 1)), .int (nI m)] g (sp_Rv (fun g' => sp_lvx (d + 1) g g' ∧ g'.1 17 7 = g.1 17 7 ∧ sp_qp q g' (sp_go n K T P (sp_le P) m (d + 1) v w s)))) (hA : sp_Act X 92 (m + 6) (sp_Rv (fun g' => sp_lvx d g g' ∧ g'.1 17 7 = g.1 17 7 ∧ sp_qp q g' (sp_go n K T P (sp_le P) (m + 1) d v w s))) ac) : ∀ (k : Nat) (i : Nat) (gg : sp_G), i + k = n → sp_lvx d g gg → gg.1 17 7 = g.1 17 7 → sp_qp q gg (sp_gs n K T P (sp_le P) m d v w s i) → sp_Ev X ac 92 44 [.ref 17, .int (nI d), .int (nI (m + 1)), .null, .int (nI i)] [] gg := by
  intro k
  induction k with
  | zero =>
    intro i gg h0_ h1_ h2_ h3_
    have hn6 := hK.2.1
    refine sr_iload hA si_92_44 rfl ?_
    refine sr_aload_n hA si_92_46 rfl ?_
    refine sr_getR (r := 18) hA si_92_47 sf_92_12 (by decide) (by decide) rfl rfl rfl ?_
    refine sr_getIv (v := nI n) hA si_92_50 sf_92_96 (by decide) (by decide) rfl (by decide) (hK.xa h1_.xa).1 ?_
    refine sr_icmp_geN (tgt := 82) hA si_92_53 (by decide) (by omega) (by omega) (fun c1 => ?_) (fun c1 => absurd c1 (by omega))
    exact sr_vretR hA si_92_82 sq_r_92 ⟨h1_, h2_, by rw [show i = n by omega] at h3_; exact h3_⟩
  | succ k ih =>
    intro i gg h0_ h1_ h2_ h3_
    have hn6 := hK.2.1
    refine sr_iload hA si_92_44 rfl ?_
    refine sr_aload_n hA si_92_46 rfl ?_
    refine sr_getR (r := 18) hA si_92_47 sf_92_12 (by decide) (by decide) rfl rfl rfl ?_
    refine sr_getIv (v := nI n) hA si_92_50 sf_92_96 (by decide) (by decide) rfl (by decide) (hK.xa h1_.xa).1 ?_
    refine sr_icmp_geN (tgt := 82) hA si_92_53 (by decide) (by omega) (by omega) (fun c1 => absurd c1 (by omega)) (fun c1 => ?_)
    refine sr_aload_n hA si_92_56 rfl ?_
    refine sr_iload_n hA si_92_57 rfl ?_
    refine sr_iload hA si_92_58 rfl ?_
    by_cases hcb : sp_cb (K i) (T i) (v i) = true
    · refine sr_VRi (c := 17) (ci := 4) (as := [.int (nI d), .int (nI i)]) (st := []) hA si_92_60 sv_88 sk_92_107 (xb_step1 X gg (d := d) (i := i) (by omega) (hK.xa h1_.xa) (by omega) (hv.dx h1_ (by omega)) hB (by omega) hcb) (by omega) rfl (by decide) (by decide) rfl sq_c_88 rfl (Nat.le_of_ble_eq_true rfl) (fun xs g1 qs => ?_)
      obtain ⟨exs, qs⟩ := qs
      subst exs
      have hl1 := h1_.tr (qs.dx (by omega))
      obtain ⟨p, hp9, ep⟩ := hP i (by omega)
      have h71 : g1.1 17 7 = nI tp := by rw [qs.1 17 (by omega) (by omega) (by omega)]; exact h2_.trans h7
      have hE1 : g1.1 (23 + (d + 1)) 3 = nI (sp_ey P (sp_un w d i) (d + 1)) := by
        rw [qs.2.2.2.2.2, h1_.1 (23 + d) (by omega), hE, ep, sp_ey_un ep (by omega), nI_add]
      refine sr_if_eqN (tgt := 76) hA si_92_63 (by decide) (by omega) (fun c2 => absurd c2 (by omega)) (fun c2 => ?_)
      refine sr_aload_n hA si_92_66 rfl ?_
      refine sr_iload_n hA si_92_67 rfl ?_
      refine sr_iconst (v := nI 1) hA si_92_68 (by decide) ?_
      refine sr_iaddN hA si_92_69 ?_
      refine sr_iload_n hA si_92_70 rfl ?_
      refine sr_iconst (v := nI 1) hA si_92_71 (by decide) ?_
      refine sr_isubN hA si_92_72 (by omega) ?_
      rw [show m + 1 - 1 = m by omega]
      refine sr_VRv (c := 17) (ci := 4) (as := [.int (nI (d + 1)), .int (nI m)]) (st := []) hA si_92_73 sv_92 sk_92_120 (IH (sp_pl n K P v i) (sp_un w d i) g1 (sp_gs n K T P (sp_le P) m d v w s i) (hK.xa hl1.xa) h71 (sp_un_lt hwn (by omega)) hE1 ((hw.dx h1_).stp qs) qs.2.2.2.2.1 (sp_oB.pl hB hn6 (by omega) (by omega) (by omega)) (h3_.stp qs (by omega))) (by omega) rfl (by decide) (by decide) rfl sq_c_92 rfl (Nat.le_of_ble_eq_true rfl) (fun g2 q2 => ?_)
      obtain ⟨hl2, h72, hr2⟩ := q2
      refine sr_iincN (x := i) (y := 1) (ls1 := [.ref 17, .int (nI d), .int (nI (m + 1)), .null, .int (nI (i + 1))]) hA si_92_76 rfl rfl (by rw [sq_l_92]; decide) rfl ?_
      refine sr_goto (tgt := 44) hA si_92_79 (by decide) ?_
      exact ih (i + 1) g2 (by omega) (hl1.tr (hl2.lo (by omega))) (h72.trans (h71.trans h7.symm)) (by rw [sp_gs1 hcb]; exact hr2)
    · refine sr_VFi (c := 17) (ci := 4) (as := [.int (nI d), .int (nI i)]) (st := []) hA si_92_60 sv_88 sk_92_107 (xb_step0 X gg (d := d) (i := i) (by omega) (hK.xa h1_.xa) (by omega) (hv.dx h1_ (by omega)) hcb) (by omega) rfl (by decide) (by decide) rfl sq_c_88 rfl (Nat.le_of_ble_eq_true rfl) ?_
      refine sr_if_eqN (tgt := 76) hA si_92_63 (by decide) (by omega) (fun c3 => ?_) (fun c3 => absurd c3 (by omega))
      refine sr_iincN (x := i) (y := 1) (ls1 := [.ref 17, .int (nI d), .int (nI (m + 1)), .null, .int (nI (i + 1))]) hA si_92_76 rfl rfl (by rw [sq_l_92]; decide) rfl ?_
      refine sr_goto (tgt := 44) hA si_92_79 (by decide) ?_
      exact ih (i + 1) gg (by omega) h1_ h2_ (by rw [sp_gs0 hcb]; exact h3_)
set_option maxRecDepth 20000 in
theorem xb_pdD {X : sp_X} {g : sp_G} {n d m q tp A Bq : Nat} {K T P v : Nat → Int32} {w : Nat → Nat} {s : sp_Es} (hd : d + (m + 1) = q) (hq5 : q ≤ 5) (hK : sp_KX n K T P g) (ht9 : tp ≤ 9) (h7 : g.1 17 7 = nI tp) (hP : sp_p9 n tp P) (hwn : ∀ j, j < d → w j < n) (hE : g.1 (23 + d) 3 = nI (sp_ey P w d)) (hw : sp_wy g d w) (hv : sp_h8 g (23 + d) (30 + d) v) (hB : sp_oB n A Bq v) (hAb : A < 2 ^ 20) (hBb : Bq < 2 ^ 20) (hq0 : sp_qp q g s) (IH : ∀ (v : Nat → Int32) (w : Nat → Nat) (g : sp_G) (s : sp_Es), sp_KX n K T P g → g.1 17 7 = nI tp → (∀ j, j < d + 1 → w j < n) → g.1 (23 + (d + 1)) 3 = nI (sp_ey P w (d + 1)) → sp_wy g (d + 1) w → sp_h8 g (23 + (d + 1)) (30 + (d + 1)) v → sp_oB n (A + 2) (Bq + 2) v → sp_qp q g s → sp_Ct X (m + 5) 92 [.ref 17, .int (nI (d + 1)), .int (nI m)] g (sp_Rv (fun g' => sp_lvx (d + 1) g g' ∧ g'.1 17 7 = g.1 17 7 ∧ sp_qp q g' (sp_go n K T P (sp_le P) m (d + 1) v w s)))) (hs : s = none) : sp_Ct X (m + 6) 92 [.ref 17, .int (nI d), .int (nI (m + 1))] g (sp_Rv (fun g' => sp_lvx d g g' ∧ g'.1 17 7 = g.1 17 7 ∧ sp_qp q g' (sp_go n K T P (sp_le P) (m + 1) d v w s))) := by
  have hn6 := hK.2.1
  obtain ⟨e, ee⟩ : ∃ z, z = sp_ey P w d := ⟨_, rfl⟩
  have he9 : e ≤ 9 * d := by rw [ee]; exact sp_e9 hP ht9 hwn
  have hE2 := hE
  rw [← ee] at hE
  have hmt : (m + 1) * tp ≤ (m + 1) * 9 := Nat.mul_le_mul_left _ ht9
  refine sp_walkN (n := 5) sq_p_92 sq_l_92 (Nat.le_of_ble_eq_true rfl) (fun ac hA => ?_)
  show sp_Ev X ac 92 0 [.ref 17, .int (nI d), .int (nI (m + 1)), .null, .null] [] g
  refine sr_aload_n hA si_92_0 rfl ?_
  refine sr_getR (r := 22) hA si_92_1 sf_92_20 (by decide) (by decide) rfl rfl rfl ?_
  refine sr_iload_n hA si_92_4 rfl ?_
  refine sr_aaldN (r := (23 + d)) (n := 7) hA si_92_5 (by decide) (by decide) rfl (by omega) (by decide) (sp_bhr (by omega)) ?_
  refine sr_getIv (v := nI e) hA si_92_6 sf_92_60 (by decide) (sp_bh (by omega)).1 (sp_bh (by omega)).2.1 (by decide) hE ?_
  refine sr_istore_n (ls1 := [.ref 17, .int (nI d), .int (nI (m + 1)), .int (nI e), .null]) hA si_92_9 rfl (by rw [sq_l_92]; decide) rfl ?_
  refine sr_iload_n hA si_92_10 rfl ?_
  refine sr_iload_n hA si_92_11 rfl ?_
  refine sr_aload_n hA si_92_12 rfl ?_
  refine sr_getIv (v := nI tp) hA si_92_13 sf_92_118 (by decide) (by decide) rfl (by decide) h7 ?_
  refine sr_imulN hA si_92_16 ?_
  refine sr_iaddN hA si_92_17 ?_
  refine sr_aload_n hA si_92_18 rfl ?_
  refine sr_getIv (v := (-9)) hA si_92_19 sf_92_111 (by decide) (by decide) rfl (by decide) (hq0.1 hs).1 ?_
  refine sr_icmp_gt (tgt := 26) hA si_92_22 (by decide) (fun c1 => ?_) (fun c1 => absurd (sp_n1 (show (-9 : Int32) < 0 by decide) (by omega)) c1)
  refine sr_iload_n hA si_92_26 rfl ?_
  refine sr_if_neN (tgt := 41) hA si_92_27 (by decide) (by omega) (fun c2 => ?_) (fun c2 => absurd c2 (by omega))
  refine sr_iconst (v := nI 0) hA si_92_41 (by decide) ?_
  refine sr_istore (ls1 := [.ref 17, .int (nI d), .int (nI (m + 1)), .int (nI e), .int (nI 0)]) hA si_92_42 (by rw [sq_l_92]; decide) rfl ?_
  refine sr_fg (ls1 := [.ref 17, .int (nI d), .int (nI (m + 1)), .null, .int (nI 0)]) ⟨Or.inr rfl, Or.inr rfl, Or.inr rfl, Or.inl rfl, Or.inr rfl, trivial⟩ ?_
  exact xl_pd hd hq5 hK ht9 h7 hP hwn hE2 hw hv hB hAb hBb IH hA n 0 g (by omega) sp_lvx.rf rfl hq0
set_option maxRecDepth 20000 in
theorem xb_pdE {X : sp_X} {g : sp_G} {n d m q tp A Bq : Nat} {K T P v : Nat → Int32} {w : Nat → Nat} {s : sp_Es} (hd : d + (m + 1) = q) (hq5 : q ≤ 5) (hK : sp_KX n K T P g) (ht9 : tp ≤ 9) (h7 : g.1 17 7 = nI tp) (hP : sp_p9 n tp P) (hwn : ∀ j, j < d → w j < n) (hE : g.1 (23 + d) 3 = nI (sp_ey P w d)) (hw : sp_wy g d w) (hv : sp_h8 g (23 + d) (30 + d) v) (hB : sp_oB n A Bq v) (hAb : A < 2 ^ 20) (hBb : Bq < 2 ^ 20) (hq0 : sp_qp q g s) (IH : ∀ (v : Nat → Int32) (w : Nat → Nat) (g : sp_G) (s : sp_Es), sp_KX n K T P g → g.1 17 7 = nI tp → (∀ j, j < d + 1 → w j < n) → g.1 (23 + (d + 1)) 3 = nI (sp_ey P w (d + 1)) → sp_wy g (d + 1) w → sp_h8 g (23 + (d + 1)) (30 + (d + 1)) v → sp_oB n (A + 2) (Bq + 2) v → sp_qp q g s → sp_Ct X (m + 5) 92 [.ref 17, .int (nI (d + 1)), .int (nI m)] g (sp_Rv (fun g' => sp_lvx (d + 1) g g' ∧ g'.1 17 7 = g.1 17 7 ∧ sp_qp q g' (sp_go n K T P (sp_le P) m (d + 1) v w s)))) {b : Nat} {w0 : Nat → Nat} (hs : s = some (b, w0)) (hpr : ¬ sp_ey P w d + (m + 1) * tp ≤ b) : sp_Ct X (m + 6) 92 [.ref 17, .int (nI d), .int (nI (m + 1))] g (sp_Rv (fun g' => sp_lvx d g g' ∧ g'.1 17 7 = g.1 17 7 ∧ sp_qp q g' (sp_go n K T P (sp_le P) (m + 1) d v w s))) := by
  have hn6 := hK.2.1
  obtain ⟨e, ee⟩ : ∃ z, z = sp_ey P w d := ⟨_, rfl⟩
  have he9 : e ≤ 9 * d := by rw [ee]; exact sp_e9 hP ht9 hwn
  have hE2 := hE
  rw [← ee] at hE
  have hmt : (m + 1) * tp ≤ (m + 1) * 9 := Nat.mul_le_mul_left _ ht9
  rw [← ee] at hpr
  obtain ⟨hb100, hb6, -⟩ := hq0.2 b w0 hs
  refine sp_walkN (n := 5) sq_p_92 sq_l_92 (Nat.le_of_ble_eq_true rfl) (fun ac hA => ?_)
  show sp_Ev X ac 92 0 [.ref 17, .int (nI d), .int (nI (m + 1)), .null, .null] [] g
  refine sr_aload_n hA si_92_0 rfl ?_
  refine sr_getR (r := 22) hA si_92_1 sf_92_20 (by decide) (by decide) rfl rfl rfl ?_
  refine sr_iload_n hA si_92_4 rfl ?_
  refine sr_aaldN (r := (23 + d)) (n := 7) hA si_92_5 (by decide) (by decide) rfl (by omega) (by decide) (sp_bhr (by omega)) ?_
  refine sr_getIv (v := nI e) hA si_92_6 sf_92_60 (by decide) (sp_bh (by omega)).1 (sp_bh (by omega)).2.1 (by decide) hE ?_
  refine sr_istore_n (ls1 := [.ref 17, .int (nI d), .int (nI (m + 1)), .int (nI e), .null]) hA si_92_9 rfl (by rw [sq_l_92]; decide) rfl ?_
  refine sr_iload_n hA si_92_10 rfl ?_
  refine sr_iload_n hA si_92_11 rfl ?_
  refine sr_aload_n hA si_92_12 rfl ?_
  refine sr_getIv (v := nI tp) hA si_92_13 sf_92_118 (by decide) (by decide) rfl (by decide) h7 ?_
  refine sr_imulN hA si_92_16 ?_
  refine sr_iaddN hA si_92_17 ?_
  refine sr_aload_n hA si_92_18 rfl ?_
  refine sr_getIv (v := nI b) hA si_92_19 sf_92_111 (by decide) (by decide) rfl (by decide) hb6 ?_
  refine sr_icmp_gtN (tgt := 26) hA si_92_22 (by decide) (by omega) (by omega) (fun c1 => ?_) (fun c1 => absurd c1 (by omega))
  refine sr_iload_n hA si_92_26 rfl ?_
  refine sr_if_neN (tgt := 41) hA si_92_27 (by decide) (by omega) (fun c2 => ?_) (fun c2 => absurd c2 (by omega))
  refine sr_iconst (v := nI 0) hA si_92_41 (by decide) ?_
  refine sr_istore (ls1 := [.ref 17, .int (nI d), .int (nI (m + 1)), .int (nI e), .int (nI 0)]) hA si_92_42 (by rw [sq_l_92]; decide) rfl ?_
  refine sr_fg (ls1 := [.ref 17, .int (nI d), .int (nI (m + 1)), .null, .int (nI 0)]) ⟨Or.inr rfl, Or.inr rfl, Or.inr rfl, Or.inl rfl, Or.inr rfl, trivial⟩ ?_
  exact xl_pd hd hq5 hK ht9 h7 hP hwn hE2 hw hv hB hAb hBb IH hA n 0 g (by omega) sp_lvx.rf rfl hq0
theorem xb_pd (X : sp_X) {n q tp : Nat} {K T P : Nat → Int32} (hq5 : q ≤ 5) (ht9 : tp ≤ 9) (hP : sp_p9 n tp P) : ∀ (m d A Bq : Nat) (v : Nat → Int32) (w : Nat → Nat) (g : sp_G) (s : sp_Es), d + m = q → A + 2 * m < 2 ^ 20 → Bq + 2 * m < 2 ^ 20 → sp_KX n K T P g → g.1 17 7 = nI tp → (∀ j, j < d → w j < n) → g.1 (23 + d) 3 = nI (sp_ey P w d) → sp_wy g d w → sp_h8 g (23 + d) (30 + d) v → sp_oB n A Bq v → sp_qp q g s → sp_Ct X (m + 5) 92 [.ref 17, .int (nI d), .int (nI m)] g (sp_Rv (fun g' => sp_lvx d g g' ∧ g'.1 17 7 = g.1 17 7 ∧ sp_qp q g' (sp_go n K T P (sp_le P) m d v w s))) := fun m => by
  induction m with
  | zero =>
    intro d A Bq v w g s hd hA hB hK h7 hwn hE hw hv hO hq0
    rcases hs : s with _ | ⟨b, w0⟩
    · rw [← hs]
      exact xb_pdB X g (by omega) hq5 hK ht9 h7 hP hwn hE hq0 hw hs
    · by_cases hpr : sp_ey P w d + 0 * tp ≤ b
      · refine (xb_pdA X g (v := v) (m := 0) (by omega) hq5 hK ht9 h7 hP hwn hE hq0 hs hpr).mono (fun r g' q1 => ?_)
        obtain ⟨e1, rfl⟩ := q1
        refine ⟨e1, sp_lvx.rf, rfl, ?_⟩
        rw [sp_go_pr hP ht9 0 d v w hpr, ← hs]
        exact hq0
      · rw [← hs]
        exact xb_pdC X g (by omega) hq5 hK ht9 h7 hP hwn hE hq0 hw hs (by omega)
  | succ m ih =>
    intro d A Bq v w g s hd hA hB hK h7 hwn hE hw hv hO hq0
    rcases hs : s with _ | ⟨b, w0⟩
    · rw [← hs]
      exact xb_pdD hd hq5 hK ht9 h7 hP hwn hE hw hv hO (by omega) (by omega) hq0 (fun v' w' g' s' a1 a2 a3 a4 a5 a6 a7 a8 => ih (d + 1) (A + 2) (Bq + 2) v' w' g' s' (by omega) (by omega) (by omega) a1 a2 a3 a4 a5 a6 a7 a8) hs
    · by_cases hpr : sp_ey P w d + (m + 1) * tp ≤ b
      · refine (xb_pdA X g (v := v) (m := m + 1) (by omega) hq5 hK ht9 h7 hP hwn hE hq0 hs hpr).mono (fun r g' q1 => ?_)
        obtain ⟨e1, rfl⟩ := q1
        refine ⟨e1, sp_lvx.rf, rfl, ?_⟩
        rw [sp_go_pr hP ht9 (m + 1) d v w hpr, ← hs]
        exact hq0
      · rw [← hs]
        exact xb_pdE hd hq5 hK ht9 h7 hP hwn hE hw hv hO (by omega) (by omega) hq0 (fun v' w' g' s' a1 a2 a3 a4 a5 a6 a7 a8 => ih (d + 1) (A + 2) (Bq + 2) v' w' g' s' (by omega) (by omega) (by omega) a1 a2 a3 a4 a5 a6 a7 a8) hs hpr
set_option maxRecDepth 20000 in
theorem xb_bp (X : sp_X) (g : sp_G) {n q A Bq : Nat} {K T P v : Nat → Int32} (hq5 : q ≤ 5) (hK : sp_KX n K T P g) (hP : sp_p9 n 9 P) (hv : sp_h8 g 41 42 v) (hB : sp_oB n A Bq v) (hAb : A < 2 ^ 19) (hBb : Bq < 2 ^ 19) : sp_Ct X (q + 6) 90 [.ref 17, .ref 41, .int (nI q)] g (sp_Ri (fun x g' => sp_xa g g' ∧ sp_qp q g' (sp_go n K T P (sp_le P) q 0 v (fun _ => 0) none) ∧ ((sp_go n K T P (sp_le P) q 0 v (fun _ => 0) none) = none → x = -9) ∧ ∀ b w, (sp_go n K T P (sp_le P) q 0 v (fun _ => 0) none) = some (b, w) → x = nI b)) := by
  refine sp_walkN (n := 3) sq_p_90 sq_l_90 (Nat.le_of_ble_eq_true rfl) (fun ac hA => ?_)
  show sp_Ev X ac 90 0 [.ref 17, .ref 41, .int (nI q)] [] g
  refine sr_aload_n hA si_90_0 rfl ?_
  refine sr_aload_n hA si_90_1 rfl ?_
  refine sr_VRv (c := 17) (ci := 4) (as := [.ref 41]) (st := []) hA si_90_2 sv_78 sk_90_77 (xb_begin X g sp_sd41 (by unfold sp_ap; omega) hv) (by omega) rfl (by decide) (by decide) rfl sq_c_78 rfl (Nat.le_of_ble_eq_true rfl) (fun g1 q1 => ?_)
  refine sr_aload_n hA si_90_5 rfl ?_
  refine sr_bipush (v := (-9)) hA si_90_6 (by decide) ?_
  refine sr_putI hA si_90_8 sf_90_111 rfl rfl (by decide) (by decide) rfl rfl ?_
  refine sr_aload_n hA si_90_11 rfl ?_
  refine sr_aload_n hA si_90_12 rfl ?_
  refine sr_getR (r := 18) hA si_90_13 sf_90_12 (by decide) (by decide) rfl rfl rfl ?_
  refine sr_VRi (c := 18) (ci := 0) (as := []) (st := [.ref 17]) hA si_90_16 sv_91 sk_90_114 (xb_tp X (sp_wI g1 17 6 (-9)) (hK.xa (q1.xa.wI (by unfold sp_xs; omega))) hP) (by omega) rfl (by decide) (by decide) rfl sq_c_91 rfl (Nat.le_of_ble_eq_true rfl) (fun xt g2 q2 => ?_)
  obtain ⟨rfl, t, ext, ht9, hPt⟩ := q2
  subst ext
  refine sr_putI hA si_90_19 sf_90_118 rfl rfl (by decide) (by decide) rfl rfl ?_
  refine sr_aload_n hA si_90_22 rfl ?_
  refine sr_iconst (v := nI 0) hA si_90_23 (by decide) ?_
  refine sr_iload_n hA si_90_24 rfl ?_
  have ax3 : sp_xa g (sp_wI (sp_wI g1 17 6 (-9)) 17 7 (nI t)) := (q1.xa.wI (by unfold sp_xs; omega)).wI (by unfold sp_xs; omega)
  refine sr_VRv (c := 17) (ci := 4) (as := [.int (nI 0), .int (nI q)]) (st := []) hA si_90_25 sv_92 sk_90_120 (xb_pd X (tp := t) hq5 ht9 hPt q 0 A Bq v (fun _ => 0) (sp_wI (sp_wI g1 17 6 (-9)) 17 7 (nI t)) none (by omega) (by omega) (by omega) (hK.xa ax3) rfl (fun j hj => absurd hj (by omega)) (q1.2.2.2.1) (fun j hj => absurd hj (by omega)) (fun j hj => q1.2.2.1 j hj) hB ⟨fun _ => ⟨rfl, q1.2.2.2.2.1⟩, fun b w h => (by cases h)⟩) (by omega) rfl (by decide) (by decide) rfl sq_c_92 rfl (Nat.le_of_ble_eq_true rfl) (fun g4 q4 => ?_)
  obtain ⟨S, eS⟩ : ∃ z, z = (sp_go n K T P (sp_le P) q 0 v (fun _ => 0) none) := ⟨_, rfl⟩
  rw [← eS] at q4
  obtain ⟨hl4, -, hqp⟩ := q4
  have ax4 := ax3.tr hl4.xa
  rcases hs : S with _ | ⟨b, w1⟩
  · have h6 := (hqp.1 hs).1
    refine sr_aload_n hA si_90_28 rfl ?_
    refine sr_getIv (v := (-9)) hA si_90_29 sf_90_111 (by decide) (by decide) rfl (by decide) h6 ?_
    exact sr_iretR hA si_90_32 sq_r_90 (by rw [← eS]; exact ⟨ax4, hqp, fun _ => rfl, fun b w h => (by rw [hs] at h; cases h)⟩)
  · obtain ⟨hb100, h6b, -⟩ := hqp.2 b w1 hs
    refine sr_aload_n hA si_90_28 rfl ?_
    refine sr_getIv (v := nI b) hA si_90_29 sf_90_111 (by decide) (by decide) rfl (by decide) h6b ?_
    exact sr_iretR hA si_90_32 sq_r_90 (by rw [← eS]; exact ⟨ax4, hqp, fun h => (by rw [hs] at h; cases h), fun b w h => (by rw [hs] at h; cases h; rfl)⟩)
def sp_gX (q t : Nat) (g g' : sp_G) (R : sp_Es) (x : Int32) : Prop := (R = none → x = -9 ∧ sp_xa g g') ∧ ∀ b w, R = some (b, w) → x = nI b ∧ sp_bqX q t g g' (some w)
def sp_gM (ce q t : Nat) (g g' : sp_G) (R : sp_Es) (x : Int32) : Prop := (R = none → x = -9 ∧ sp_ma g g') ∧ ∀ b w, R = some (b, w) → x = nI b ∧ sp_bqM ce q t g g' (some w)
theorem sp_Rel.ge {g g1 g2 : sp_G} {ce q t : Nat} {R : sp_Es} {x y : Int32} (h : sp_Rel g) (ht : t < 6) (hq : q ≤ 6) (hx : sp_gX q t g g1 R x) (hm : sp_gM ce q t g1 g2 R y) : y = x ∧ sp_Rel g2 := by
  cases R with
  | none =>
    obtain ⟨e1, a1⟩ := hx.1 rfl
    obtain ⟨e2, a2⟩ := hm.1 rfl
    exact ⟨e2.trans e1.symm, (h.xa a1).ma a2⟩
  | some p =>
    obtain ⟨b, w⟩ := p
    obtain ⟨e1, a1⟩ := hx.2 b w rfl
    obtain ⟨e2, a2⟩ := hm.2 b w rfl
    exact ⟨e2.trans e1.symm, h.bq ht hq a1 a2⟩
theorem sp_gX.o {q t : Nat} {g g1 : sp_G} {R : sp_Es} {x : Int32} (h : sp_gX q t g g1 R x) (ht : t < 6) : ∀ c, 63 < c → g1.1 c = g.1 c := fun c hc => by
  cases R with
  | none => exact (h.1 rfl).2.i c (by unfold sp_xs; omega)
  | some p =>
    obtain ⟨b, w⟩ := p
    obtain ⟨-, -, hb⟩ := h.2 b w rfl
    obtain ⟨g3, a1, a2, -⟩ := hb w rfl
    rw [a2.1 c (by omega) (by omega)]
    exact a1.i c (by unfold sp_xs; omega)
set_option maxRecDepth 20000 in
theorem xc_best_a (X : sp_X) (g : sp_G) {q : Int32} (hq : q < 0) (t : Int32) : sp_Ct X 9 89 [.ref 0, .int q, .int t] g (sp_Fi (-1) g) := by
  refine sp_walkN (n := 4) sq_p_89 sq_l_89 (Nat.le_of_ble_eq_true rfl) (fun a hA => ?_)
  show sp_Ev X a 89 0 [.ref 0, .int q, .int t, .null] [] g
  refine sr_iload_n hA si_89_0 rfl ?_
  refine sr_if_lt (tgt := 20) hA si_89_1 (by decide) (fun c1 => ?_) (fun c1 => absurd hq c1)
  refine sr_iconst (v := (-1)) hA si_89_20 (by decide) ?_
  exact sr_iretF hA si_89_21 sq_r_89 rfl rfl
set_option maxRecDepth 20000 in
theorem xc_best_b (X : sp_X) (g : sp_G) {q : Nat} (hq : 6 ≤ q) (hqb : q < 2 ^ 31) (t : Int32) : sp_Ct X 9 89 [.ref 0, .int (nI q), .int t] g (sp_Fi (-1) g) := by
  refine sp_walkN (n := 4) sq_p_89 sq_l_89 (Nat.le_of_ble_eq_true rfl) (fun a hA => ?_)
  show sp_Ev X a 89 0 [.ref 0, .int (nI q), .int t, .null] [] g
  refine sr_iload_n hA si_89_0 rfl ?_
  refine sr_if_ltN (tgt := 20) hA si_89_1 (by decide) (by omega) ?_
  refine sr_iload_n hA si_89_4 rfl ?_
  refine sr_iconst (v := nI 5) hA si_89_5 (by decide) ?_
  refine sr_icmp_gtN (tgt := 20) hA si_89_6 (by decide) (by omega) (by omega) (fun c2 => ?_) (fun c2 => absurd c2 (by omega))
  refine sr_iconst (v := (-1)) hA si_89_20 (by decide) ?_
  exact sr_iretF hA si_89_21 sq_r_89 rfl rfl
set_option maxRecDepth 20000 in
theorem xc_best_c (X : sp_X) (g : sp_G) {q : Nat} (hq5 : q ≤ 5) {t : Int32} (ht : t < 0) : sp_Ct X 9 89 [.ref 0, .int (nI q), .int t] g (sp_Fi (-1) g) := by
  refine sp_walkN (n := 4) sq_p_89 sq_l_89 (Nat.le_of_ble_eq_true rfl) (fun a hA => ?_)
  show sp_Ev X a 89 0 [.ref 0, .int (nI q), .int t, .null] [] g
  refine sr_iload_n hA si_89_0 rfl ?_
  refine sr_if_ltN (tgt := 20) hA si_89_1 (by decide) (by omega) ?_
  refine sr_iload_n hA si_89_4 rfl ?_
  refine sr_iconst (v := nI 5) hA si_89_5 (by decide) ?_
  refine sr_icmp_gtN (tgt := 20) hA si_89_6 (by decide) (by omega) (by omega) (fun c2 => absurd c2 (by omega)) (fun c2 => ?_)
  refine sr_aload_n hA si_89_9 rfl ?_
  refine sr_getR (r := 1) hA si_89_10 sf_89_14 (by decide) (by decide) rfl rfl rfl ?_
  refine sr_iload_n hA si_89_13 rfl ?_
  refine sr_VFi (c := 1) (ci := 5) (as := [.int t]) (st := []) hA si_89_14 sv_11 sk_89_72 (xc_numRM X g ht) (by omega) rfl (by decide) (by decide) rfl sq_c_11 rfl (Nat.le_of_ble_eq_true rfl) ?_
  refine sr_if_neN (tgt := 22) hA si_89_17 (by decide) (by omega) (fun c3 => absurd c3 (by omega)) (fun c3 => ?_)
  refine sr_iconst (v := (-1)) hA si_89_20 (by decide) ?_
  exact sr_iretF hA si_89_21 sq_r_89 rfl rfl
set_option maxRecDepth 20000 in
theorem xc_best_d (X : sp_X) (g : sp_G) {q : Nat} (hq5 : q ≤ 5) {t : Nat} (ht : 6 ≤ t) (htb : t < 2 ^ 31) : sp_Ct X 9 89 [.ref 0, .int (nI q), .int (nI t)] g (sp_Fi (-1) g) := by
  refine sp_walkN (n := 4) sq_p_89 sq_l_89 (Nat.le_of_ble_eq_true rfl) (fun a hA => ?_)
  show sp_Ev X a 89 0 [.ref 0, .int (nI q), .int (nI t), .null] [] g
  refine sr_iload_n hA si_89_0 rfl ?_
  refine sr_if_ltN (tgt := 20) hA si_89_1 (by decide) (by omega) ?_
  refine sr_iload_n hA si_89_4 rfl ?_
  refine sr_iconst (v := nI 5) hA si_89_5 (by decide) ?_
  refine sr_icmp_gtN (tgt := 20) hA si_89_6 (by decide) (by omega) (by omega) (fun c2 => absurd c2 (by omega)) (fun c2 => ?_)
  refine sr_aload_n hA si_89_9 rfl ?_
  refine sr_getR (r := 1) hA si_89_10 sf_89_14 (by decide) (by decide) rfl rfl rfl ?_
  refine sr_iload_n hA si_89_13 rfl ?_
  refine sr_VFi (c := 1) (ci := 5) (as := [.int (nI t)]) (st := []) hA si_89_14 sv_11 sk_89_72 (xc_numRH X g (by omega) (by omega)) (by omega) rfl (by decide) (by decide) rfl sq_c_11 rfl (Nat.le_of_ble_eq_true rfl) ?_
  refine sr_if_neN (tgt := 22) hA si_89_17 (by decide) (by omega) (fun c3 => absurd c3 (by omega)) (fun c3 => ?_)
  refine sr_iconst (v := (-1)) hA si_89_20 (by decide) ?_
  exact sr_iretF hA si_89_21 sq_r_89 rfl rfl
set_option maxRecDepth 20000 in
theorem xc_best_s (X : sp_X) (g : sp_G) {q : Nat} (hq5 : q ≤ 5) {t : Nat} (ht : t < 6) (hn : g.1 18 3 = nI 0) : sp_Ct X 9 89 [.ref 0, .int (nI q), .int (nI t)] g (sp_Fi (-4) g) := by
  refine sp_walkN (n := 4) sq_p_89 sq_l_89 (Nat.le_of_ble_eq_true rfl) (fun a hA => ?_)
  show sp_Ev X a 89 0 [.ref 0, .int (nI q), .int (nI t), .null] [] g
  refine sr_iload_n hA si_89_0 rfl ?_
  refine sr_if_ltN (tgt := 20) hA si_89_1 (by decide) (by omega) ?_
  refine sr_iload_n hA si_89_4 rfl ?_
  refine sr_iconst (v := nI 5) hA si_89_5 (by decide) ?_
  refine sr_icmp_gtN (tgt := 20) hA si_89_6 (by decide) (by omega) (by omega) (fun c2 => absurd c2 (by omega)) (fun c2 => ?_)
  refine sr_aload_n hA si_89_9 rfl ?_
  refine sr_getR (r := 1) hA si_89_10 sf_89_14 (by decide) (by decide) rfl rfl rfl ?_
  refine sr_iload_n hA si_89_13 rfl ?_
  refine sr_VFi (c := 1) (ci := 5) (as := [.int (nI t)]) (st := []) hA si_89_14 sv_11 sk_89_72 (xc_numR1 X g (by omega)) (by omega) rfl (by decide) (by decide) rfl sq_c_11 rfl (Nat.le_of_ble_eq_true rfl) ?_
  refine sr_if_neN (tgt := 22) hA si_89_17 (by decide) (by omega) (fun c3 => ?_) (fun c3 => absurd c3 (by omega))
  refine sr_aload_n hA si_89_22 rfl ?_
  refine sr_getR (r := 18) hA si_89_23 sf_89_32 (by decide) (by decide) rfl rfl rfl ?_
  refine sr_getIv (v := nI 0) hA si_89_26 sf_89_145 (by decide) (by decide) rfl (by decide) hn ?_
  refine sr_if_neN (tgt := 35) hA si_89_29 (by decide) (by omega) (fun c4 => absurd c4 (by omega)) (fun c4 => ?_)
  refine sr_bipush (v := (-4)) hA si_89_32 (by decide) ?_
  exact sr_iretF hA si_89_34 sq_r_89 rfl rfl
set_option maxRecDepth 20000 in
theorem mc_best_a (X : sp_X) (g : sp_G) {q : Int32} (hq : q < 0) (t : Int32) : sp_Ct X 9 204 [.ref 64, .int q, .int t] g (sp_Fi (-1) g) := by
  refine sp_walkN (n := 3) sq_p_204 sq_l_204 (Nat.le_of_ble_eq_true rfl) (fun a hA => ?_)
  show sp_Ev X a 204 0 [.ref 64, .int q, .int t] [] g
  refine sr_iload_n hA si_204_0 rfl ?_
  refine sr_iconst (v := nI 0) hA si_204_1 (by decide) ?_
  refine sr_iconst (v := nI 5) hA si_204_2 (by decide) ?_
  refine sr_SFi (as := [.int q, .int (nI 0), .int (nI 5)]) (st := []) hA si_204_3 ss_135 sk_204_83 (mc_inM X g hq (by omega)) (by omega) rfl rfl (Nat.le_of_ble_eq_true rfl) ?_
  refine sr_if_eqN (tgt := 16) hA si_204_6 (by decide) (by omega) (fun c1 => ?_) (fun c1 => absurd c1 (by omega))
  refine sr_iconst (v := (-1)) hA si_204_16 (by decide) ?_
  exact sr_iretF hA si_204_17 sq_r_204 rfl rfl
set_option maxRecDepth 20000 in
theorem mc_best_b (X : sp_X) (g : sp_G) {q : Nat} (hq : 6 ≤ q) (hqb : q < 2 ^ 31) (t : Int32) : sp_Ct X 9 204 [.ref 64, .int (nI q), .int t] g (sp_Fi (-1) g) := by
  refine sp_walkN (n := 3) sq_p_204 sq_l_204 (Nat.le_of_ble_eq_true rfl) (fun a hA => ?_)
  show sp_Ev X a 204 0 [.ref 64, .int (nI q), .int t] [] g
  refine sr_iload_n hA si_204_0 rfl ?_
  refine sr_iconst (v := nI 0) hA si_204_1 (by decide) ?_
  refine sr_iconst (v := nI 5) hA si_204_2 (by decide) ?_
  refine sr_SFi (as := [.int (nI q), .int (nI 0), .int (nI 5)]) (st := []) hA si_204_3 ss_135 sk_204_83 (mc_inH X g (by omega) (by omega)) (by omega) rfl rfl (Nat.le_of_ble_eq_true rfl) ?_
  refine sr_if_eqN (tgt := 16) hA si_204_6 (by decide) (by omega) (fun c1 => ?_) (fun c1 => absurd c1 (by omega))
  refine sr_iconst (v := (-1)) hA si_204_16 (by decide) ?_
  exact sr_iretF hA si_204_17 sq_r_204 rfl rfl
set_option maxRecDepth 20000 in
theorem mc_best_c (X : sp_X) (g : sp_G) {q : Nat} (hq5 : q ≤ 5) {t : Int32} (ht : t < 0) : sp_Ct X 9 204 [.ref 64, .int (nI q), .int t] g (sp_Fi (-1) g) := by
  refine sp_walkN (n := 3) sq_p_204 sq_l_204 (Nat.le_of_ble_eq_true rfl) (fun a hA => ?_)
  show sp_Ev X a 204 0 [.ref 64, .int (nI q), .int t] [] g
  refine sr_iload_n hA si_204_0 rfl ?_
  refine sr_iconst (v := nI 0) hA si_204_1 (by decide) ?_
  refine sr_iconst (v := nI 5) hA si_204_2 (by decide) ?_
  refine sr_SFi (as := [.int (nI q), .int (nI 0), .int (nI 5)]) (st := []) hA si_204_3 ss_135 sk_204_83 (mc_inN X g (by omega) (by omega) (by omega)) (by omega) rfl rfl (Nat.le_of_ble_eq_true rfl) ?_
  refine sr_if_eqN (tgt := 16) hA si_204_6 (by decide) (by omega) (fun c1 => absurd c1 (by omega)) (fun c1 => ?_)
  refine sr_iload_n hA si_204_9 rfl ?_
  refine sr_SFi (as := [.int t]) (st := []) hA si_204_10 ss_140 sk_204_93 (mc_isRowM X g ht) (by omega) rfl rfl (Nat.le_of_ble_eq_true rfl) ?_
  refine sr_if_neN (tgt := 18) hA si_204_13 (by decide) (by omega) (fun c2 => absurd c2 (by omega)) (fun c2 => ?_)
  refine sr_iconst (v := (-1)) hA si_204_16 (by decide) ?_
  exact sr_iretF hA si_204_17 sq_r_204 rfl rfl
set_option maxRecDepth 20000 in
theorem mc_best_d (X : sp_X) (g : sp_G) {q : Nat} (hq5 : q ≤ 5) {t : Nat} (ht : 6 ≤ t) (htb : t < 2 ^ 31) : sp_Ct X 9 204 [.ref 64, .int (nI q), .int (nI t)] g (sp_Fi (-1) g) := by
  refine sp_walkN (n := 3) sq_p_204 sq_l_204 (Nat.le_of_ble_eq_true rfl) (fun a hA => ?_)
  show sp_Ev X a 204 0 [.ref 64, .int (nI q), .int (nI t)] [] g
  refine sr_iload_n hA si_204_0 rfl ?_
  refine sr_iconst (v := nI 0) hA si_204_1 (by decide) ?_
  refine sr_iconst (v := nI 5) hA si_204_2 (by decide) ?_
  refine sr_SFi (as := [.int (nI q), .int (nI 0), .int (nI 5)]) (st := []) hA si_204_3 ss_135 sk_204_83 (mc_inN X g (by omega) (by omega) (by omega)) (by omega) rfl rfl (Nat.le_of_ble_eq_true rfl) ?_
  refine sr_if_eqN (tgt := 16) hA si_204_6 (by decide) (by omega) (fun c1 => absurd c1 (by omega)) (fun c1 => ?_)
  refine sr_iload_n hA si_204_9 rfl ?_
  refine sr_SFi (as := [.int (nI t)]) (st := []) hA si_204_10 ss_140 sk_204_93 (mc_isRowH X g (by omega) (by omega)) (by omega) rfl rfl (Nat.le_of_ble_eq_true rfl) ?_
  refine sr_if_neN (tgt := 18) hA si_204_13 (by decide) (by omega) (fun c2 => absurd c2 (by omega)) (fun c2 => ?_)
  refine sr_iconst (v := (-1)) hA si_204_16 (by decide) ?_
  exact sr_iretF hA si_204_17 sq_r_204 rfl rfl
set_option maxRecDepth 20000 in
theorem mc_best_s (X : sp_X) (g : sp_G) {q : Nat} (hq5 : q ≤ 5) {t : Nat} (ht : t < 6) (hn : g.1 64 11 = nI 0) : sp_Ct X 9 204 [.ref 64, .int (nI q), .int (nI t)] g (sp_Fi (-4) g) := by
  refine sp_walkN (n := 3) sq_p_204 sq_l_204 (Nat.le_of_ble_eq_true rfl) (fun a hA => ?_)
  show sp_Ev X a 204 0 [.ref 64, .int (nI q), .int (nI t)] [] g
  refine sr_iload_n hA si_204_0 rfl ?_
  refine sr_iconst (v := nI 0) hA si_204_1 (by decide) ?_
  refine sr_iconst (v := nI 5) hA si_204_2 (by decide) ?_
  refine sr_SFi (as := [.int (nI q), .int (nI 0), .int (nI 5)]) (st := []) hA si_204_3 ss_135 sk_204_83 (mc_inN X g (by omega) (by omega) (by omega)) (by omega) rfl rfl (Nat.le_of_ble_eq_true rfl) ?_
  refine sr_if_eqN (tgt := 16) hA si_204_6 (by decide) (by omega) (fun c1 => absurd c1 (by omega)) (fun c1 => ?_)
  refine sr_iload_n hA si_204_9 rfl ?_
  refine sr_SFi (as := [.int (nI t)]) (st := []) hA si_204_10 ss_140 sk_204_93 (mc_isRow1 X g (by omega)) (by omega) rfl rfl (Nat.le_of_ble_eq_true rfl) ?_
  refine sr_if_neN (tgt := 18) hA si_204_13 (by decide) (by omega) (fun c2 => ?_) (fun c2 => absurd c2 (by omega))
  refine sr_aload_n hA si_204_18 rfl ?_
  refine sr_getIv (v := nI 0) hA si_204_19 sf_204_142 (by decide) (by decide) rfl (by decide) hn ?_
  refine sr_if_neN (tgt := 28) hA si_204_22 (by decide) (by omega) (fun c3 => absurd c3 (by omega)) (fun c3 => ?_)
  refine sr_bipush (v := (-4)) hA si_204_25 (by decide) ?_
  exact sr_iretF hA si_204_27 sq_r_204 rfl rfl
set_option maxRecDepth 20000 in
theorem xc_best_go (X : sp_X) (g : sp_G) {q : Nat} (hq5 : q ≤ 5) {t : Nat} (ht : t < 6) {n : Nat} (hn : g.1 18 3 = nI n) (hn0 : 0 < n) (hb : n ≤ 6) {A Bq : Nat} {K T P v : Nat → Int32} (hK : sp_KX n K T P g) (hP : sp_p9 n 9 P) (hv : sp_h8 g 41 42 v) (hB : sp_oB n A Bq v) (hAb : A < 2 ^ 19) (hBb : Bq < 2 ^ 19) : sp_Ct X (q + 8) 89 [.ref 0, .int (nI q), .int (nI t)] g (sp_Ri (fun x g' => sp_gX q t g g' (sp_go n K T P (sp_le P) q 0 v (fun _ => 0) none) x)) := by
  refine sp_walkN (n := 4) sq_p_89 sq_l_89 (Nat.le_of_ble_eq_true rfl) (fun ac hA => ?_)
  show sp_Ev X ac 89 0 [.ref 0, .int (nI q), .int (nI t), .null] [] g
  refine sr_iload_n hA si_89_0 rfl ?_
  refine sr_if_ltN (tgt := 20) hA si_89_1 (by decide) (by omega) ?_
  refine sr_iload_n hA si_89_4 rfl ?_
  refine sr_iconst (v := nI 5) hA si_89_5 (by decide) ?_
  refine sr_icmp_gtN (tgt := 20) hA si_89_6 (by decide) (by omega) (by omega) (fun c2 => absurd c2 (by omega)) (fun c2 => ?_)
  refine sr_aload_n hA si_89_9 rfl ?_
  refine sr_getR (r := 1) hA si_89_10 sf_89_14 (by decide) (by decide) rfl rfl rfl ?_
  refine sr_iload_n hA si_89_13 rfl ?_
  refine sr_VFi (c := 1) (ci := 5) (as := [.int (nI t)]) (st := []) hA si_89_14 sv_11 sk_89_72 (xc_numR1 X g (by omega)) (by omega) rfl (by decide) (by decide) rfl sq_c_11 rfl (Nat.le_of_ble_eq_true rfl) ?_
  refine sr_if_neN (tgt := 22) hA si_89_17 (by decide) (by omega) (fun c3 => ?_) (fun c3 => absurd c3 (by omega))
  refine sr_aload_n hA si_89_22 rfl ?_
  refine sr_getR (r := 18) hA si_89_23 sf_89_32 (by decide) (by decide) rfl rfl rfl ?_
  refine sr_getIv (v := nI n) hA si_89_26 sf_89_145 (by decide) (by decide) rfl (by decide) hn ?_
  refine sr_if_neN (tgt := 35) hA si_89_29 (by decide) (by omega) (fun c4 => ?_) (fun c4 => absurd c4 (by omega))
  refine sr_aload_n hA si_89_35 rfl ?_
  refine sr_getR (r := 17) hA si_89_36 sf_89_24 (by decide) (by decide) rfl rfl rfl ?_
  refine sr_aload_n hA si_89_39 rfl ?_
  refine sr_getR (r := 41) hA si_89_40 sf_89_36 (by decide) (by decide) rfl rfl rfl ?_
  refine sr_iload_n hA si_89_43 rfl ?_
  refine sr_VRi (c := 17) (ci := 4) (as := [.ref 41, .int (nI q)]) (st := []) hA si_89_44 sv_90 sk_89_244 (xb_bp X g (q := q) (v := v) hq5 hK hP hv hB hAb hBb) (by omega) rfl (by decide) (by decide) rfl sq_c_90 rfl (Nat.le_of_ble_eq_true rfl) (fun xv g1 q1 => ?_)
  obtain ⟨S, eS⟩ : ∃ z, z = (sp_go n K T P (sp_le P) q 0 v (fun _ => 0) none) := ⟨_, rfl⟩
  rw [← eS] at q1
  obtain ⟨ax, hqp, hxn, hxs⟩ := q1
  rcases hs : S with _ | ⟨b, w1⟩
  · have exv := hxn hs
    subst exv
    have h5 := (hqp.1 hs).2
    refine sr_istore_n (ls1 := [.ref 0, .int (nI q), .int (nI t), .int (-9)]) hA si_89_47 rfl (by rw [sq_l_89]; decide) rfl ?_
    refine sr_aload_n hA si_89_48 rfl ?_
    refine sr_getR (r := 17) hA si_89_49 sf_89_24 (by decide) (by decide) rfl rfl rfl ?_
    refine sr_aload_n hA si_89_52 rfl ?_
    refine sr_getR (r := 1) hA si_89_53 sf_89_14 (by decide) (by decide) rfl rfl rfl ?_
    refine sr_iload_n hA si_89_56 rfl ?_
    refine sr_VFv (c := 17) (ci := 4) (as := [.ref 1, .int (nI t)]) (st := []) hA si_89_57 sv_81 sk_89_237 (xb_lay0 X g1 (nI t) h5) (by omega) rfl (by decide) (by decide) rfl sq_c_81 rfl (Nat.le_of_ble_eq_true rfl) ?_
    refine sr_iload_n hA si_89_60 rfl ?_
    exact sr_iretR hA si_89_61 sq_r_89 (by rw [← eS]; exact ⟨fun _ => ⟨rfl, ax⟩, fun b w h => (by rw [hs] at h; cases h)⟩)
  · have exv := hxs b w1 hs
    subst exv
    obtain ⟨-, -, h5, h38⟩ := hqp.2 b w1 hs
    refine sr_istore_n (ls1 := [.ref 0, .int (nI q), .int (nI t), .int (nI b)]) hA si_89_47 rfl (by rw [sq_l_89]; decide) rfl ?_
    refine sr_aload_n hA si_89_48 rfl ?_
    refine sr_getR (r := 17) hA si_89_49 sf_89_24 (by decide) (by decide) rfl rfl rfl ?_
    refine sr_aload_n hA si_89_52 rfl ?_
    refine sr_getR (r := 1) hA si_89_53 sf_89_14 (by decide) (by decide) rfl rfl rfl ?_
    refine sr_iload_n hA si_89_56 rfl ?_
    refine sr_VRv (c := 17) (ci := 4) (as := [.ref 1, .int (nI t)]) (st := []) hA si_89_57 sv_81 sk_89_237 (xb_lay1 X g1 (r := t) (q := q) ht (by omega) h5) (by omega) rfl (by decide) (by decide) rfl sq_c_81 rfl (Nat.le_of_ble_eq_true rfl) (fun g4 q4 => ?_)
    refine sr_iload_n hA si_89_60 rfl ?_
    exact sr_iretR hA si_89_61 sq_r_89 (by rw [← eS]; exact ⟨fun h => (by rw [hs] at h; cases h), fun b w h => (by rw [hs] at h; cases h; exact ⟨rfl, fun h => (by cases h), fun w h => (by cases h; exact ⟨g1, ax, q4, h38⟩)⟩)⟩)
