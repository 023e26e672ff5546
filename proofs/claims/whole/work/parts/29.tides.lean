def sp_wk : List Value → List Value → Prop
  | v :: l, w :: m => (w = .null ∨ w = v) ∧ sp_wk l m
  | _, [] => True
  | [], _ :: _ => False
theorem sp_wk_at : ∀ {l m : List Value}, sp_wk l m → ∀ (i : Nat) (v : Value), m[i]? = some v → v ≠ .null → l[i]? = some v
  | v :: l, w :: m, h, 0, x, e, hx => by
    cases e
    rcases h.1 with h1 | h1
    · exact absurd h1 hx
    · rw [h1]; rfl
  | v :: l, w :: m, h, i + 1, x, e, hx => sp_wk_at (l := l) (m := m) h.2 i x e hx
  | _, [], _, i, x, e, _ => by simp at e
theorem sr_fg {X : sp_X} {N pc : Nat} {a : sp_Ac} {ls ls1 st : List Value} {g : sp_G} (h : sp_wk ls ls1) (k : sp_Ev X a N pc ls1 st g) : sp_Ev X a N pc ls st g := fun H locs sl hw hl => k H locs sl hw ⟨hl.1, hl.2.1, fun i v hi hv => hl.2.2 i v (sp_wk_at h i v hi hv) hv⟩
theorem sp_takeEq {g : sp_G} {s o t p : Nat} (hso : o ≠ s) : sp_wI (sp_wI (sp_wI (sp_wA g o (va_cpy (g.1 p) (g.1 o) 0 0 6)) s 1 (g.1 t 1)) s 2 (g.1 t 2)) s 3 (g.1 t 3) = sp_sS g s o (sp_sv g t p) := sp_gext (fun c j => by
  rw [sp_rd, sp_rd, sp_rd, sp_rdW, sp_sS_rd]
  unfold sp_sv
  by_cases h2 : c = o
  · subst h2
    rw [if_neg (fun q => hso q.1), if_neg (fun q => hso q.1), if_neg (fun q => hso q.1), if_pos rfl]
    by_cases h6 : j < 6
    · rw [pk_cpy_in (by omega) (by omega), if_pos ⟨rfl, h6⟩, if_pos h6, show 0 + (j - 0) = j by omega]
    · rw [pk_cpy_out (by omega), if_neg (fun q => h6 q.2), if_neg (fun q => hso q.1)]
  · rw [if_neg h2, if_neg (show ¬ (c = o ∧ j < 6) from fun q => h2 q.1)]
    by_cases hs : c = s
    · subst hs
      by_cases j3 : j = 3
      · subst j3; simp
      · by_cases j2 : j = 2
        · subst j2; simp
        · by_cases j1 : j = 1
          · subst j1; simp
          · rw [if_neg (by omega), if_neg (by omega), if_neg (by omega), if_neg (by omega)]
    · rw [if_neg (show ¬ (c = s ∧ j = 3) from fun q => hs q.1), if_neg (show ¬ (c = s ∧ j = 2) from fun q => hs q.1), if_neg (show ¬ (c = s ∧ j = 1) from fun q => hs q.1), if_neg (show ¬ (c = s ∧ 1 ≤ j ∧ j ≤ 3) from fun q => hs q.1)]) rfl
/-- two Sands that are apart -/
def sp_ap (s o t p : Nat) : Prop := s ≠ t ∧ s ≠ p ∧ o ≠ t ∧ o ≠ p
set_option maxRecDepth 20000 in
theorem xc_take (X : sp_X) (g : sp_G) {s o t p : Nat} (hs : sp_sd s o) (ht : sp_sd t p) (ha : sp_ap s o t p) : sp_Ct X 1 39 [.ref s, .ref t] g (sp_Fv (sp_sS g s o (sp_sv g t p))) := by
  obtain ⟨s1, s2, s3, s4, s5, s6, s7, s8, s9, s10, s11⟩ := id hs
  refine sp_walkN (n := 2) sq_p_39 sq_l_39 (Nat.le_of_ble_eq_true rfl) (fun a hA => ?_)
  show sp_Ev X a 39 0 [.ref s, .ref t] [] g
  refine sr_aload_n hA si_39_0 rfl ?_
  refine sr_getR (r := p) hA si_39_1 sf_39_9 (by decide) ht.1 ht.2.1 rfl ht.2.2.1 ?_
  refine sr_iconst (v := nI 0) hA si_39_4 (by decide) ?_
  refine sr_aload_n hA si_39_5 rfl ?_
  refine sr_getR (r := o) hA si_39_6 sf_39_9 (by decide) hs.1 hs.2.1 rfl hs.2.2.1 ?_
  refine sr_iconst (v := nI 0) hA si_39_9 (by decide) ?_
  refine sr_bipush (v := nI 6) hA si_39_10 (by decide) ?_
  refine sr_copyN (n0 := 6) (n1 := 6) hA si_39_12 sk_39_31 sn_1 sn_2 sn_3 (by omega) ht.2.2.2.1 hs.2.2.2.1 ht.2.2.2.2.1 hs.2.2.2.2.1 ht.2.2.2.2.2.1 hs.2.2.2.2.2.1 (by omega) (by omega) (by decide) (by decide) (Nat.le_of_ble_eq_true rfl) ?_
  refine sr_aload_n hA si_39_15 rfl ?_
  refine sr_aload_n hA si_39_16 rfl ?_
  refine sr_getIv (v := g.1 t 1) hA si_39_17 sf_39_21 (by decide) ht.1 ht.2.1 (by decide) (by simp [sp_wI, sp_wL, sp_wA, sp_up, ha.1.symm, ha.2.2.1.symm]) ?_
  refine sr_putI hA si_39_20 sf_39_21 rfl rfl (by decide) hs.1 hs.2.1 rfl ?_
  refine sr_aload_n hA si_39_23 rfl ?_
  refine sr_aload_n hA si_39_24 rfl ?_
  refine sr_getIv (v := g.1 t 2) hA si_39_25 sf_39_25 (by decide) ht.1 ht.2.1 (by decide) (by simp [sp_wI, sp_wL, sp_wA, sp_up, ha.1.symm, ha.2.2.1.symm]) ?_
  refine sr_putI hA si_39_28 sf_39_25 rfl rfl (by decide) hs.1 hs.2.1 rfl ?_
  refine sr_aload_n hA si_39_31 rfl ?_
  refine sr_aload_n hA si_39_32 rfl ?_
  refine sr_getIv (v := g.1 t 3) hA si_39_33 sf_39_28 (by decide) ht.1 ht.2.1 (by decide) (by simp [sp_wI, sp_wL, sp_wA, sp_up, ha.1.symm, ha.2.2.1.symm]) ?_
  refine sr_putI hA si_39_36 sf_39_28 rfl rfl (by decide) hs.1 hs.2.1 rfl ?_
  exact sr_vretF hA si_39_39 sq_r_39 (sp_takeEq s7)
theorem sp_cpS {g : sp_G} {f t i : Nat} (hf : f ≠ t) (hi : i < 9) : sp_wI (sp_sP g t (fun j => if j < i then sp_pv g f j else sp_pv g t j)) 75 (9 * t + i) ((sp_sP g t (fun j => if j < i then sp_pv g f j else sp_pv g t j)).1 75 (9 * f + i)) = sp_sP g t (fun j => if j < i + 1 then sp_pv g f j else sp_pv g t j) := by
  rw [sp_sP_w hi, sp_sP_rd, if_neg (by omega)]
  refine sp_sP_c (fun j hj => ?_)
  unfold upd
  by_cases e : j = i
  · subst e
    rw [if_pos rfl, if_pos (by omega)]
    rfl
  · rw [if_neg e]
    show (if j < i then sp_pv g f j else sp_pv g t j) = _
    by_cases h : j < i
    · rw [if_pos h, if_pos (by omega)]
    · rw [if_neg h, if_neg (by omega)]
theorem sp_cp0 {g : sp_G} {f t : Nat} : sp_sP g t (fun j => if j < 0 then sp_pv g f j else sp_pv g t j) = g := by
  rw [sp_sP_c (w := sp_pv g t) (fun j _ => if_neg (by omega)), sp_sP_0]
theorem sp_cp9 {g : sp_G} {f t : Nat} : sp_sP g t (fun j => if j < 9 then sp_pv g f j else sp_pv g t j) = sp_sP g t (sp_pv g f) := sp_sP_c (fun j hj => if_pos hj)
set_option maxRecDepth 20000 in
theorem ml_copyTo {X : sp_X} {a : sp_Ac} {g : sp_G} {f t : Nat} (hf : f < 15) (ht : t < 15) (hft : f ≠ t) (hA : sp_Act X 192 1 (sp_Fv (sp_sP g t (sp_pv g f))) a) : ∀ (m : Nat) (i : Nat), i + m = 9 → sp_Ev X a 192 2 [.ref 64, .int (nI f), .int (nI t), .int (nI i)] [] (sp_sP g t (fun j => if j < i then sp_pv g f j else sp_pv g t j)) := by
  intro m
  induction m with
  | zero =>
    intro i h0_
    refine sr_iload_n hA si_192_2 rfl ?_
    refine sr_bipush (v := nI 9) hA si_192_3 (by decide) ?_
    refine sr_icmp_geN (tgt := 26) hA si_192_5 (by decide) (by omega) (by omega) (fun c1 => ?_) (fun c1 => absurd c1 (by omega))
    exact sr_vretF hA si_192_26 sq_r_192 (by rw [show i = 9 by omega, sp_cp9])
  | succ m ih =>
    intro i h0_
    refine sr_iload_n hA si_192_2 rfl ?_
    refine sr_bipush (v := nI 9) hA si_192_3 (by decide) ?_
    refine sr_icmp_geN (tgt := 26) hA si_192_5 (by decide) (by omega) (by omega) (fun c1 => absurd c1 (by omega)) (fun c1 => ?_)
    refine sr_aload_n hA si_192_8 rfl ?_
    refine sr_iload_n hA si_192_9 rfl ?_
    refine sr_iload_n hA si_192_10 rfl ?_
    refine sr_aload_n hA si_192_11 rfl ?_
    refine sr_iload_n hA si_192_12 rfl ?_
    refine sr_iload_n hA si_192_13 rfl ?_
    refine sr_VFi (c := 64) (ci := 8) (as := [.int (nI f), .int (nI i)]) (st := [.int (nI i), .int (nI t), .ref 64]) hA si_192_14 sv_164 sk_192_152 (mc_v X (sp_sP g t (fun j => if j < i then sp_pv g f j else sp_pv g t j)) (f := f) (i := i) (by omega)) (by omega) rfl (by decide) (by decide) rfl sq_c_164 rfl (Nat.le_of_ble_eq_true rfl) ?_
    refine sr_VFv (c := 64) (ci := 8) (as := [.int (nI t), .int (nI i), .int ((sp_sP g t (fun j => if j < i then sp_pv g f j else sp_pv g t j)).1 75 (9 * f + i))]) (st := []) hA si_192_17 sv_160 sk_192_145 (mc_place X (sp_sP g t (fun j => if j < i then sp_pv g f j else sp_pv g t j)) (f := t) (i := i) (by omega) ((sp_sP g t (fun j => if j < i then sp_pv g f j else sp_pv g t j)).1 75 (9 * f + i))) (by omega) rfl (by decide) (by decide) rfl sq_c_160 rfl (Nat.le_of_ble_eq_true rfl) ?_
    refine sr_iincN (x := i) (y := 1) (ls1 := [.ref 64, .int (nI f), .int (nI t), .int (nI (i + 1))]) hA si_192_20 rfl rfl (by rw [sq_l_192]; decide) rfl ?_
    refine sr_goto (tgt := 2) hA si_192_23 (by decide) ?_
    rw [sp_cpS hft (by omega)]
    exact ih (i + 1) (by omega)
set_option maxRecDepth 20000 in
theorem mc_copyTo (X : sp_X) (g : sp_G) {f t : Nat} (hf : f < 15) (ht : t < 15) (hft : f ≠ t) : sp_Ct X 1 192 [.ref 64, .int (nI f), .int (nI t)] g (sp_Fv (sp_sP g t (sp_pv g f))) := by
  refine sp_walkN (n := 4) sq_p_192 sq_l_192 (Nat.le_of_ble_eq_true rfl) (fun a hA => ?_)
  show sp_Ev X a 192 0 [.ref 64, .int (nI f), .int (nI t), .null] [] g
  refine sr_iconst (v := nI 0) hA si_192_0 (by decide) ?_
  refine sr_istore_n (ls1 := [.ref 64, .int (nI f), .int (nI t), .int (nI 0)]) hA si_192_1 rfl (by rw [sq_l_192]; decide) rfl ?_
  have h0 := ml_copyTo (g := g) hf ht hft hA 9 0 (by omega)
  rw [sp_cp0] at h0
  exact h0
def sp_fl (h i : Nat) (v : Nat → Int32) : Nat → Int32 := fun j => if j < i then v j + nI (h - j) else v j
def sp_ts (h : Nat) : Nat → Nat
  | 0 => 0
  | k + 1 => sp_ts h k + (h - k)
def sp_td (n h : Nat) (v : Nat → Int32) : Nat → Int32 := upd (sp_fl h (min n h) v) 7 (sp_fl h (min n h) v 7 + nI (sp_ts h (min n h)))
theorem sp_fl0 (h : Nat) (v : Nat → Int32) : sp_fl h 0 v = v := funext fun j => if_neg (by omega)
theorem sp_flS (h i : Nat) (v : Nat → Int32) : upd (sp_fl h i v) i (sp_fl h i v i + nI (h - i)) = sp_fl h (i + 1) v := funext fun j => by
  unfold upd sp_fl
  by_cases e : j = i
  · subst e
    rw [if_pos rfl, if_neg (by omega), if_pos (by omega)]
  · rw [if_neg e]
    by_cases h : j < i
    · rw [if_pos h, if_pos (by omega)]
    · rw [if_neg h, if_neg (by omega)]
theorem sp_ts_le (h : Nat) : ∀ k, sp_ts h k ≤ h * k
  | 0 => Nat.le_refl _
  | k + 1 => by
    have := sp_ts_le h k
    show sp_ts h k + (h - k) ≤ h * (k + 1)
    rw [Nat.mul_succ]
    omega
theorem sp_flP {g : sp_G} {f h i : Nat} {v : Nat → Int32} (hi : i < 9) : sp_wI (sp_sP g f (sp_fl h i v)) 75 (9 * f + i) ((sp_sP g f (sp_fl h i v)).1 75 (9 * f + i) + nI (h - i)) = sp_sP g f (sp_fl h (i + 1) v) := by
  rw [sp_sP_w hi, sp_sP_rd, if_pos (by omega), show 9 * f + i - 9 * f = i by omega, sp_flS]
theorem sp_flX {g : sp_G} {s o h i : Nat} {v : Nat → Int32} (hi : i < 6) : sp_wI (sp_sS g s o (sp_fl h i v)) o i ((sp_sS g s o (sp_fl h i v)).1 o i + nI (h - i)) = sp_sS g s o (sp_fl h (i + 1) v) := by
  rw [sp_sS_w hi, sp_sS_rd, if_pos ⟨rfl, hi⟩, sp_flS]
theorem sp_tdP {g : sp_G} {f n h i : Nat} {v : Nat → Int32} (hi : i = min n h) : sp_wI (sp_sP g f (sp_fl h i v)) 75 (9 * f + 7) ((sp_sP g f (sp_fl h i v)).1 75 (9 * f + 7) + nI (sp_ts h i)) = sp_sP g f (sp_td n h v) := by
  rw [sp_sP_w (by omega), sp_sP_rd, if_pos (by omega), show 9 * f + 7 - 9 * f = 7 by omega, hi]
  rfl
theorem sp_tdX {g : sp_G} {s o n h i : Nat} {v : Nat → Int32} (hso : o ≠ s) (hi : i = min n h) : sp_wI (sp_sS g s o (sp_fl h i v)) s 2 ((sp_sS g s o (sp_fl h i v)).1 s 2 + nI (sp_ts h i)) = sp_sS g s o (sp_td n h v) := by
  rw [sp_sS_w2 hso (by omega) (by omega), sp_sS_rd, if_neg (by omega), if_pos (by omega), hi]
  rfl
set_option maxRecDepth 20000 in
theorem ml_tides {X : sp_X} {a : sp_Ac} {g : sp_G} {f h n : Nat} (hn : g.1 64 11 = nI n) (hb : n ≤ 6) (hf : f < 14) (hh : h ≤ 9) (hA : sp_Act X 181 1 (sp_Fi (nI (sp_ts h (min n h))) (sp_sP g f (sp_td n h (sp_pv g f)))) a) : ∀ (m : Nat) (i : Nat), i + m = min n h → sp_Ev X a 181 5 [.ref 64, .int (nI f), .int (nI h), .int (nI (sp_ts h i)), .int (nI i)] [] (sp_sP g f (sp_fl h i (sp_pv g f))) := by
  intro m
  induction m with
  | zero =>
    intro i h0_
    refine sr_iload hA si_181_5 rfl ?_
    refine sr_aload_n hA si_181_7 rfl ?_
    refine sr_getIv (v := nI n) hA si_181_8 sf_181_142 (by decide) (by decide) rfl (by decide) (by rw [sp_sP_o (by decide)]; exact hn) ?_
    refine sr_icmp_geN (tgt := 44) hA si_181_11 (by decide) (by omega) (by omega) (fun c1 => ?_) (fun c1 => ?_)
    · refine sr_aload_n hA si_181_44 rfl ?_
      refine sr_iload_n hA si_181_45 rfl ?_
      refine sr_bipush (v := nI 7) hA si_181_46 (by decide) ?_
      refine sr_iload_n hA si_181_48 rfl ?_
      refine sr_VFv (c := 64) (ci := 8) (as := [.int (nI f), .int (nI 7), .int (nI (sp_ts h i))]) (st := []) hA si_181_49 sv_178 sk_181_161 (mc_add X (sp_sP g f (sp_fl h i (sp_pv g f))) (f := f) (i := 7) (by omega) (nI (sp_ts h i))) (by omega) rfl (by decide) (by decide) rfl sq_c_178 rfl (Nat.le_of_ble_eq_true rfl) ?_
      refine sr_iload_n hA si_181_52 rfl ?_
      exact sr_iretF hA si_181_53 sq_r_181 (by rw [show i = min n h by omega]) (sp_tdP (by omega))
    · refine sr_iload hA si_181_14 rfl ?_
      refine sr_iload_n hA si_181_16 rfl ?_
      refine sr_icmp_geN (tgt := 44) hA si_181_17 (by decide) (by omega) (by omega) (fun c2 => ?_) (fun c2 => absurd c2 (by omega))
      refine sr_aload_n hA si_181_44 rfl ?_
      refine sr_iload_n hA si_181_45 rfl ?_
      refine sr_bipush (v := nI 7) hA si_181_46 (by decide) ?_
      refine sr_iload_n hA si_181_48 rfl ?_
      refine sr_VFv (c := 64) (ci := 8) (as := [.int (nI f), .int (nI 7), .int (nI (sp_ts h i))]) (st := []) hA si_181_49 sv_178 sk_181_161 (mc_add X (sp_sP g f (sp_fl h i (sp_pv g f))) (f := f) (i := 7) (by omega) (nI (sp_ts h i))) (by omega) rfl (by decide) (by decide) rfl sq_c_178 rfl (Nat.le_of_ble_eq_true rfl) ?_
      refine sr_iload_n hA si_181_52 rfl ?_
      exact sr_iretF hA si_181_53 sq_r_181 (by rw [show i = min n h by omega]) (sp_tdP (by omega))
  | succ m ih =>
    intro i h0_
    refine sr_iload hA si_181_5 rfl ?_
    refine sr_aload_n hA si_181_7 rfl ?_
    refine sr_getIv (v := nI n) hA si_181_8 sf_181_142 (by decide) (by decide) rfl (by decide) (by rw [sp_sP_o (by decide)]; exact hn) ?_
    refine sr_icmp_geN (tgt := 44) hA si_181_11 (by decide) (by omega) (by omega) (fun c1 => absurd c1 (by omega)) (fun c1 => ?_)
    refine sr_iload hA si_181_14 rfl ?_
    refine sr_iload_n hA si_181_16 rfl ?_
    refine sr_icmp_geN (tgt := 44) hA si_181_17 (by decide) (by omega) (by omega) (fun c2 => absurd c2 (by omega)) (fun c2 => ?_)
    refine sr_aload_n hA si_181_20 rfl ?_
    refine sr_iload_n hA si_181_21 rfl ?_
    refine sr_iload hA si_181_22 rfl ?_
    refine sr_iload_n hA si_181_24 rfl ?_
    refine sr_iload hA si_181_25 rfl ?_
    refine sr_isubN hA si_181_27 (by omega) ?_
    refine sr_VFv (c := 64) (ci := 8) (as := [.int (nI f), .int (nI i), .int (nI (h - i))]) (st := []) hA si_181_28 sv_178 sk_181_161 (mc_add X (sp_sP g f (sp_fl h i (sp_pv g f))) (f := f) (i := i) (by omega) (nI (h - i))) (by omega) rfl (by decide) (by decide) rfl sq_c_178 rfl (Nat.le_of_ble_eq_true rfl) ?_
    refine sr_iload_n hA si_181_31 rfl ?_
    refine sr_iload_n hA si_181_32 rfl ?_
    refine sr_iload hA si_181_33 rfl ?_
    refine sr_isubN hA si_181_35 (by omega) ?_
    refine sr_iaddN hA si_181_36 ?_
    refine sr_istore_n (ls1 := [.ref 64, .int (nI f), .int (nI h), .int (nI ((sp_ts h i) + (h - i))), .int (nI i)]) hA si_181_37 rfl (by rw [sq_l_181]; decide) rfl ?_
    refine sr_iincN (x := i) (y := 1) (ls1 := [.ref 64, .int (nI f), .int (nI h), .int (nI ((sp_ts h i) + (h - i))), .int (nI (i + 1))]) hA si_181_38 rfl rfl (by rw [sq_l_181]; decide) rfl ?_
    refine sr_goto (tgt := 5) hA si_181_41 (by decide) ?_
    rw [sp_flP (by omega)]
    exact ih (i + 1) (by omega)
set_option maxRecDepth 20000 in
theorem mc_tides (X : sp_X) (g : sp_G) {f h n : Nat} (hn : g.1 64 11 = nI n) (hb : n ≤ 6) (hf : f < 14) (hh : h ≤ 9) : sp_Ct X 1 181 [.ref 64, .int (nI f), .int (nI h)] g (sp_Fi (nI (sp_ts h (min n h))) (sp_sP g f (sp_td n h (sp_pv g f)))) := by
  refine sp_walkN (n := 5) sq_p_181 sq_l_181 (Nat.le_of_ble_eq_true rfl) (fun a hA => ?_)
  show sp_Ev X a 181 0 [.ref 64, .int (nI f), .int (nI h), .null, .null] [] g
  refine sr_iconst (v := nI 0) hA si_181_0 (by decide) ?_
  refine sr_istore_n (ls1 := [.ref 64, .int (nI f), .int (nI h), .int (nI 0), .null]) hA si_181_1 rfl (by rw [sq_l_181]; decide) rfl ?_
  refine sr_iconst (v := nI 0) hA si_181_2 (by decide) ?_
  refine sr_istore (ls1 := [.ref 64, .int (nI f), .int (nI h), .int (nI 0), .int (nI 0)]) hA si_181_3 (by rw [sq_l_181]; decide) rfl ?_
  have h0 := ml_tides (g := g) hn hb hf hh hA (min n h) 0 (by omega)
  rw [sp_fl0, sp_sP_0] at h0
  exact h0
set_option maxRecDepth 20000 in
theorem xl_flood {X : sp_X} {a : sp_Ac} {g : sp_G} {s o h n : Nat} (hs : sp_sd s o) (hb : n ≤ 6) (hh : h ≤ 9) (hA : sp_Act X 60 1 (sp_Fi (nI (sp_ts h (min n h))) (sp_sS g s o (sp_td n h (sp_sv g s o)))) a) : ∀ (m : Nat) (i : Nat), i + m = min n h → sp_Ev X a 60 5 [.ref s, .int (nI h), .int (nI n), .int (nI (sp_ts h i)), .int (nI i)] [] (sp_sS g s o (sp_fl h i (sp_sv g s o))) := by
  intro m
  induction m with
  | zero =>
    intro i h0_
    refine sr_iload hA si_60_5 rfl ?_
    refine sr_iload_n hA si_60_7 rfl ?_
    refine sr_icmp_geN (tgt := 44) hA si_60_8 (by decide) (by omega) (by omega) (fun c1 => ?_) (fun c1 => ?_)
    · refine sr_aload_n hA si_60_44 rfl ?_
      refine sr_dup hA si_60_45 rfl ?_
      refine sr_getIv (v := (sp_sS g s o (sp_fl h i (sp_sv g s o))).1 s 2) hA si_60_46 sf_60_25 (by decide) hs.1 hs.2.1 (by decide) rfl ?_
      refine sr_iload_n hA si_60_49 rfl ?_
      refine sr_iadd hA si_60_50 ?_
      refine sr_putI hA si_60_51 sf_60_25 rfl rfl (by decide) hs.1 hs.2.1 rfl ?_
      refine sr_iload_n hA si_60_54 rfl ?_
      exact sr_iretF hA si_60_55 sq_r_60 (by rw [show i = min n h by omega]) (sp_tdX hs.2.2.2.2.2.2.1 (by omega))
    · refine sr_iload hA si_60_11 rfl ?_
      refine sr_iload_n hA si_60_13 rfl ?_
      refine sr_icmp_geN (tgt := 44) hA si_60_14 (by decide) (by omega) (by omega) (fun c2 => ?_) (fun c2 => absurd c2 (by omega))
      refine sr_aload_n hA si_60_44 rfl ?_
      refine sr_dup hA si_60_45 rfl ?_
      refine sr_getIv (v := (sp_sS g s o (sp_fl h i (sp_sv g s o))).1 s 2) hA si_60_46 sf_60_25 (by decide) hs.1 hs.2.1 (by decide) rfl ?_
      refine sr_iload_n hA si_60_49 rfl ?_
      refine sr_iadd hA si_60_50 ?_
      refine sr_putI hA si_60_51 sf_60_25 rfl rfl (by decide) hs.1 hs.2.1 rfl ?_
      refine sr_iload_n hA si_60_54 rfl ?_
      exact sr_iretF hA si_60_55 sq_r_60 (by rw [show i = min n h by omega]) (sp_tdX hs.2.2.2.2.2.2.1 (by omega))
  | succ m ih =>
    intro i h0_
    refine sr_iload hA si_60_5 rfl ?_
    refine sr_iload_n hA si_60_7 rfl ?_
    refine sr_icmp_geN (tgt := 44) hA si_60_8 (by decide) (by omega) (by omega) (fun c1 => absurd c1 (by omega)) (fun c1 => ?_)
    refine sr_iload hA si_60_11 rfl ?_
    refine sr_iload_n hA si_60_13 rfl ?_
    refine sr_icmp_geN (tgt := 44) hA si_60_14 (by decide) (by omega) (by omega) (fun c2 => absurd c2 (by omega)) (fun c2 => ?_)
    refine sr_aload_n hA si_60_17 rfl ?_
    refine sr_getR (r := o) hA si_60_18 sf_60_9 (by decide) hs.1 hs.2.1 rfl hs.2.2.1 ?_
    refine sr_iload hA si_60_21 rfl ?_
    refine sr_dup2 hA si_60_23 rfl rfl ?_
    refine sr_ialdNv (v := (sp_sS g s o (sp_fl h i (sp_sv g s o))).1 o i) (n := 6) hA si_60_24 hs.2.2.2.1 hs.2.2.2.2.1 hs.2.2.2.2.2.1 (by omega) (by decide) rfl ?_
    refine sr_iload_n hA si_60_25 rfl ?_
    refine sr_iload hA si_60_26 rfl ?_
    refine sr_isubN hA si_60_28 (by omega) ?_
    refine sr_iadd hA si_60_29 ?_
    refine sr_iastN (n := 6) hA si_60_30 hs.2.2.2.1 hs.2.2.2.2.1 hs.2.2.2.2.2.1 (by omega) (by decide) ?_
    refine sr_iload_n hA si_60_31 rfl ?_
    refine sr_iload_n hA si_60_32 rfl ?_
    refine sr_iload hA si_60_33 rfl ?_
    refine sr_isubN hA si_60_35 (by omega) ?_
    refine sr_iaddN hA si_60_36 ?_
    refine sr_istore_n (ls1 := [.ref s, .int (nI h), .int (nI n), .int (nI ((sp_ts h i) + (h - i))), .int (nI i)]) hA si_60_37 rfl (by rw [sq_l_60]; decide) rfl ?_
    refine sr_iincN (x := i) (y := 1) (ls1 := [.ref s, .int (nI h), .int (nI n), .int (nI ((sp_ts h i) + (h - i))), .int (nI (i + 1))]) hA si_60_38 rfl rfl (by rw [sq_l_60]; decide) rfl ?_
    refine sr_goto (tgt := 5) hA si_60_41 (by decide) ?_
    rw [sp_flX (by omega)]
    exact ih (i + 1) (by omega)
set_option maxRecDepth 20000 in
theorem xc_flood (X : sp_X) (g : sp_G) {s o h n : Nat} (hs : sp_sd s o) (hb : n ≤ 6) (hh : h ≤ 9) : sp_Ct X 1 60 [.ref s, .int (nI h), .int (nI n)] g (sp_Fi (nI (sp_ts h (min n h))) (sp_sS g s o (sp_td n h (sp_sv g s o)))) := by
  refine sp_walkN (n := 5) sq_p_60 sq_l_60 (Nat.le_of_ble_eq_true rfl) (fun a hA => ?_)
  show sp_Ev X a 60 0 [.ref s, .int (nI h), .int (nI n), .null, .null] [] g
  refine sr_iconst (v := nI 0) hA si_60_0 (by decide) ?_
  refine sr_istore_n (ls1 := [.ref s, .int (nI h), .int (nI n), .int (nI 0), .null]) hA si_60_1 rfl (by rw [sq_l_60]; decide) rfl ?_
  refine sr_iconst (v := nI 0) hA si_60_2 (by decide) ?_
  refine sr_istore (ls1 := [.ref s, .int (nI h), .int (nI n), .int (nI 0), .int (nI 0)]) hA si_60_3 (by rw [sq_l_60]; decide) rfl ?_
  have h0 := xl_flood (g := g) hs hb hh hA (min n h) 0 (by omega)
  rw [sp_fl0, sp_sS_0 hs.2.2.2.2.2.2.1] at h0
  exact h0
def sp_sk (n k : Nat) (v : Nat → Int32) : Nat → Int32 := fun j => if j < k then (if j + 1 < n then v (j + 1) else nI 0) else v j
def sp_rk (n k : Nat) (v : Nat → Int32) : Nat → Int32 := fun j => if n - k ≤ j ∧ j < n then (if 0 < j then v (j - 1) else nI 0) else v j
def sp_sm (n w : Nat) (v : Nat → Int32) : Nat → Int32 := if w = 0 then upd (sp_sk n n v) 6 (sp_sk n n v 6 + v 0) else upd (sp_rk n n v) 6 (sp_rk n n v 6 + v (n - 1))
def sp_so (n w : Nat) (v : Nat → Int32) : Int32 := if w = 0 then v 0 else v (n - 1)
theorem sp_sk0 (n : Nat) (v : Nat → Int32) : sp_sk n 0 v = v := funext fun j => if_neg (by omega)
theorem sp_rk0 (n : Nat) (v : Nat → Int32) : sp_rk n 0 v = v := funext fun j => if_neg (by omega)
theorem sp_skS {n k : Nat} {v : Nat → Int32} (h : k + 1 < n) : upd (sp_sk n k v) k (sp_sk n k v (k + 1)) = sp_sk n (k + 1) v := funext fun j => by
  unfold upd sp_sk
  by_cases e : j = k
  · subst e
    rw [if_pos rfl, if_neg (by omega), if_pos (by omega), if_pos h]
  · rw [if_neg e]
    by_cases h2 : j < k
    · rw [if_pos h2, if_pos (show j < k + 1 by omega)]
    · rw [if_neg h2, if_neg (show ¬ j < k + 1 by omega)]
theorem sp_skE {n k : Nat} {v : Nat → Int32} (h : k + 1 = n) : upd (sp_sk n k v) k (nI 0) = sp_sk n (k + 1) v := funext fun j => by
  unfold upd sp_sk
  by_cases e : j = k
  · subst e
    rw [if_pos rfl, if_pos (show j < j + 1 by omega), if_neg (by omega)]
  · rw [if_neg e]
    by_cases h2 : j < k
    · rw [if_pos h2, if_pos (show j < k + 1 by omega)]
    · rw [if_neg h2, if_neg (show ¬ j < k + 1 by omega)]
theorem sp_rkS {n k : Nat} {v : Nat → Int32} (h : k + 1 < n) : upd (sp_rk n k v) (n - 1 - k) (sp_rk n k v (n - 1 - k - 1)) = sp_rk n (k + 1) v := funext fun j => by
  unfold upd sp_rk
  by_cases e : j = n - 1 - k
  · subst e
    rw [if_pos rfl, if_neg (by omega), if_pos (by omega), if_pos (by omega)]
  · rw [if_neg e]
    by_cases h2 : n - k ≤ j ∧ j < n
    · rw [if_pos h2, if_pos (show n - (k + 1) ≤ j ∧ j < n by omega)]
    · rw [if_neg h2, if_neg (show ¬ (n - (k + 1) ≤ j ∧ j < n) by omega)]
theorem sp_rkE {n k : Nat} {v : Nat → Int32} (h : k + 1 = n) : upd (sp_rk n k v) (n - 1 - k) (nI 0) = sp_rk n (k + 1) v := funext fun j => by
  unfold upd sp_rk
  by_cases e : j = n - 1 - k
  · subst e
    rw [if_pos rfl, if_pos (by omega), if_neg (by omega)]
  · rw [if_neg e]
    by_cases h2 : n - k ≤ j ∧ j < n
    · rw [if_pos h2, if_pos (show n - (k + 1) ≤ j ∧ j < n by omega)]
    · rw [if_neg h2, if_neg (show ¬ (n - (k + 1) ≤ j ∧ j < n) by omega)]
theorem sp_rdPf {g : sp_G} {f i : Nat} {v : Nat → Int32} (h : i < 9) : (sp_sP g f v).1 75 (9 * f + i) = v i := by
  rw [sp_sP_rd, if_pos (by omega), show 9 * f + i - 9 * f = i by omega]
theorem sp_rdSf {g : sp_G} {s o i : Nat} {v : Nat → Int32} (h : i < 6) : (sp_sS g s o v).1 o i = v i := by
  rw [sp_sS_rd, if_pos ⟨rfl, h⟩]
theorem sp_rdS6 {g : sp_G} {s o : Nat} {v : Nat → Int32} (hso : o ≠ s) : (sp_sS g s o v).1 s 1 = v 6 := by
  rw [sp_sS_rd, if_neg (by omega), if_pos (by omega)]
set_option maxRecDepth 20000 in
theorem ml_storm0 {X : sp_X} {a : sp_Ac} {g : sp_G} {f n : Nat} (hn : g.1 64 11 = nI n) (hb : n ≤ 6) (hn0 : 0 < n) (hf : f < 14) (hA : sp_Act X 183 3 (sp_Fi (sp_so n 0 (sp_pv g f)) (sp_sP g f (sp_sm n 0 (sp_pv g f)))) a) : ∀ (m : Nat) (k : Nat), k + m = n → sp_Ev X a 183 26 [.ref 64, .int (nI f), .int (nI 0), .int (nI 0), .int (sp_pv g f 0), .int (nI k), .null, .null] [] (sp_sP g f (sp_sk n k (sp_pv g f))) := by
  intro m
  induction m with
  | zero =>
    intro k h0_
    refine sr_iload hA si_183_26 rfl ?_
    refine sr_aload_n hA si_183_28 rfl ?_
    refine sr_getIv (v := nI n) hA si_183_29 sf_183_142 (by decide) (by decide) rfl (by decide) (by rw [sp_sP_o (by decide)]; exact hn) ?_
    refine sr_icmp_geN (tgt := 105) hA si_183_32 (by decide) (by omega) (by omega) (fun c1 => ?_) (fun c1 => absurd c1 (by omega))
    refine sr_aload_n hA si_183_105 rfl ?_
    refine sr_iload_n hA si_183_106 rfl ?_
    refine sr_bipush (v := nI 6) hA si_183_107 (by decide) ?_
    refine sr_iload hA si_183_109 rfl ?_
    refine sr_VFv (c := 64) (ci := 8) (as := [.int (nI f), .int (nI 6), .int (sp_pv g f 0)]) (st := []) hA si_183_111 sv_178 sk_183_161 (mc_add X (sp_sP g f (sp_sk n k (sp_pv g f))) (f := f) (i := 6) (by omega) (sp_pv g f 0)) (by omega) rfl (by decide) (by decide) rfl sq_c_178 rfl (Nat.le_of_ble_eq_true rfl) ?_
    refine sr_iload hA si_183_114 rfl ?_
    exact sr_iretF hA si_183_116 sq_r_183 rfl (by rw [sp_sP_w (by omega), sp_rdPf (by omega), show k = n by omega]; rfl)
  | succ m ih =>
    intro k h0_
    by_cases hkn : k + 1 < n
    · refine sr_iload hA si_183_26 rfl ?_
      refine sr_aload_n hA si_183_28 rfl ?_
      refine sr_getIv (v := nI n) hA si_183_29 sf_183_142 (by decide) (by decide) rfl (by decide) (by rw [sp_sP_o (by decide)]; exact hn) ?_
      refine sr_icmp_geN (tgt := 105) hA si_183_32 (by decide) (by omega) (by omega) (fun c1 => absurd c1 (by omega)) (fun c1 => ?_)
      refine sr_iload_n hA si_183_35 rfl ?_
      refine sr_if_neN (tgt := 44) hA si_183_36 (by decide) (by omega) (fun c2 => absurd c2 (by omega)) (fun c2 => ?_)
      refine sr_iload hA si_183_39 rfl ?_
      refine sr_goto (tgt := 53) hA si_183_41 (by decide) ?_
      refine sr_istore (ls1 := [.ref 64, .int (nI f), .int (nI 0), .int (nI 0), .int (sp_pv g f 0), .int (nI k), .int (nI k), .null]) hA si_183_53 (by rw [sq_l_183]; decide) rfl ?_
      refine sr_iload_n hA si_183_55 rfl ?_
      refine sr_if_neN (tgt := 66) hA si_183_56 (by decide) (by omega) (fun c3 => absurd c3 (by omega)) (fun c3 => ?_)
      refine sr_iload hA si_183_59 rfl ?_
      refine sr_iconst (v := nI 1) hA si_183_61 (by decide) ?_
      refine sr_iaddN hA si_183_62 ?_
      refine sr_goto (tgt := 70) hA si_183_63 (by decide) ?_
      refine sr_istore (ls1 := [.ref 64, .int (nI f), .int (nI 0), .int (nI 0), .int (sp_pv g f 0), .int (nI k), .int (nI k), .int (nI (k + 1))]) hA si_183_70 (by rw [sq_l_183]; decide) rfl ?_
      refine sr_aload_n hA si_183_72 rfl ?_
      refine sr_iload_n hA si_183_73 rfl ?_
      refine sr_iload hA si_183_74 rfl ?_
      refine sr_aload_n hA si_183_76 rfl ?_
      refine sr_iload hA si_183_77 rfl ?_
      refine sr_VFi (c := 64) (ci := 8) (as := [.int (nI (k + 1))]) (st := [.int (nI k), .int (nI f), .ref 64]) hA si_183_79 sv_162 sk_183_174 (mc_isKey1 X (sp_sP g f (sp_sk n k (sp_pv g f))) (n := n) (by rw [sp_sP_o (by decide)]; exact hn) (by omega) (by omega)) (by omega) rfl (by decide) (by decide) rfl sq_c_162 rfl (Nat.le_of_ble_eq_true rfl) ?_
      refine sr_if_eqN (tgt := 95) hA si_183_82 (by decide) (by omega) (fun c4 => absurd c4 (by omega)) (fun c4 => ?_)
      refine sr_aload_n hA si_183_85 rfl ?_
      refine sr_iload_n hA si_183_86 rfl ?_
      refine sr_iload hA si_183_87 rfl ?_
      refine sr_VFi (c := 64) (ci := 8) (as := [.int (nI f), .int (nI (k + 1))]) (st := [.int (nI k), .int (nI f), .ref 64]) hA si_183_89 sv_164 sk_183_152 (mc_v X (sp_sP g f (sp_sk n k (sp_pv g f))) (f := f) (i := (k + 1)) (by omega)) (by omega) rfl (by decide) (by decide) rfl sq_c_164 rfl (Nat.le_of_ble_eq_true rfl) ?_
      refine sr_goto (tgt := 96) hA si_183_92 (by decide) ?_
      refine sr_VFv (c := 64) (ci := 8) (as := [.int (nI f), .int (nI k), .int ((sp_sP g f (sp_sk n k (sp_pv g f))).1 75 (9 * f + (k + 1)))]) (st := []) hA si_183_96 sv_160 sk_183_145 (mc_place X (sp_sP g f (sp_sk n k (sp_pv g f))) (f := f) (i := k) (by omega) ((sp_sP g f (sp_sk n k (sp_pv g f))).1 75 (9 * f + (k + 1)))) (by omega) rfl (by decide) (by decide) rfl sq_c_160 rfl (Nat.le_of_ble_eq_true rfl) ?_
      refine sr_iincN (x := k) (y := 1) (ls1 := [.ref 64, .int (nI f), .int (nI 0), .int (nI 0), .int (sp_pv g f 0), .int (nI (k + 1)), .int (nI k), .int (nI (k + 1))]) hA si_183_99 rfl rfl (by rw [sq_l_183]; decide) rfl ?_
      refine sr_goto (tgt := 26) hA si_183_102 (by decide) ?_
      refine sr_fg (ls1 := [.ref 64, .int (nI f), .int (nI 0), .int (nI 0), .int (sp_pv g f 0), .int (nI (k + 1)), .null, .null]) ⟨Or.inr rfl, Or.inr rfl, Or.inr rfl, Or.inr rfl, Or.inr rfl, Or.inr rfl, Or.inl rfl, Or.inl rfl, trivial⟩ ?_
      rw [sp_sP_w (by omega), sp_rdPf (by omega), sp_skS hkn]
      exact ih (k + 1) (by omega)
    · refine sr_iload hA si_183_26 rfl ?_
      refine sr_aload_n hA si_183_28 rfl ?_
      refine sr_getIv (v := nI n) hA si_183_29 sf_183_142 (by decide) (by decide) rfl (by decide) (by rw [sp_sP_o (by decide)]; exact hn) ?_
      refine sr_icmp_geN (tgt := 105) hA si_183_32 (by decide) (by omega) (by omega) (fun c1 => absurd c1 (by omega)) (fun c1 => ?_)
      refine sr_iload_n hA si_183_35 rfl ?_
      refine sr_if_neN (tgt := 44) hA si_183_36 (by decide) (by omega) (fun c2 => absurd c2 (by omega)) (fun c2 => ?_)
      refine sr_iload hA si_183_39 rfl ?_
      refine sr_goto (tgt := 53) hA si_183_41 (by decide) ?_
      refine sr_istore (ls1 := [.ref 64, .int (nI f), .int (nI 0), .int (nI 0), .int (sp_pv g f 0), .int (nI k), .int (nI k), .null]) hA si_183_53 (by rw [sq_l_183]; decide) rfl ?_
      refine sr_iload_n hA si_183_55 rfl ?_
      refine sr_if_neN (tgt := 66) hA si_183_56 (by decide) (by omega) (fun c3 => absurd c3 (by omega)) (fun c3 => ?_)
      refine sr_iload hA si_183_59 rfl ?_
      refine sr_iconst (v := nI 1) hA si_183_61 (by decide) ?_
      refine sr_iaddN hA si_183_62 ?_
      refine sr_goto (tgt := 70) hA si_183_63 (by decide) ?_
      refine sr_istore (ls1 := [.ref 64, .int (nI f), .int (nI 0), .int (nI 0), .int (sp_pv g f 0), .int (nI k), .int (nI k), .int (nI (k + 1))]) hA si_183_70 (by rw [sq_l_183]; decide) rfl ?_
      refine sr_aload_n hA si_183_72 rfl ?_
      refine sr_iload_n hA si_183_73 rfl ?_
      refine sr_iload hA si_183_74 rfl ?_
      refine sr_aload_n hA si_183_76 rfl ?_
      refine sr_iload hA si_183_77 rfl ?_
      refine sr_VFi (c := 64) (ci := 8) (as := [.int (nI (k + 1))]) (st := [.int (nI k), .int (nI f), .ref 64]) hA si_183_79 sv_162 sk_183_174 (mc_isKeyH X (sp_sP g f (sp_sk n k (sp_pv g f))) (n := n) (by rw [sp_sP_o (by decide)]; exact hn) (by omega) (by omega)) (by omega) rfl (by decide) (by decide) rfl sq_c_162 rfl (Nat.le_of_ble_eq_true rfl) ?_
      refine sr_if_eqN (tgt := 95) hA si_183_82 (by decide) (by omega) (fun c4 => ?_) (fun c4 => absurd c4 (by omega))
      refine sr_iconst (v := nI 0) hA si_183_95 (by decide) ?_
      refine sr_VFv (c := 64) (ci := 8) (as := [.int (nI f), .int (nI k), .int (nI 0)]) (st := []) hA si_183_96 sv_160 sk_183_145 (mc_place X (sp_sP g f (sp_sk n k (sp_pv g f))) (f := f) (i := k) (by omega) (nI 0)) (by omega) rfl (by decide) (by decide) rfl sq_c_160 rfl (Nat.le_of_ble_eq_true rfl) ?_
      refine sr_iincN (x := k) (y := 1) (ls1 := [.ref 64, .int (nI f), .int (nI 0), .int (nI 0), .int (sp_pv g f 0), .int (nI (k + 1)), .int (nI k), .int (nI (k + 1))]) hA si_183_99 rfl rfl (by rw [sq_l_183]; decide) rfl ?_
      refine sr_goto (tgt := 26) hA si_183_102 (by decide) ?_
      refine sr_fg (ls1 := [.ref 64, .int (nI f), .int (nI 0), .int (nI 0), .int (sp_pv g f 0), .int (nI (k + 1)), .null, .null]) ⟨Or.inr rfl, Or.inr rfl, Or.inr rfl, Or.inr rfl, Or.inr rfl, Or.inr rfl, Or.inl rfl, Or.inl rfl, trivial⟩ ?_
      rw [sp_sP_w (by omega), sp_skE (by omega)]
      exact ih (k + 1) (by omega)
set_option maxRecDepth 20000 in
theorem mc_storm0 (X : sp_X) (g : sp_G) {f n : Nat} (hn : g.1 64 11 = nI n) (hb : n ≤ 6) (hn0 : 0 < n) (hf : f < 14) : sp_Ct X 3 183 [.ref 64, .int (nI f), .int (nI 0)] g (sp_Fi (sp_so n 0 (sp_pv g f)) (sp_sP g f (sp_sm n 0 (sp_pv g f)))) := by
  refine sp_walkN (n := 8) sq_p_183 sq_l_183 (Nat.le_of_ble_eq_true rfl) (fun a hA => ?_)
  show sp_Ev X a 183 0 [.ref 64, .int (nI f), .int (nI 0), .null, .null, .null, .null, .null] [] g
  refine sr_iload_n hA si_183_0 rfl ?_
  refine sr_if_neN (tgt := 8) hA si_183_1 (by decide) (by omega) (fun c1 => absurd c1 (by omega)) (fun c1 => ?_)
  refine sr_iconst (v := nI 0) hA si_183_4 (by decide) ?_
  refine sr_goto (tgt := 14) hA si_183_5 (by decide) ?_
  refine sr_istore_n (ls1 := [.ref 64, .int (nI f), .int (nI 0), .int (nI 0), .null, .null, .null, .null]) hA si_183_14 rfl (by rw [sq_l_183]; decide) rfl ?_
  refine sr_aload_n hA si_183_15 rfl ?_
  refine sr_iload_n hA si_183_16 rfl ?_
  refine sr_iload_n hA si_183_17 rfl ?_
  refine sr_VFi (c := 64) (ci := 8) (as := [.int (nI f), .int (nI 0)]) (st := []) hA si_183_18 sv_164 sk_183_152 (mc_v X g (f := f) (i := 0) (by omega)) (by omega) rfl (by decide) (by decide) rfl sq_c_164 rfl (Nat.le_of_ble_eq_true rfl) ?_
  refine sr_istore (ls1 := [.ref 64, .int (nI f), .int (nI 0), .int (nI 0), .int (g.1 75 (9 * f + 0)), .null, .null, .null]) hA si_183_21 (by rw [sq_l_183]; decide) rfl ?_
  refine sr_iconst (v := nI 0) hA si_183_23 (by decide) ?_
  refine sr_istore (ls1 := [.ref 64, .int (nI f), .int (nI 0), .int (nI 0), .int (g.1 75 (9 * f + 0)), .int (nI 0), .null, .null]) hA si_183_24 (by rw [sq_l_183]; decide) rfl ?_
  have h0 := ml_storm0 (g := g) hn hb hn0 hf hA n 0 (by omega)
  rw [sp_sk0, sp_sP_0] at h0
  exact h0
set_option maxRecDepth 20000 in
theorem ml_storm1 {X : sp_X} {a : sp_Ac} {g : sp_G} {f n : Nat} (hn : g.1 64 11 = nI n) (hb : n ≤ 6) (hn0 : 0 < n) (hf : f < 14) (hA : sp_Act X 183 3 (sp_Fi (sp_so n 1 (sp_pv g f)) (sp_sP g f (sp_sm n 1 (sp_pv g f)))) a) : ∀ (m : Nat) (k : Nat), k + m = n → sp_Ev X a 183 26 [.ref 64, .int (nI f), .int (nI 1), .int (nI (n - 1)), .int (sp_pv g f (n - 1)), .int (nI k), .null, .null] [] (sp_sP g f (sp_rk n k (sp_pv g f))) := by
  intro m
  induction m with
  | zero =>
    intro k h0_
    refine sr_iload hA si_183_26 rfl ?_
    refine sr_aload_n hA si_183_28 rfl ?_
    refine sr_getIv (v := nI n) hA si_183_29 sf_183_142 (by decide) (by decide) rfl (by decide) (by rw [sp_sP_o (by decide)]; exact hn) ?_
    refine sr_icmp_geN (tgt := 105) hA si_183_32 (by decide) (by omega) (by omega) (fun c1 => ?_) (fun c1 => absurd c1 (by omega))
    refine sr_aload_n hA si_183_105 rfl ?_
    refine sr_iload_n hA si_183_106 rfl ?_
    refine sr_bipush (v := nI 6) hA si_183_107 (by decide) ?_
    refine sr_iload hA si_183_109 rfl ?_
    refine sr_VFv (c := 64) (ci := 8) (as := [.int (nI f), .int (nI 6), .int (sp_pv g f (n - 1))]) (st := []) hA si_183_111 sv_178 sk_183_161 (mc_add X (sp_sP g f (sp_rk n k (sp_pv g f))) (f := f) (i := 6) (by omega) (sp_pv g f (n - 1))) (by omega) rfl (by decide) (by decide) rfl sq_c_178 rfl (Nat.le_of_ble_eq_true rfl) ?_
    refine sr_iload hA si_183_114 rfl ?_
    exact sr_iretF hA si_183_116 sq_r_183 rfl (by rw [sp_sP_w (by omega), sp_rdPf (by omega), show k = n by omega]; rfl)
  | succ m ih =>
    intro k h0_
    by_cases hkn : k + 1 < n
    · refine sr_iload hA si_183_26 rfl ?_
      refine sr_aload_n hA si_183_28 rfl ?_
      refine sr_getIv (v := nI n) hA si_183_29 sf_183_142 (by decide) (by decide) rfl (by decide) (by rw [sp_sP_o (by decide)]; exact hn) ?_
      refine sr_icmp_geN (tgt := 105) hA si_183_32 (by decide) (by omega) (by omega) (fun c1 => absurd c1 (by omega)) (fun c1 => ?_)
      refine sr_iload_n hA si_183_35 rfl ?_
      refine sr_if_neN (tgt := 44) hA si_183_36 (by decide) (by omega) (fun c2 => ?_) (fun c2 => absurd c2 (by omega))
      refine sr_aload_n hA si_183_44 rfl ?_
      refine sr_getIv (v := nI n) hA si_183_45 sf_183_142 (by decide) (by decide) rfl (by decide) (by rw [sp_sP_o (by decide)]; exact hn) ?_
      refine sr_iconst (v := nI 1) hA si_183_48 (by decide) ?_
      refine sr_isubN hA si_183_49 (by omega) ?_
      refine sr_iload hA si_183_50 rfl ?_
      refine sr_isubN hA si_183_52 (by omega) ?_
      refine sr_istore (ls1 := [.ref 64, .int (nI f), .int (nI 1), .int (nI (n - 1)), .int (sp_pv g f (n - 1)), .int (nI k), .int (nI ((n - 1) - k)), .null]) hA si_183_53 (by rw [sq_l_183]; decide) rfl ?_
      refine sr_iload_n hA si_183_55 rfl ?_
      refine sr_if_neN (tgt := 66) hA si_183_56 (by decide) (by omega) (fun c3 => ?_) (fun c3 => absurd c3 (by omega))
      refine sr_iload hA si_183_66 rfl ?_
      refine sr_iconst (v := nI 1) hA si_183_68 (by decide) ?_
      refine sr_isubN hA si_183_69 (by omega) ?_
      refine sr_istore (ls1 := [.ref 64, .int (nI f), .int (nI 1), .int (nI (n - 1)), .int (sp_pv g f (n - 1)), .int (nI k), .int (nI ((n - 1) - k)), .int (nI (((n - 1) - k) - 1))]) hA si_183_70 (by rw [sq_l_183]; decide) rfl ?_
      refine sr_aload_n hA si_183_72 rfl ?_
      refine sr_iload_n hA si_183_73 rfl ?_
      refine sr_iload hA si_183_74 rfl ?_
      refine sr_aload_n hA si_183_76 rfl ?_
      refine sr_iload hA si_183_77 rfl ?_
      refine sr_VFi (c := 64) (ci := 8) (as := [.int (nI (((n - 1) - k) - 1))]) (st := [.int (nI ((n - 1) - k)), .int (nI f), .ref 64]) hA si_183_79 sv_162 sk_183_174 (mc_isKey1 X (sp_sP g f (sp_rk n k (sp_pv g f))) (n := n) (by rw [sp_sP_o (by decide)]; exact hn) (by omega) (by omega)) (by omega) rfl (by decide) (by decide) rfl sq_c_162 rfl (Nat.le_of_ble_eq_true rfl) ?_
      refine sr_if_eqN (tgt := 95) hA si_183_82 (by decide) (by omega) (fun c4 => absurd c4 (by omega)) (fun c4 => ?_)
      refine sr_aload_n hA si_183_85 rfl ?_
      refine sr_iload_n hA si_183_86 rfl ?_
      refine sr_iload hA si_183_87 rfl ?_
      refine sr_VFi (c := 64) (ci := 8) (as := [.int (nI f), .int (nI (((n - 1) - k) - 1))]) (st := [.int (nI ((n - 1) - k)), .int (nI f), .ref 64]) hA si_183_89 sv_164 sk_183_152 (mc_v X (sp_sP g f (sp_rk n k (sp_pv g f))) (f := f) (i := (((n - 1) - k) - 1)) (by omega)) (by omega) rfl (by decide) (by decide) rfl sq_c_164 rfl (Nat.le_of_ble_eq_true rfl) ?_
      refine sr_goto (tgt := 96) hA si_183_92 (by decide) ?_
      refine sr_VFv (c := 64) (ci := 8) (as := [.int (nI f), .int (nI ((n - 1) - k)), .int ((sp_sP g f (sp_rk n k (sp_pv g f))).1 75 (9 * f + (((n - 1) - k) - 1)))]) (st := []) hA si_183_96 sv_160 sk_183_145 (mc_place X (sp_sP g f (sp_rk n k (sp_pv g f))) (f := f) (i := ((n - 1) - k)) (by omega) ((sp_sP g f (sp_rk n k (sp_pv g f))).1 75 (9 * f + (((n - 1) - k) - 1)))) (by omega) rfl (by decide) (by decide) rfl sq_c_160 rfl (Nat.le_of_ble_eq_true rfl) ?_
      refine sr_iincN (x := k) (y := 1) (ls1 := [.ref 64, .int (nI f), .int (nI 1), .int (nI (n - 1)), .int (sp_pv g f (n - 1)), .int (nI (k + 1)), .int (nI ((n - 1) - k)), .int (nI (((n - 1) - k) - 1))]) hA si_183_99 rfl rfl (by rw [sq_l_183]; decide) rfl ?_
      refine sr_goto (tgt := 26) hA si_183_102 (by decide) ?_
      refine sr_fg (ls1 := [.ref 64, .int (nI f), .int (nI 1), .int (nI (n - 1)), .int (sp_pv g f (n - 1)), .int (nI (k + 1)), .null, .null]) ⟨Or.inr rfl, Or.inr rfl, Or.inr rfl, Or.inr rfl, Or.inr rfl, Or.inr rfl, Or.inl rfl, Or.inl rfl, trivial⟩ ?_
      rw [sp_sP_w (by omega), sp_rdPf (by omega), sp_rkS hkn]
      exact ih (k + 1) (by omega)
    · refine sr_iload hA si_183_26 rfl ?_
      refine sr_aload_n hA si_183_28 rfl ?_
      refine sr_getIv (v := nI n) hA si_183_29 sf_183_142 (by decide) (by decide) rfl (by decide) (by rw [sp_sP_o (by decide)]; exact hn) ?_
      refine sr_icmp_geN (tgt := 105) hA si_183_32 (by decide) (by omega) (by omega) (fun c1 => absurd c1 (by omega)) (fun c1 => ?_)
      refine sr_iload_n hA si_183_35 rfl ?_
      refine sr_if_neN (tgt := 44) hA si_183_36 (by decide) (by omega) (fun c2 => ?_) (fun c2 => absurd c2 (by omega))
      refine sr_aload_n hA si_183_44 rfl ?_
      refine sr_getIv (v := nI n) hA si_183_45 sf_183_142 (by decide) (by decide) rfl (by decide) (by rw [sp_sP_o (by decide)]; exact hn) ?_
      refine sr_iconst (v := nI 1) hA si_183_48 (by decide) ?_
      refine sr_isubN hA si_183_49 (by omega) ?_
      refine sr_iload hA si_183_50 rfl ?_
      refine sr_isubN hA si_183_52 (by omega) ?_
      refine sr_istore (ls1 := [.ref 64, .int (nI f), .int (nI 1), .int (nI (n - 1)), .int (sp_pv g f (n - 1)), .int (nI k), .int (nI ((n - 1) - k)), .null]) hA si_183_53 (by rw [sq_l_183]; decide) rfl ?_
      refine sr_iload_n hA si_183_55 rfl ?_
      refine sr_if_neN (tgt := 66) hA si_183_56 (by decide) (by omega) (fun c3 => ?_) (fun c3 => absurd c3 (by omega))
      refine sr_iload hA si_183_66 rfl ?_
      refine sr_iconst (v := nI 1) hA si_183_68 (by decide) ?_
      refine sr_isub hA si_183_69 ?_
      refine sr_istore (ls1 := [.ref 64, .int (nI f), .int (nI 1), .int (nI (n - 1)), .int (sp_pv g f (n - 1)), .int (nI k), .int (nI ((n - 1) - k)), .int ((nI ((n - 1) - k)) - (nI 1))]) hA si_183_70 (by rw [sq_l_183]; decide) rfl ?_
      refine sr_aload_n hA si_183_72 rfl ?_
      refine sr_iload_n hA si_183_73 rfl ?_
      refine sr_iload hA si_183_74 rfl ?_
      refine sr_aload_n hA si_183_76 rfl ?_
      refine sr_iload hA si_183_77 rfl ?_
      refine sr_VFi (c := 64) (ci := 8) (as := [.int ((nI ((n - 1) - k)) - (nI 1))]) (st := [.int (nI ((n - 1) - k)), .int (nI f), .ref 64]) hA si_183_79 sv_162 sk_183_174 (mc_isKeyM X (sp_sP g f (sp_rk n k (sp_pv g f))) (n := n) (by rw [sp_sP_o (by decide)]; exact hn) (by rw [show n - 1 - k = 0 by omega]; decide)) (by omega) rfl (by decide) (by decide) rfl sq_c_162 rfl (Nat.le_of_ble_eq_true rfl) ?_
      refine sr_if_eqN (tgt := 95) hA si_183_82 (by decide) (by omega) (fun c4 => ?_) (fun c4 => absurd c4 (by omega))
      refine sr_iconst (v := nI 0) hA si_183_95 (by decide) ?_
      refine sr_VFv (c := 64) (ci := 8) (as := [.int (nI f), .int (nI ((n - 1) - k)), .int (nI 0)]) (st := []) hA si_183_96 sv_160 sk_183_145 (mc_place X (sp_sP g f (sp_rk n k (sp_pv g f))) (f := f) (i := ((n - 1) - k)) (by omega) (nI 0)) (by omega) rfl (by decide) (by decide) rfl sq_c_160 rfl (Nat.le_of_ble_eq_true rfl) ?_
      refine sr_iincN (x := k) (y := 1) (ls1 := [.ref 64, .int (nI f), .int (nI 1), .int (nI (n - 1)), .int (sp_pv g f (n - 1)), .int (nI (k + 1)), .int (nI ((n - 1) - k)), .int ((nI ((n - 1) - k)) - (nI 1))]) hA si_183_99 rfl rfl (by rw [sq_l_183]; decide) rfl ?_
      refine sr_goto (tgt := 26) hA si_183_102 (by decide) ?_
      refine sr_fg (ls1 := [.ref 64, .int (nI f), .int (nI 1), .int (nI (n - 1)), .int (sp_pv g f (n - 1)), .int (nI (k + 1)), .null, .null]) ⟨Or.inr rfl, Or.inr rfl, Or.inr rfl, Or.inr rfl, Or.inr rfl, Or.inr rfl, Or.inl rfl, Or.inl rfl, trivial⟩ ?_
      rw [sp_sP_w (by omega), sp_rkE (by omega)]
      exact ih (k + 1) (by omega)
set_option maxRecDepth 20000 in
theorem mc_storm1 (X : sp_X) (g : sp_G) {f n : Nat} (hn : g.1 64 11 = nI n) (hb : n ≤ 6) (hn0 : 0 < n) (hf : f < 14) : sp_Ct X 3 183 [.ref 64, .int (nI f), .int (nI 1)] g (sp_Fi (sp_so n 1 (sp_pv g f)) (sp_sP g f (sp_sm n 1 (sp_pv g f)))) := by
  refine sp_walkN (n := 8) sq_p_183 sq_l_183 (Nat.le_of_ble_eq_true rfl) (fun a hA => ?_)
  show sp_Ev X a 183 0 [.ref 64, .int (nI f), .int (nI 1), .null, .null, .null, .null, .null] [] g
  refine sr_iload_n hA si_183_0 rfl ?_
  refine sr_if_neN (tgt := 8) hA si_183_1 (by decide) (by omega) (fun c1 => ?_) (fun c1 => absurd c1 (by omega))
  refine sr_aload_n hA si_183_8 rfl ?_
  refine sr_getIv (v := nI n) hA si_183_9 sf_183_142 (by decide) (by decide) rfl (by decide) hn ?_
  refine sr_iconst (v := nI 1) hA si_183_12 (by decide) ?_
  refine sr_isubN hA si_183_13 (by omega) ?_
  refine sr_istore_n (ls1 := [.ref 64, .int (nI f), .int (nI 1), .int (nI (n - 1)), .null, .null, .null, .null]) hA si_183_14 rfl (by rw [sq_l_183]; decide) rfl ?_
  refine sr_aload_n hA si_183_15 rfl ?_
  refine sr_iload_n hA si_183_16 rfl ?_
  refine sr_iload_n hA si_183_17 rfl ?_
  refine sr_VFi (c := 64) (ci := 8) (as := [.int (nI f), .int (nI (n - 1))]) (st := []) hA si_183_18 sv_164 sk_183_152 (mc_v X g (f := f) (i := (n - 1)) (by omega)) (by omega) rfl (by decide) (by decide) rfl sq_c_164 rfl (Nat.le_of_ble_eq_true rfl) ?_
  refine sr_istore (ls1 := [.ref 64, .int (nI f), .int (nI 1), .int (nI (n - 1)), .int (g.1 75 (9 * f + (n - 1))), .null, .null, .null]) hA si_183_21 (by rw [sq_l_183]; decide) rfl ?_
  refine sr_iconst (v := nI 0) hA si_183_23 (by decide) ?_
  refine sr_istore (ls1 := [.ref 64, .int (nI f), .int (nI 1), .int (nI (n - 1)), .int (g.1 75 (9 * f + (n - 1))), .int (nI 0), .null, .null]) hA si_183_24 (by rw [sq_l_183]; decide) rfl ?_
  have h0 := ml_storm1 (g := g) hn hb hn0 hf hA n 0 (by omega)
  rw [sp_rk0, sp_sP_0] at h0
  exact h0
set_option maxRecDepth 20000 in
theorem xl_blowL {X : sp_X} {a : sp_Ac} {g : sp_G} {s o n : Nat} (hs : sp_sd s o) (hb : n ≤ 6) (hn0 : 0 < n) (hA : sp_Act X 62 1 (sp_Fi (sp_so n 0 (sp_sv g s o)) (sp_sS g s o (sp_sm n 0 (sp_sv g s o)))) a) : ∀ (m : Nat) (k : Nat), k + m + 1 = n → sp_Ev X a 62 9 [.ref s, .int (nI n), .int (sp_sv g s o 0), .int (nI k)] [] (sp_sS g s o (sp_sk n k (sp_sv g s o))) := by
  intro m
  induction m with
  | zero =>
    intro k h0_
    refine sr_iload_n hA si_62_9 rfl ?_
    refine sr_iconst (v := nI 1) hA si_62_10 (by decide) ?_
    refine sr_iaddN hA si_62_11 ?_
    refine sr_iload_n hA si_62_12 rfl ?_
    refine sr_icmp_geN (tgt := 36) hA si_62_13 (by decide) (by omega) (by omega) (fun c1 => ?_) (fun c1 => absurd c1 (by omega))
    refine sr_aload_n hA si_62_36 rfl ?_
    refine sr_getR (r := o) hA si_62_37 sf_62_9 (by decide) hs.1 hs.2.1 rfl hs.2.2.1 ?_
    refine sr_iload_n hA si_62_40 rfl ?_
    refine sr_iconst (v := nI 1) hA si_62_41 (by decide) ?_
    refine sr_isubN hA si_62_42 (by omega) ?_
    refine sr_iconst (v := nI 0) hA si_62_43 (by decide) ?_
    refine sr_iastN (n := 6) hA si_62_44 hs.2.2.2.1 hs.2.2.2.2.1 hs.2.2.2.2.2.1 (by omega) (by decide) ?_
    refine sr_aload_n hA si_62_45 rfl ?_
    refine sr_dup hA si_62_46 rfl ?_
    refine sr_getIv (v := (sp_wI (sp_sS g s o (sp_sk n k (sp_sv g s o))) o (n - 1) (nI 0)).1 s 1) hA si_62_47 sf_62_21 (by decide) hs.1 hs.2.1 (by decide) rfl ?_
    refine sr_iload_n hA si_62_50 rfl ?_
    refine sr_iadd hA si_62_51 ?_
    refine sr_putI hA si_62_52 sf_62_21 rfl rfl (by decide) hs.1 hs.2.1 rfl ?_
    refine sr_iload_n hA si_62_55 rfl ?_
    exact sr_iretF hA si_62_56 sq_r_62 rfl (by rw [show n - 1 = k by omega, sp_sS_w (by omega), sp_skE (by omega), sp_sS_w2 hs.2.2.2.2.2.2.1 (by omega) (by omega), sp_rdS6 hs.2.2.2.2.2.2.1, show k + 1 = n by omega]; rfl)
  | succ m ih =>
    intro k h0_
    refine sr_iload_n hA si_62_9 rfl ?_
    refine sr_iconst (v := nI 1) hA si_62_10 (by decide) ?_
    refine sr_iaddN hA si_62_11 ?_
    refine sr_iload_n hA si_62_12 rfl ?_
    refine sr_icmp_geN (tgt := 36) hA si_62_13 (by decide) (by omega) (by omega) (fun c1 => absurd c1 (by omega)) (fun c1 => ?_)
    refine sr_aload_n hA si_62_16 rfl ?_
    refine sr_getR (r := o) hA si_62_17 sf_62_9 (by decide) hs.1 hs.2.1 rfl hs.2.2.1 ?_
    refine sr_iload_n hA si_62_20 rfl ?_
    refine sr_aload_n hA si_62_21 rfl ?_
    refine sr_getR (r := o) hA si_62_22 sf_62_9 (by decide) hs.1 hs.2.1 rfl hs.2.2.1 ?_
    refine sr_iload_n hA si_62_25 rfl ?_
    refine sr_iconst (v := nI 1) hA si_62_26 (by decide) ?_
    refine sr_iaddN hA si_62_27 ?_
    refine sr_ialdNv (v := (sp_sS g s o (sp_sk n k (sp_sv g s o))).1 o (k + 1)) (n := 6) hA si_62_28 hs.2.2.2.1 hs.2.2.2.2.1 hs.2.2.2.2.2.1 (by omega) (by decide) rfl ?_
    refine sr_iastN (n := 6) hA si_62_29 hs.2.2.2.1 hs.2.2.2.2.1 hs.2.2.2.2.2.1 (by omega) (by decide) ?_
    refine sr_iincN (x := k) (y := 1) (ls1 := [.ref s, .int (nI n), .int (sp_sv g s o 0), .int (nI (k + 1))]) hA si_62_30 rfl rfl (by rw [sq_l_62]; decide) rfl ?_
    refine sr_goto (tgt := 9) hA si_62_33 (by decide) ?_
    rw [sp_sS_w (by omega), sp_rdSf (by omega), sp_skS (by omega)]
    exact ih (k + 1) (by omega)
set_option maxRecDepth 20000 in
theorem xc_blowL (X : sp_X) (g : sp_G) {s o n : Nat} (hs : sp_sd s o) (hb : n ≤ 6) (hn0 : 0 < n) : sp_Ct X 1 62 [.ref s, .int (nI n)] g (sp_Fi (sp_so n 0 (sp_sv g s o)) (sp_sS g s o (sp_sm n 0 (sp_sv g s o)))) := by
  refine sp_walkN (n := 4) sq_p_62 sq_l_62 (Nat.le_of_ble_eq_true rfl) (fun a hA => ?_)
  show sp_Ev X a 62 0 [.ref s, .int (nI n), .null, .null] [] g
  refine sr_aload_n hA si_62_0 rfl ?_
  refine sr_getR (r := o) hA si_62_1 sf_62_9 (by decide) hs.1 hs.2.1 rfl hs.2.2.1 ?_
  refine sr_iconst (v := nI 0) hA si_62_4 (by decide) ?_
  refine sr_ialdNv (v := g.1 o 0) (n := 6) hA si_62_5 hs.2.2.2.1 hs.2.2.2.2.1 hs.2.2.2.2.2.1 (by omega) (by decide) rfl ?_
  refine sr_istore_n (ls1 := [.ref s, .int (nI n), .int (g.1 o 0), .null]) hA si_62_6 rfl (by rw [sq_l_62]; decide) rfl ?_
  refine sr_iconst (v := nI 0) hA si_62_7 (by decide) ?_
  refine sr_istore_n (ls1 := [.ref s, .int (nI n), .int (g.1 o 0), .int (nI 0)]) hA si_62_8 rfl (by rw [sq_l_62]; decide) rfl ?_
  have h0 := xl_blowL (g := g) hs hb hn0 hA (n - 1) 0 (by omega)
  rw [sp_sk0, sp_sS_0 hs.2.2.2.2.2.2.1] at h0
  exact h0
set_option maxRecDepth 20000 in
theorem xl_blowR {X : sp_X} {a : sp_Ac} {g : sp_G} {s o n : Nat} (hs : sp_sd s o) (hb : n ≤ 6) (hn0 : 0 < n) (hA : sp_Act X 63 1 (sp_Fi (sp_so n 1 (sp_sv g s o)) (sp_sS g s o (sp_sm n 1 (sp_sv g s o)))) a) : ∀ (m : Nat) (k : Nat), k + m + 1 = n → sp_Ev X a 63 13 [.ref s, .int (nI n), .int (sp_sv g s o (n - 1)), .int (nI (n - 1 - k))] [] (sp_sS g s o (sp_rk n k (sp_sv g s o))) := by
  intro m
  induction m with
  | zero =>
    intro k h0_
    refine sr_iload_n hA si_63_13 rfl ?_
    refine sr_if_leN (tgt := 37) hA si_63_14 (by decide) (by omega) (fun c1 => ?_) (fun c1 => absurd c1 (by omega))
    refine sr_aload_n hA si_63_37 rfl ?_
    refine sr_getR (r := o) hA si_63_38 sf_63_9 (by decide) hs.1 hs.2.1 rfl hs.2.2.1 ?_
    refine sr_iconst (v := nI 0) hA si_63_41 (by decide) ?_
    refine sr_iconst (v := nI 0) hA si_63_42 (by decide) ?_
    refine sr_iastN (n := 6) hA si_63_43 hs.2.2.2.1 hs.2.2.2.2.1 hs.2.2.2.2.2.1 (by omega) (by decide) ?_
    refine sr_aload_n hA si_63_44 rfl ?_
    refine sr_dup hA si_63_45 rfl ?_
    refine sr_getIv (v := (sp_wI (sp_sS g s o (sp_rk n k (sp_sv g s o))) o 0 (nI 0)).1 s 1) hA si_63_46 sf_63_21 (by decide) hs.1 hs.2.1 (by decide) rfl ?_
    refine sr_iload_n hA si_63_49 rfl ?_
    refine sr_iadd hA si_63_50 ?_
    refine sr_putI hA si_63_51 sf_63_21 rfl rfl (by decide) hs.1 hs.2.1 rfl ?_
    refine sr_iload_n hA si_63_54 rfl ?_
    exact sr_iretF hA si_63_55 sq_r_63 rfl (by have e0 : n - 1 - k = 0 := (by omega); have e1 := sp_rkE (n := n) (k := k) (v := sp_sv g s o) (by omega); rw [e0] at e1; rw [sp_sS_w (by omega), e1, sp_sS_w2 hs.2.2.2.2.2.2.1 (by omega) (by omega), sp_rdS6 hs.2.2.2.2.2.2.1, show k + 1 = n by omega]; rfl)
  | succ m ih =>
    intro k h0_
    refine sr_iload_n hA si_63_13 rfl ?_
    refine sr_if_leN (tgt := 37) hA si_63_14 (by decide) (by omega) (fun c1 => absurd c1 (by omega)) (fun c1 => ?_)
    refine sr_aload_n hA si_63_17 rfl ?_
    refine sr_getR (r := o) hA si_63_18 sf_63_9 (by decide) hs.1 hs.2.1 rfl hs.2.2.1 ?_
    refine sr_iload_n hA si_63_21 rfl ?_
    refine sr_aload_n hA si_63_22 rfl ?_
    refine sr_getR (r := o) hA si_63_23 sf_63_9 (by decide) hs.1 hs.2.1 rfl hs.2.2.1 ?_
    refine sr_iload_n hA si_63_26 rfl ?_
    refine sr_iconst (v := nI 1) hA si_63_27 (by decide) ?_
    refine sr_isubN hA si_63_28 (by omega) ?_
    refine sr_ialdNv (v := (sp_sS g s o (sp_rk n k (sp_sv g s o))).1 o ((n - 1 - k) - 1)) (n := 6) hA si_63_29 hs.2.2.2.1 hs.2.2.2.2.1 hs.2.2.2.2.2.1 (by omega) (by decide) rfl ?_
    refine sr_iastN (n := 6) hA si_63_30 hs.2.2.2.1 hs.2.2.2.2.1 hs.2.2.2.2.2.1 (by omega) (by decide) ?_
    refine sr_iincM (x := (n - 1 - k)) (ls1 := [.ref s, .int (nI n), .int (sp_sv g s o (n - 1)), .int (nI ((n - 1 - k) - 1))]) hA si_63_31 (by omega) rfl (by rw [sq_l_63]; decide) rfl ?_
    refine sr_goto (tgt := 13) hA si_63_34 (by decide) ?_
    rw [sp_sS_w (by omega), sp_rdSf (by omega), sp_rkS (by omega), show n - 1 - k - 1 = n - 1 - (k + 1) by omega]
    exact ih (k + 1) (by omega)
set_option maxRecDepth 20000 in
theorem xc_blowR (X : sp_X) (g : sp_G) {s o n : Nat} (hs : sp_sd s o) (hb : n ≤ 6) (hn0 : 0 < n) : sp_Ct X 1 63 [.ref s, .int (nI n)] g (sp_Fi (sp_so n 1 (sp_sv g s o)) (sp_sS g s o (sp_sm n 1 (sp_sv g s o)))) := by
  refine sp_walkN (n := 4) sq_p_63 sq_l_63 (Nat.le_of_ble_eq_true rfl) (fun a hA => ?_)
  show sp_Ev X a 63 0 [.ref s, .int (nI n), .null, .null] [] g
  refine sr_aload_n hA si_63_0 rfl ?_
  refine sr_getR (r := o) hA si_63_1 sf_63_9 (by decide) hs.1 hs.2.1 rfl hs.2.2.1 ?_
  refine sr_iload_n hA si_63_4 rfl ?_
  refine sr_iconst (v := nI 1) hA si_63_5 (by decide) ?_
  refine sr_isubN hA si_63_6 (by omega) ?_
  refine sr_ialdNv (v := sp_sv g s o (n - 1)) (n := 6) hA si_63_7 hs.2.2.2.1 hs.2.2.2.2.1 hs.2.2.2.2.2.1 (by omega) (by decide) (by unfold sp_sv; rw [if_pos (by omega)]) ?_
  refine sr_istore_n (ls1 := [.ref s, .int (nI n), .int (sp_sv g s o (n - 1)), .null]) hA si_63_8 rfl (by rw [sq_l_63]; decide) rfl ?_
  refine sr_iload_n hA si_63_9 rfl ?_
  refine sr_iconst (v := nI 1) hA si_63_10 (by decide) ?_
  refine sr_isubN hA si_63_11 (by omega) ?_
  refine sr_istore_n (ls1 := [.ref s, .int (nI n), .int (sp_sv g s o (n - 1)), .int (nI (n - 1))]) hA si_63_12 rfl (by rw [sq_l_63]; decide) rfl ?_
  have h0 := xl_blowR (g := g) hs hb hn0 hA (n - 1) 0 (by omega)
  rw [sp_rk0, sp_sS_0 hs.2.2.2.2.2.2.1] at h0
  exact h0
set_option maxRecDepth 20000 in
theorem xc_scoop (X : sp_X) (g : sp_G) {s o i : Nat} (hs : sp_sd s o) (hi : i < 6) (m : Int32) : sp_Ct X 1 65 [.ref s, .int (nI i), .int m] g (sp_Fi (sp_lo m (sp_sv g s o i)) (sp_sS g s o (sp_mv (sp_sv g s o) i 6 m))) := by
  obtain ⟨s1, s2, s3, s4, s5, s6, s7, s8, s9, s10, s11⟩ := id hs
  refine sp_walkN (n := 4) sq_p_65 sq_l_65 (Nat.le_of_ble_eq_true rfl) (fun a hA => ?_)
  show sp_Ev X a 65 0 [.ref s, .int (nI i), .int m, .null] [] g
  refine sr_iload_n hA si_65_0 rfl ?_
  refine sr_aload_n hA si_65_1 rfl ?_
  refine sr_getR (r := o) hA si_65_2 sf_65_9 (by decide) hs.1 hs.2.1 rfl hs.2.2.1 ?_
  refine sr_iload_n hA si_65_5 rfl ?_
  refine sr_ialdNv (v := g.1 o i) (n := 6) hA si_65_6 hs.2.2.2.1 hs.2.2.2.2.1 hs.2.2.2.2.2.1 (by omega) (by decide) rfl ?_
  refine sr_mmin hA si_65_7 sk_65_37 (by omega) (Nat.le_of_ble_eq_true rfl) ?_
  refine sr_istore_n (ls1 := [.ref s, .int (nI i), .int m, .int (if g.1 o i < m then g.1 o i else m)]) hA si_65_10 rfl (by rw [sq_l_65]; decide) rfl ?_
  refine sr_aload_n hA si_65_11 rfl ?_
  refine sr_getR (r := o) hA si_65_12 sf_65_9 (by decide) hs.1 hs.2.1 rfl hs.2.2.1 ?_
  refine sr_iload_n hA si_65_15 rfl ?_
  refine sr_dup2 hA si_65_16 rfl rfl ?_
  refine sr_ialdNv (v := g.1 o i) (n := 6) hA si_65_17 hs.2.2.2.1 hs.2.2.2.2.1 hs.2.2.2.2.2.1 (by omega) (by decide) rfl ?_
  refine sr_iload_n hA si_65_18 rfl ?_
  refine sr_isub hA si_65_19 ?_
  refine sr_iastN (n := 6) hA si_65_20 hs.2.2.2.1 hs.2.2.2.2.1 hs.2.2.2.2.2.1 (by omega) (by decide) ?_
  refine sr_aload_n hA si_65_21 rfl ?_
  refine sr_dup hA si_65_22 rfl ?_
  refine sr_getIv (v := g.1 s 1) hA si_65_23 sf_65_21 (by decide) hs.1 hs.2.1 (by decide) (by simp [sp_wI, sp_wL, sp_wA, sp_up, s7, s7.symm]) ?_
  refine sr_iload_n hA si_65_26 rfl ?_
  refine sr_iadd hA si_65_27 ?_
  refine sr_putI hA si_65_28 sf_65_21 rfl rfl (by decide) hs.1 hs.2.1 rfl ?_
  refine sr_iload_n hA si_65_31 rfl ?_
  exact sr_iretF hA si_65_32 sq_r_65 (by rw [sp_lo_min, show sp_sv g s o i = g.1 o i from if_pos hi]) (sp_tossEq6 s7 hi)
