/-! the reference's reader -/
def sp_rb (g g' : sp_G) : Prop := (∀ c, c ≠ 64 → c ≠ 74 → g'.1 c = g.1 c) ∧ (∀ j, ¬ (15 ≤ j ∧ j ≤ 18) → g'.1 64 j = g.1 64 j) ∧ g'.2 = g.2
theorem sp_rb.rf {g : sp_G} : sp_rb g g := ⟨fun _ _ _ => rfl, fun _ _ => rfl, rfl⟩
theorem sp_rb.tr {g g1 g2 : sp_G} (h : sp_rb g g1) (k : sp_rb g1 g2) : sp_rb g g2 := ⟨fun c h1 h2 => (k.1 c h1 h2).trans (h.1 c h1 h2), fun j hj => (k.2.1 j hj).trans (h.2.1 j hj), k.2.2.trans h.2.2⟩
theorem sp_rb.wI {g g1 : sp_G} (h : sp_rb g g1) {c j : Nat} {v : Int32} (hc : (c = 64 ∧ 15 ≤ j ∧ j ≤ 18) ∨ c = 74) : sp_rb g (sp_wI g1 c j v) :=
  ⟨fun c' h1 h2 => by rw [sp_wI_ne (by omega)]; exact h.1 c' h1 h2, fun j' hj => by rw [sp_rd, if_neg (by omega)]; exact h.2.1 j' hj, h.2.2⟩
theorem sp_TM.rb {t z : Nat} {f : Nat → Int32} {g g1 : sp_G} (h : sp_TM t z f g) (k : sp_rb g g1) : sp_TM t z f g1 := by
  obtain ⟨h1, h2, h3, h4⟩ := h
  exact ⟨h1, h2, by rw [k.1 69 (by omega) (by omega)]; exact h3, fun i hi => by rw [k.1 70 (by omega) (by omega)]; exact h4 i hi⟩
/-- no figure from l on at p -/
def sp_bf (f : Nat → Int32) (z p l : Nat) : Prop := z ≤ p ∨ (p < z ∧ (sp_dg0 (f p) ∨ ∃ d, d < l ∧ sp_dg1 (f p) d))
theorem sp_TM.bt {X : sp_X} {t z p : Nat} {f : Nat → Int32} {g : sp_G} (h : sp_TM t z f g) (hp : p < z) : sp_Ct X 0 154 [.ref 64, .int (nI t), .int (nI p)] g (sp_Fi (f p) g) := by
  obtain ⟨h1, h2, h3, h4⟩ := h
  have := mc_byteAt1 X g (i := p) h3 h1 hp h2
  rw [h4 p hp] at this
  exact this
theorem sp_TM.b0 {X : sp_X} {t z p : Nat} {f : Nat → Int32} {g : sp_G} (h : sp_TM t z f g) (hp : z ≤ p) (hb : p < 2 ^ 31) : sp_Ct X 0 154 [.ref 64, .int (nI t), .int (nI p)] g (sp_Fi (nI 0) g) := mc_byteAt0 X g (i := p) h.2.2.1 h.1 hp h.2.1 hb
set_option maxRecDepth 20000 in
theorem mc_figG (X : sp_X) (g : sp_G) {t z : Nat} {f : Nat → Int32} (hT : sp_TM t z f g) {p l : Nat} (hp15 : g.1 64 15 = nI p) {d : Nat} (hp : p < z) (hd : sp_dg1 (f p) d) (hl : l ≤ d) : sp_Ct X 1 156 [.ref 64, .int (nI t), .int (nI l)] g (sp_Fi (nI 1) (sp_wI (sp_wI g 64 16 (nI d)) 64 15 (nI (p + 1)))) := by
  obtain ⟨ht, hz, -, -⟩ := id hT
  have hd9 := hd.1
  refine sp_walkN (n := 4) sq_p_156 sq_l_156 (Nat.le_of_ble_eq_true rfl) (fun ac hA => ?_)
  show sp_Ev X ac 156 0 [.ref 64, .int (nI t), .int (nI l), .null] [] g
  refine sr_aload_n hA si_156_0 rfl ?_
  refine sr_aload_n hA si_156_1 rfl ?_
  refine sr_iload_n hA si_156_2 rfl ?_
  refine sr_aload_n hA si_156_3 rfl ?_
  refine sr_getIv (v := nI p) hA si_156_4 sf_156_111 (by decide) (by decide) rfl (by decide) hp15 ?_
  refine sr_VFi (c := 64) (ci := 8) (as := [.int (nI t), .int (nI p)]) (st := [.ref 64]) hA si_156_7 sv_154 sk_156_114 (by have h := hT.bt (X := X) (p := p) (by omega); rw [hd.2] at h; exact h) (by omega) rfl (by decide) (by decide) rfl sq_c_154 rfl (Nat.le_of_ble_eq_true rfl) ?_
  refine sr_bipush (v := nI 48) hA si_156_10 (by decide) ?_
  refine sr_isubN hA si_156_12 (by omega) ?_
  rw [show 48 + d - 48 = d by omega]
  refine sr_putI hA si_156_13 sf_156_117 rfl rfl (by decide) (by decide) rfl rfl ?_
  refine sr_aload_n hA si_156_16 rfl ?_
  refine sr_getIv (v := nI d) hA si_156_17 sf_156_117 (by decide) (by decide) rfl (by decide) rfl ?_
  refine sr_iload_n hA si_156_20 rfl ?_
  refine sr_bipush (v := nI 9) hA si_156_21 (by decide) ?_
  refine sr_SFi (as := [.int (nI d), .int (nI l), .int (nI 9)]) (st := []) hA si_156_23 ss_135 sk_156_83 (mc_inN X (sp_wI g 64 16 (nI d)) (by omega) (by omega) (by omega)) (by omega) rfl rfl (Nat.le_of_ble_eq_true rfl) ?_
  refine sr_istore_n (ls1 := [.ref 64, .int (nI t), .int (nI l), .int (nI 1)]) hA si_156_26 rfl (by rw [sq_l_156]; decide) rfl ?_
  refine sr_aload_n hA si_156_27 rfl ?_
  refine sr_dup hA si_156_28 rfl ?_
  refine sr_getIv (v := nI p) hA si_156_29 sf_156_111 (by decide) (by decide) rfl (by decide) hp15 ?_
  refine sr_iload_n hA si_156_32 rfl ?_
  refine sr_if_eqN (tgt := 40) hA si_156_33 (by decide) (by omega) (fun c1 => absurd c1 (by omega)) (fun c1 => ?_)
  refine sr_iconst (v := nI 1) hA si_156_36 (by decide) ?_
  refine sr_goto (tgt := 41) hA si_156_37 (by decide) ?_
  refine sr_iaddN hA si_156_41 ?_
  refine sr_putI hA si_156_42 sf_156_111 rfl rfl (by decide) (by decide) rfl rfl ?_
  refine sr_iload_n hA si_156_45 rfl ?_
  exact sr_zretF hA si_156_46 sq_r_156 (by decide) rfl rfl
set_option maxRecDepth 20000 in
theorem mc_figE (X : sp_X) (g : sp_G) {t z : Nat} {f : Nat → Int32} (hT : sp_TM t z f g) {p l : Nat} (hp15 : g.1 64 15 = nI p) (hl : l ≤ 9) (hpb : p < 2 ^ 31) (hp : z ≤ p) : sp_Ct X 1 156 [.ref 64, .int (nI t), .int (nI l)] g (sp_Ri (fun x g' => x = nI 0 ∧ ∃ y, g' = sp_wI (sp_wI g 64 16 y) 64 15 (nI p))) := by
  obtain ⟨ht, hz, -, -⟩ := id hT
  refine sp_walkN (n := 4) sq_p_156 sq_l_156 (Nat.le_of_ble_eq_true rfl) (fun ac hA => ?_)
  show sp_Ev X ac 156 0 [.ref 64, .int (nI t), .int (nI l), .null] [] g
  refine sr_aload_n hA si_156_0 rfl ?_
  refine sr_aload_n hA si_156_1 rfl ?_
  refine sr_iload_n hA si_156_2 rfl ?_
  refine sr_aload_n hA si_156_3 rfl ?_
  refine sr_getIv (v := nI p) hA si_156_4 sf_156_111 (by decide) (by decide) rfl (by decide) hp15 ?_
  refine sr_VFi (c := 64) (ci := 8) (as := [.int (nI t), .int (nI p)]) (st := [.ref 64]) hA si_156_7 sv_154 sk_156_114 (hT.b0 (p := p) (by omega) (by omega)) (by omega) rfl (by decide) (by decide) rfl sq_c_154 rfl (Nat.le_of_ble_eq_true rfl) ?_
  refine sr_bipush (v := nI 48) hA si_156_10 (by decide) ?_
  refine sr_isub hA si_156_12 ?_
  refine sr_putI hA si_156_13 sf_156_117 rfl rfl (by decide) (by decide) rfl rfl ?_
  refine sr_aload_n hA si_156_16 rfl ?_
  refine sr_getIv (v := nI 0 - nI 48) hA si_156_17 sf_156_117 (by decide) (by decide) rfl (by decide) rfl ?_
  refine sr_iload_n hA si_156_20 rfl ?_
  refine sr_bipush (v := nI 9) hA si_156_21 (by decide) ?_
  refine sr_SFi (as := [.int (nI 0 - nI 48), .int (nI l), .int (nI 9)]) (st := []) hA si_156_23 ss_135 sk_156_83 (mc_inM X (sp_wI g 64 16 ((nI 0) - (nI 48))) (by decide) (by omega)) (by omega) rfl rfl (Nat.le_of_ble_eq_true rfl) ?_
  refine sr_istore_n (ls1 := [.ref 64, .int (nI t), .int (nI l), .int (nI 0)]) hA si_156_26 rfl (by rw [sq_l_156]; decide) rfl ?_
  refine sr_aload_n hA si_156_27 rfl ?_
  refine sr_dup hA si_156_28 rfl ?_
  refine sr_getIv (v := nI p) hA si_156_29 sf_156_111 (by decide) (by decide) rfl (by decide) hp15 ?_
  refine sr_iload_n hA si_156_32 rfl ?_
  refine sr_if_eqN (tgt := 40) hA si_156_33 (by decide) (by omega) (fun c1 => ?_) (fun c1 => absurd c1 (by omega))
  refine sr_iconst (v := nI 0) hA si_156_40 (by decide) ?_
  refine sr_iaddN hA si_156_41 ?_
  refine sr_putI hA si_156_42 sf_156_111 rfl rfl (by decide) (by decide) rfl rfl ?_
  refine sr_iload_n hA si_156_45 rfl ?_
  exact sr_zretR hA si_156_46 sq_r_156 (by decide) ⟨rfl, _, rfl⟩
set_option maxRecDepth 20000 in
theorem mc_figM (X : sp_X) (g : sp_G) {t z : Nat} {f : Nat → Int32} (hT : sp_TM t z f g) {p l : Nat} (hp15 : g.1 64 15 = nI p) (hl : l ≤ 9) (hp : p < z) (hd : f p - nI 48 < 0) : sp_Ct X 1 156 [.ref 64, .int (nI t), .int (nI l)] g (sp_Ri (fun x g' => x = nI 0 ∧ ∃ y, g' = sp_wI (sp_wI g 64 16 y) 64 15 (nI p))) := by
  obtain ⟨ht, hz, -, -⟩ := id hT
  refine sp_walkN (n := 4) sq_p_156 sq_l_156 (Nat.le_of_ble_eq_true rfl) (fun ac hA => ?_)
  show sp_Ev X ac 156 0 [.ref 64, .int (nI t), .int (nI l), .null] [] g
  refine sr_aload_n hA si_156_0 rfl ?_
  refine sr_aload_n hA si_156_1 rfl ?_
  refine sr_iload_n hA si_156_2 rfl ?_
  refine sr_aload_n hA si_156_3 rfl ?_
  refine sr_getIv (v := nI p) hA si_156_4 sf_156_111 (by decide) (by decide) rfl (by decide) hp15 ?_
  refine sr_VFi (c := 64) (ci := 8) (as := [.int (nI t), .int (nI p)]) (st := [.ref 64]) hA si_156_7 sv_154 sk_156_114 (hT.bt (p := p) (by omega)) (by omega) rfl (by decide) (by decide) rfl sq_c_154 rfl (Nat.le_of_ble_eq_true rfl) ?_
  refine sr_bipush (v := nI 48) hA si_156_10 (by decide) ?_
  refine sr_isub hA si_156_12 ?_
  refine sr_putI hA si_156_13 sf_156_117 rfl rfl (by decide) (by decide) rfl rfl ?_
  refine sr_aload_n hA si_156_16 rfl ?_
  refine sr_getIv (v := (f p) - (nI 48)) hA si_156_17 sf_156_117 (by decide) (by decide) rfl (by decide) rfl ?_
  refine sr_iload_n hA si_156_20 rfl ?_
  refine sr_bipush (v := nI 9) hA si_156_21 (by decide) ?_
  refine sr_SFi (as := [.int ((f p) - (nI 48)), .int (nI l), .int (nI 9)]) (st := []) hA si_156_23 ss_135 sk_156_83 (mc_inM X (sp_wI g 64 16 ((f p) - (nI 48))) hd (by omega)) (by omega) rfl rfl (Nat.le_of_ble_eq_true rfl) ?_
  refine sr_istore_n (ls1 := [.ref 64, .int (nI t), .int (nI l), .int (nI 0)]) hA si_156_26 rfl (by rw [sq_l_156]; decide) rfl ?_
  refine sr_aload_n hA si_156_27 rfl ?_
  refine sr_dup hA si_156_28 rfl ?_
  refine sr_getIv (v := nI p) hA si_156_29 sf_156_111 (by decide) (by decide) rfl (by decide) hp15 ?_
  refine sr_iload_n hA si_156_32 rfl ?_
  refine sr_if_eqN (tgt := 40) hA si_156_33 (by decide) (by omega) (fun c1 => ?_) (fun c1 => absurd c1 (by omega))
  refine sr_iconst (v := nI 0) hA si_156_40 (by decide) ?_
  refine sr_iaddN hA si_156_41 ?_
  refine sr_putI hA si_156_42 sf_156_111 rfl rfl (by decide) (by decide) rfl rfl ?_
  refine sr_iload_n hA si_156_45 rfl ?_
  exact sr_zretR hA si_156_46 sq_r_156 (by decide) ⟨rfl, _, rfl⟩
set_option maxRecDepth 20000 in
theorem mc_figH (X : sp_X) (g : sp_G) {t z : Nat} {f : Nat → Int32} (hT : sp_TM t z f g) {p l : Nat} (hp15 : g.1 64 15 = nI p) {e : Nat} (hl : l ≤ 9) (hp : p < z) (he : 9 < e) (heb : e < 2 ^ 31) (hd : f p - nI 48 = nI e) : sp_Ct X 1 156 [.ref 64, .int (nI t), .int (nI l)] g (sp_Ri (fun x g' => x = nI 0 ∧ ∃ y, g' = sp_wI (sp_wI g 64 16 y) 64 15 (nI p))) := by
  obtain ⟨ht, hz, -, -⟩ := id hT
  refine sp_walkN (n := 4) sq_p_156 sq_l_156 (Nat.le_of_ble_eq_true rfl) (fun ac hA => ?_)
  show sp_Ev X ac 156 0 [.ref 64, .int (nI t), .int (nI l), .null] [] g
  refine sr_aload_n hA si_156_0 rfl ?_
  refine sr_aload_n hA si_156_1 rfl ?_
  refine sr_iload_n hA si_156_2 rfl ?_
  refine sr_aload_n hA si_156_3 rfl ?_
  refine sr_getIv (v := nI p) hA si_156_4 sf_156_111 (by decide) (by decide) rfl (by decide) hp15 ?_
  refine sr_VFi (c := 64) (ci := 8) (as := [.int (nI t), .int (nI p)]) (st := [.ref 64]) hA si_156_7 sv_154 sk_156_114 (hT.bt (p := p) (by omega)) (by omega) rfl (by decide) (by decide) rfl sq_c_154 rfl (Nat.le_of_ble_eq_true rfl) ?_
  refine sr_bipush (v := nI 48) hA si_156_10 (by decide) ?_
  refine sr_isub hA si_156_12 ?_
  rw [hd]
  refine sr_putI hA si_156_13 sf_156_117 rfl rfl (by decide) (by decide) rfl rfl ?_
  refine sr_aload_n hA si_156_16 rfl ?_
  refine sr_getIv (v := nI e) hA si_156_17 sf_156_117 (by decide) (by decide) rfl (by decide) rfl ?_
  refine sr_iload_n hA si_156_20 rfl ?_
  refine sr_bipush (v := nI 9) hA si_156_21 (by decide) ?_
  refine sr_SFi (as := [.int (nI e), .int (nI l), .int (nI 9)]) (st := []) hA si_156_23 ss_135 sk_156_83 (mc_inH X (sp_wI g 64 16 (nI e)) (by omega) (by omega)) (by omega) rfl rfl (Nat.le_of_ble_eq_true rfl) ?_
  refine sr_istore_n (ls1 := [.ref 64, .int (nI t), .int (nI l), .int (nI 0)]) hA si_156_26 rfl (by rw [sq_l_156]; decide) rfl ?_
  refine sr_aload_n hA si_156_27 rfl ?_
  refine sr_dup hA si_156_28 rfl ?_
  refine sr_getIv (v := nI p) hA si_156_29 sf_156_111 (by decide) (by decide) rfl (by decide) hp15 ?_
  refine sr_iload_n hA si_156_32 rfl ?_
  refine sr_if_eqN (tgt := 40) hA si_156_33 (by decide) (by omega) (fun c1 => ?_) (fun c1 => absurd c1 (by omega))
  refine sr_iconst (v := nI 0) hA si_156_40 (by decide) ?_
  refine sr_iaddN hA si_156_41 ?_
  refine sr_putI hA si_156_42 sf_156_111 rfl rfl (by decide) (by decide) rfl rfl ?_
  refine sr_iload_n hA si_156_45 rfl ?_
  exact sr_zretR hA si_156_46 sq_r_156 (by decide) ⟨rfl, _, rfl⟩
set_option maxRecDepth 20000 in
theorem mc_figZ (X : sp_X) (g : sp_G) {t z : Nat} {f : Nat → Int32} (hT : sp_TM t z f g) {p l : Nat} (hp15 : g.1 64 15 = nI p) {d : Nat} (hl : d < l) (hl9 : l ≤ 9) (hp : p < z) (hd : sp_dg1 (f p) d) : sp_Ct X 1 156 [.ref 64, .int (nI t), .int (nI l)] g (sp_Ri (fun x g' => x = nI 0 ∧ ∃ y, g' = sp_wI (sp_wI g 64 16 y) 64 15 (nI p))) := by
  obtain ⟨ht, hz, -, -⟩ := id hT
  have hd9 := hd.1
  refine sp_walkN (n := 4) sq_p_156 sq_l_156 (Nat.le_of_ble_eq_true rfl) (fun ac hA => ?_)
  show sp_Ev X ac 156 0 [.ref 64, .int (nI t), .int (nI l), .null] [] g
  refine sr_aload_n hA si_156_0 rfl ?_
  refine sr_aload_n hA si_156_1 rfl ?_
  refine sr_iload_n hA si_156_2 rfl ?_
  refine sr_aload_n hA si_156_3 rfl ?_
  refine sr_getIv (v := nI p) hA si_156_4 sf_156_111 (by decide) (by decide) rfl (by decide) hp15 ?_
  refine sr_VFi (c := 64) (ci := 8) (as := [.int (nI t), .int (nI p)]) (st := [.ref 64]) hA si_156_7 sv_154 sk_156_114 (by have h := hT.bt (X := X) (p := p) (by omega); rw [hd.2] at h; exact h) (by omega) rfl (by decide) (by decide) rfl sq_c_154 rfl (Nat.le_of_ble_eq_true rfl) ?_
  refine sr_bipush (v := nI 48) hA si_156_10 (by decide) ?_
  refine sr_isubN hA si_156_12 (by omega) ?_
  rw [show 48 + d - 48 = d by omega]
  refine sr_putI hA si_156_13 sf_156_117 rfl rfl (by decide) (by decide) rfl rfl ?_
  refine sr_aload_n hA si_156_16 rfl ?_
  refine sr_getIv (v := nI d) hA si_156_17 sf_156_117 (by decide) (by decide) rfl (by decide) rfl ?_
  refine sr_iload_n hA si_156_20 rfl ?_
  refine sr_bipush (v := nI 9) hA si_156_21 (by decide) ?_
  refine sr_SFi (as := [.int (nI d), .int (nI l), .int (nI 9)]) (st := []) hA si_156_23 ss_135 sk_156_83 (mc_inL X (sp_wI g 64 16 (nI d)) (by omega) (by omega)) (by omega) rfl rfl (Nat.le_of_ble_eq_true rfl) ?_
  refine sr_istore_n (ls1 := [.ref 64, .int (nI t), .int (nI l), .int (nI 0)]) hA si_156_26 rfl (by rw [sq_l_156]; decide) rfl ?_
  refine sr_aload_n hA si_156_27 rfl ?_
  refine sr_dup hA si_156_28 rfl ?_
  refine sr_getIv (v := nI p) hA si_156_29 sf_156_111 (by decide) (by decide) rfl (by decide) hp15 ?_
  refine sr_iload_n hA si_156_32 rfl ?_
  refine sr_if_eqN (tgt := 40) hA si_156_33 (by decide) (by omega) (fun c1 => ?_) (fun c1 => absurd c1 (by omega))
  refine sr_iconst (v := nI 0) hA si_156_40 (by decide) ?_
  refine sr_iaddN hA si_156_41 ?_
  refine sr_putI hA si_156_42 sf_156_111 rfl rfl (by decide) (by decide) rfl rfl ?_
  refine sr_iload_n hA si_156_45 rfl ?_
  exact sr_zretR hA si_156_46 sq_r_156 (by decide) ⟨rfl, _, rfl⟩
theorem mc_figB (X : sp_X) (g : sp_G) {t z p l : Nat} {f : Nat → Int32} (hT : sp_TM t z f g) (hp15 : g.1 64 15 = nI p) (hl : l ≤ 9) (hpb : p < 2 ^ 31) (h : sp_bf f z p l) : sp_Ct X 1 156 [.ref 64, .int (nI t), .int (nI l)] g (sp_Ri (fun x g' => x = nI 0 ∧ ∃ y, g' = sp_wI (sp_wI g 64 16 y) 64 15 (nI p))) := by
  rcases h with h | ⟨h1, (h2 | ⟨e, e1, e2, e3⟩) | ⟨d, d1, d2⟩⟩
  · exact mc_figE X g hT hp15 hl hpb h
  · exact mc_figM X g hT hp15 hl h1 h2
  · exact mc_figH X g hT hp15 hl h1 e1 e2 e3
  · exact mc_figZ X g hT hp15 d1 hl h1 d2
set_option maxRecDepth 20000 in
theorem mc_rsG (X : sp_X) (g : sp_G) {t z : Nat} {f : Nat → Int32} (hT : sp_TM t z f g) {p : Nat} (hp15 : g.1 64 15 = nI p) {s : Nat} (hp : p + 1 < z) (hpe : f p = nI 112) (hs1 : 1 ≤ s) (hs : sp_dg1 (f (p + 1)) s) : sp_Ct X 2 155 [.ref 64, .int (nI t)] g (sp_Fi (nI 1) (sp_wI (sp_wI (sp_wI (sp_wI g 64 15 (nI (p + 1))) 64 16 (nI s)) 64 15 (nI (p + 1 + 1))) 64 17 (nI s))) := by
  obtain ⟨ht, hz, -, -⟩ := id hT
  have hs9 := hs.1
  refine sp_walkN (n := 3) sq_p_155 sq_l_155 (Nat.le_of_ble_eq_true rfl) (fun ac hA => ?_)
  show sp_Ev X ac 155 0 [.ref 64, .int (nI t), .null] [] g
  refine sr_aload_n hA si_155_0 rfl ?_
  refine sr_iload_n hA si_155_1 rfl ?_
  refine sr_aload_n hA si_155_2 rfl ?_
  refine sr_getIv (v := nI p) hA si_155_3 sf_155_111 (by decide) (by decide) rfl (by decide) hp15 ?_
  refine sr_VFi (c := 64) (ci := 8) (as := [.int (nI t), .int (nI p)]) (st := []) hA si_155_6 sv_154 sk_155_114 (by have h := hT.bt (X := X) (p := p) (by omega); rw [hpe] at h; exact h) (by omega) rfl (by decide) (by decide) rfl sq_c_154 rfl (Nat.le_of_ble_eq_true rfl) ?_
  refine sr_bipush (v := nI 112) hA si_155_9 (by decide) ?_
  refine sr_icmp_eqN (tgt := 16) hA si_155_11 (by decide) (by omega) (by omega) (fun c1 => ?_) (fun c1 => absurd c1 (by omega))
  refine sr_aload_n hA si_155_16 rfl ?_
  refine sr_dup hA si_155_17 rfl ?_
  refine sr_getIv (v := nI p) hA si_155_18 sf_155_111 (by decide) (by decide) rfl (by decide) hp15 ?_
  refine sr_iconst (v := nI 1) hA si_155_21 (by decide) ?_
  refine sr_iaddN hA si_155_22 ?_
  refine sr_putI hA si_155_23 sf_155_111 rfl rfl (by decide) (by decide) rfl rfl ?_
  refine sr_aload_n hA si_155_26 rfl ?_
  refine sr_iload_n hA si_155_27 rfl ?_
  refine sr_iconst (v := nI 1) hA si_155_28 (by decide) ?_
  refine sr_VFi (c := 64) (ci := 8) (as := [.int (nI t), .int (nI 1)]) (st := []) hA si_155_29 sv_156 sk_155_120 (mc_figG X (sp_wI g 64 15 (nI (p + 1))) (hT.rb (sp_rb.rf.wI (by omega))) (p := (p + 1)) (l := 1) rfl (by omega) hs (by omega)) (by omega) rfl (by decide) (by decide) rfl sq_c_156 rfl (Nat.le_of_ble_eq_true rfl) ?_
  refine sr_istore_n (ls1 := [.ref 64, .int (nI t), .int (nI 1)]) hA si_155_32 rfl (by rw [sq_l_155]; decide) rfl ?_
  refine sr_aload_n hA si_155_33 rfl ?_
  refine sr_iload_n hA si_155_34 rfl ?_
  refine sr_if_eqN (tgt := 45) hA si_155_35 (by decide) (by omega) (fun c2 => absurd c2 (by omega)) (fun c2 => ?_)
  refine sr_aload_n hA si_155_38 rfl ?_
  refine sr_getIv (v := nI s) hA si_155_39 sf_155_117 (by decide) (by decide) rfl (by decide) rfl ?_
  refine sr_goto (tgt := 46) hA si_155_42 (by decide) ?_
  refine sr_putI hA si_155_46 sf_155_124 rfl rfl (by decide) (by decide) rfl rfl ?_
  refine sr_iload_n hA si_155_49 rfl ?_
  exact sr_zretF hA si_155_50 sq_r_155 (by decide) rfl rfl
set_option maxRecDepth 20000 in
theorem mc_rsN (X : sp_X) (g : sp_G) {t z : Nat} {f : Nat → Int32} (hT : sp_TM t z f g) {p : Nat} (hp15 : g.1 64 15 = nI p) (hp : p < z) (hpe : f p ≠ nI 112) : sp_Ct X 2 155 [.ref 64, .int (nI t)] g (sp_Fi (nI 0) g) := by
  obtain ⟨ht, hz, -, -⟩ := id hT
  refine sp_walkN (n := 3) sq_p_155 sq_l_155 (Nat.le_of_ble_eq_true rfl) (fun ac hA => ?_)
  show sp_Ev X ac 155 0 [.ref 64, .int (nI t), .null] [] g
  refine sr_aload_n hA si_155_0 rfl ?_
  refine sr_iload_n hA si_155_1 rfl ?_
  refine sr_aload_n hA si_155_2 rfl ?_
  refine sr_getIv (v := nI p) hA si_155_3 sf_155_111 (by decide) (by decide) rfl (by decide) hp15 ?_
  refine sr_VFi (c := 64) (ci := 8) (as := [.int (nI t), .int (nI p)]) (st := []) hA si_155_6 sv_154 sk_155_114 (hT.bt (p := p) (by omega)) (by omega) rfl (by decide) (by decide) rfl sq_c_154 rfl (Nat.le_of_ble_eq_true rfl) ?_
  refine sr_bipush (v := nI 112) hA si_155_9 (by decide) ?_
  refine sr_icmp_eq (tgt := 16) hA si_155_11 (by decide) (fun c1 => absurd c1 hpe) (fun c1 => ?_)
  refine sr_iconst (v := nI 0) hA si_155_14 (by decide) ?_
  exact sr_zretF hA si_155_15 sq_r_155 (by decide) rfl rfl
set_option maxRecDepth 20000 in
theorem mc_rsB (X : sp_X) (g : sp_G) {t z : Nat} {f : Nat → Int32} (hT : sp_TM t z f g) {p : Nat} (hp15 : g.1 64 15 = nI p) (hp : p < z) (hpe : f p = nI 112) (hbad : sp_bf f z (p + 1) 1) : sp_Ct X 2 155 [.ref 64, .int (nI t)] g (sp_Ri (fun x g' => x = nI 0 ∧ sp_rb g g' ∧ g'.1 64 15 = nI (p + 1))) := by
  obtain ⟨ht, hz, -, -⟩ := id hT
  refine sp_walkN (n := 3) sq_p_155 sq_l_155 (Nat.le_of_ble_eq_true rfl) (fun ac hA => ?_)
  show sp_Ev X ac 155 0 [.ref 64, .int (nI t), .null] [] g
  refine sr_aload_n hA si_155_0 rfl ?_
  refine sr_iload_n hA si_155_1 rfl ?_
  refine sr_aload_n hA si_155_2 rfl ?_
  refine sr_getIv (v := nI p) hA si_155_3 sf_155_111 (by decide) (by decide) rfl (by decide) hp15 ?_
  refine sr_VFi (c := 64) (ci := 8) (as := [.int (nI t), .int (nI p)]) (st := []) hA si_155_6 sv_154 sk_155_114 (by have h := hT.bt (X := X) (p := p) (by omega); rw [hpe] at h; exact h) (by omega) rfl (by decide) (by decide) rfl sq_c_154 rfl (Nat.le_of_ble_eq_true rfl) ?_
  refine sr_bipush (v := nI 112) hA si_155_9 (by decide) ?_
  refine sr_icmp_eqN (tgt := 16) hA si_155_11 (by decide) (by omega) (by omega) (fun c1 => ?_) (fun c1 => absurd c1 (by omega))
  refine sr_aload_n hA si_155_16 rfl ?_
  refine sr_dup hA si_155_17 rfl ?_
  refine sr_getIv (v := nI p) hA si_155_18 sf_155_111 (by decide) (by decide) rfl (by decide) hp15 ?_
  refine sr_iconst (v := nI 1) hA si_155_21 (by decide) ?_
  refine sr_iaddN hA si_155_22 ?_
  refine sr_putI hA si_155_23 sf_155_111 rfl rfl (by decide) (by decide) rfl rfl ?_
  refine sr_aload_n hA si_155_26 rfl ?_
  refine sr_iload_n hA si_155_27 rfl ?_
  refine sr_iconst (v := nI 1) hA si_155_28 (by decide) ?_
  refine sr_VRi (c := 64) (ci := 8) (as := [.int (nI t), .int (nI 1)]) (st := []) hA si_155_29 sv_156 sk_155_120 (mc_figB X (sp_wI g 64 15 (nI (p + 1))) (hT.rb (sp_rb.rf.wI (by omega))) (p := (p + 1)) (l := 1) rfl (by omega) (by omega) hbad) (by omega) rfl (by decide) (by decide) rfl sq_c_156 rfl (Nat.le_of_ble_eq_true rfl) (fun xv gx qx => ?_)
  obtain ⟨exv, yv, egx⟩ := qx
  subst exv
  subst egx
  refine sr_istore_n (ls1 := [.ref 64, .int (nI t), .int (nI 0)]) hA si_155_32 rfl (by rw [sq_l_155]; decide) rfl ?_
  refine sr_aload_n hA si_155_33 rfl ?_
  refine sr_iload_n hA si_155_34 rfl ?_
  refine sr_if_eqN (tgt := 45) hA si_155_35 (by decide) (by omega) (fun c2 => ?_) (fun c2 => absurd c2 (by omega))
  refine sr_iconst (v := nI 0) hA si_155_45 (by decide) ?_
  refine sr_putI hA si_155_46 sf_155_124 rfl rfl (by decide) (by decide) rfl rfl ?_
  refine sr_iload_n hA si_155_49 rfl ?_
  exact sr_zretR hA si_155_50 sq_r_155 (by decide) ⟨rfl, ((((sp_rb.rf.wI (by omega)).wI (by omega)).wI (by omega)).wI (by omega)), rfl⟩
set_option maxRecDepth 20000 in
theorem mc_kind0 (X : sp_X) (g : sp_G)  : sp_Ct X 0 158 [.int (nI 107)] g (sp_Fi (nI 0) g) := by
  refine sp_walkN (n := 1) sq_p_158 sq_l_158 (Nat.le_of_ble_eq_true rfl) (fun a hA => ?_)
  show sp_Ev X a 158 0 [.int (nI 107)] [] g
  refine sr_iload_n hA si_158_0 rfl ?_
  refine sr_tswI (c := nI 107) (tgt := 88) hA si_158_1 rfl (by decide) (by decide) rfl (by decide) ?_
  refine sr_iconst (v := nI 0) hA si_158_88 (by decide) ?_
  exact sr_iretF hA si_158_89 sq_r_158 rfl rfl
set_option maxRecDepth 20000 in
theorem mc_kind1 (X : sp_X) (g : sp_G)  : sp_Ct X 0 158 [.int (nI 98)] g (sp_Fi (nI 1) g) := by
  refine sp_walkN (n := 1) sq_p_158 sq_l_158 (Nat.le_of_ble_eq_true rfl) (fun a hA => ?_)
  show sp_Ev X a 158 0 [.int (nI 98)] [] g
  refine sr_iload_n hA si_158_0 rfl ?_
  refine sr_tswI (c := nI 98) (tgt := 90) hA si_158_1 rfl (by decide) (by decide) rfl (by decide) ?_
  refine sr_iconst (v := nI 1) hA si_158_90 (by decide) ?_
  exact sr_iretF hA si_158_91 sq_r_158 rfl rfl
set_option maxRecDepth 20000 in
theorem mc_kind2 (X : sp_X) (g : sp_G)  : sp_Ct X 0 158 [.int (nI 115)] g (sp_Fi (nI 2) g) := by
  refine sp_walkN (n := 1) sq_p_158 sq_l_158 (Nat.le_of_ble_eq_true rfl) (fun a hA => ?_)
  show sp_Ev X a 158 0 [.int (nI 115)] [] g
  refine sr_iload_n hA si_158_0 rfl ?_
  refine sr_tswI (c := nI 115) (tgt := 92) hA si_158_1 rfl (by decide) (by decide) rfl (by decide) ?_
  refine sr_iconst (v := nI 2) hA si_158_92 (by decide) ?_
  exact sr_iretF hA si_158_93 sq_r_158 rfl rfl
set_option maxRecDepth 20000 in
theorem mc_kind3 (X : sp_X) (g : sp_G)  : sp_Ct X 0 158 [.int (nI 99)] g (sp_Fi (nI 3) g) := by
  refine sp_walkN (n := 1) sq_p_158 sq_l_158 (Nat.le_of_ble_eq_true rfl) (fun a hA => ?_)
  show sp_Ev X a 158 0 [.int (nI 99)] [] g
  refine sr_iload_n hA si_158_0 rfl ?_
  refine sr_tswI (c := nI 99) (tgt := 94) hA si_158_1 rfl (by decide) (by decide) rfl (by decide) ?_
  refine sr_iconst (v := nI 3) hA si_158_94 (by decide) ?_
  exact sr_iretF hA si_158_95 sq_r_158 rfl rfl
set_option maxRecDepth 20000 in
theorem mc_kind4 (X : sp_X) (g : sp_G)  : sp_Ct X 0 158 [.int (nI 100)] g (sp_Fi (nI 4) g) := by
  refine sp_walkN (n := 1) sq_p_158 sq_l_158 (Nat.le_of_ble_eq_true rfl) (fun a hA => ?_)
  show sp_Ev X a 158 0 [.int (nI 100)] [] g
  refine sr_iload_n hA si_158_0 rfl ?_
  refine sr_tswI (c := nI 100) (tgt := 96) hA si_158_1 rfl (by decide) (by decide) rfl (by decide) ?_
  refine sr_iconst (v := nI 4) hA si_158_96 (by decide) ?_
  exact sr_iretF hA si_158_97 sq_r_158 rfl rfl
set_option maxRecDepth 20000 in
theorem mc_kind5 (X : sp_X) (g : sp_G)  : sp_Ct X 0 158 [.int (nI 114)] g (sp_Fi (nI 5) g) := by
  refine sp_walkN (n := 1) sq_p_158 sq_l_158 (Nat.le_of_ble_eq_true rfl) (fun a hA => ?_)
  show sp_Ev X a 158 0 [.int (nI 114)] [] g
  refine sr_iload_n hA si_158_0 rfl ?_
  refine sr_tswI (c := nI 114) (tgt := 98) hA si_158_1 rfl (by decide) (by decide) rfl (by decide) ?_
  refine sr_iconst (v := nI 5) hA si_158_98 (by decide) ?_
  exact sr_iretF hA si_158_99 sq_r_158 rfl rfl
set_option maxRecDepth 20000 in
theorem mc_kindN (X : sp_X) (g : sp_G) {x : Int32} (hx : sp_lt0' x) : sp_Ct X 0 158 [.int x] g (sp_Fi (-9) g) := by
  refine sp_walkN (n := 1) sq_p_158 sq_l_158 (Nat.le_of_ble_eq_true rfl) (fun a hA => ?_)
  show sp_Ev X a 158 0 [.int x] [] g
  refine sr_iload_n hA si_158_0 rfl ?_
  by_cases k1 : x = 98
  · refine sr_tswI (c := 98) (tgt := 90) hA si_158_1 k1 (by decide) (by decide) rfl (by decide) ?_
    refine sr_iconst (v := nI 1) hA si_158_90 (by decide) ?_
    exact sr_iretF hA si_158_91 sq_r_158 (absurd k1 (hx 1 (by decide))) rfl
  by_cases k2 : x = 99
  · refine sr_tswI (c := 99) (tgt := 94) hA si_158_1 k2 (by decide) (by decide) rfl (by decide) ?_
    refine sr_iconst (v := nI 3) hA si_158_94 (by decide) ?_
    exact sr_iretF hA si_158_95 sq_r_158 (absurd k2 (hx 3 (by decide))) rfl
  by_cases k3 : x = 100
  · refine sr_tswI (c := 100) (tgt := 96) hA si_158_1 k3 (by decide) (by decide) rfl (by decide) ?_
    refine sr_iconst (v := nI 4) hA si_158_96 (by decide) ?_
    exact sr_iretF hA si_158_97 sq_r_158 (absurd k3 (hx 4 (by decide))) rfl
  by_cases k4 : x = 101
  · refine sr_tswI (c := 101) (tgt := 100) hA si_158_1 k4 (by decide) (by decide) rfl (by decide) ?_
    refine sr_bipush (v := (-9)) hA si_158_100 (by decide) ?_
    exact sr_iretF hA si_158_102 sq_r_158 rfl rfl
  by_cases k5 : x = 102
  · refine sr_tswI (c := 102) (tgt := 100) hA si_158_1 k5 (by decide) (by decide) rfl (by decide) ?_
    refine sr_bipush (v := (-9)) hA si_158_100 (by decide) ?_
    exact sr_iretF hA si_158_102 sq_r_158 rfl rfl
  by_cases k6 : x = 103
  · refine sr_tswI (c := 103) (tgt := 100) hA si_158_1 k6 (by decide) (by decide) rfl (by decide) ?_
    refine sr_bipush (v := (-9)) hA si_158_100 (by decide) ?_
    exact sr_iretF hA si_158_102 sq_r_158 rfl rfl
  by_cases k7 : x = 104
  · refine sr_tswI (c := 104) (tgt := 100) hA si_158_1 k7 (by decide) (by decide) rfl (by decide) ?_
    refine sr_bipush (v := (-9)) hA si_158_100 (by decide) ?_
    exact sr_iretF hA si_158_102 sq_r_158 rfl rfl
  by_cases k8 : x = 105
  · refine sr_tswI (c := 105) (tgt := 100) hA si_158_1 k8 (by decide) (by decide) rfl (by decide) ?_
    refine sr_bipush (v := (-9)) hA si_158_100 (by decide) ?_
    exact sr_iretF hA si_158_102 sq_r_158 rfl rfl
  by_cases k9 : x = 106
  · refine sr_tswI (c := 106) (tgt := 100) hA si_158_1 k9 (by decide) (by decide) rfl (by decide) ?_
    refine sr_bipush (v := (-9)) hA si_158_100 (by decide) ?_
    exact sr_iretF hA si_158_102 sq_r_158 rfl rfl
  by_cases k10 : x = 107
  · refine sr_tswI (c := 107) (tgt := 88) hA si_158_1 k10 (by decide) (by decide) rfl (by decide) ?_
    refine sr_iconst (v := nI 0) hA si_158_88 (by decide) ?_
    exact sr_iretF hA si_158_89 sq_r_158 (absurd k10 (hx 0 (by decide))) rfl
  by_cases k11 : x = 108
  · refine sr_tswI (c := 108) (tgt := 100) hA si_158_1 k11 (by decide) (by decide) rfl (by decide) ?_
    refine sr_bipush (v := (-9)) hA si_158_100 (by decide) ?_
    exact sr_iretF hA si_158_102 sq_r_158 rfl rfl
  by_cases k12 : x = 109
  · refine sr_tswI (c := 109) (tgt := 100) hA si_158_1 k12 (by decide) (by decide) rfl (by decide) ?_
    refine sr_bipush (v := (-9)) hA si_158_100 (by decide) ?_
    exact sr_iretF hA si_158_102 sq_r_158 rfl rfl
  by_cases k13 : x = 110
  · refine sr_tswI (c := 110) (tgt := 100) hA si_158_1 k13 (by decide) (by decide) rfl (by decide) ?_
    refine sr_bipush (v := (-9)) hA si_158_100 (by decide) ?_
    exact sr_iretF hA si_158_102 sq_r_158 rfl rfl
  by_cases k14 : x = 111
  · refine sr_tswI (c := 111) (tgt := 100) hA si_158_1 k14 (by decide) (by decide) rfl (by decide) ?_
    refine sr_bipush (v := (-9)) hA si_158_100 (by decide) ?_
    exact sr_iretF hA si_158_102 sq_r_158 rfl rfl
  by_cases k15 : x = 112
  · refine sr_tswI (c := 112) (tgt := 100) hA si_158_1 k15 (by decide) (by decide) rfl (by decide) ?_
    refine sr_bipush (v := (-9)) hA si_158_100 (by decide) ?_
    exact sr_iretF hA si_158_102 sq_r_158 rfl rfl
  by_cases k16 : x = 113
  · refine sr_tswI (c := 113) (tgt := 100) hA si_158_1 k16 (by decide) (by decide) rfl (by decide) ?_
    refine sr_bipush (v := (-9)) hA si_158_100 (by decide) ?_
    exact sr_iretF hA si_158_102 sq_r_158 rfl rfl
  by_cases k17 : x = 114
  · refine sr_tswI (c := 114) (tgt := 98) hA si_158_1 k17 (by decide) (by decide) rfl (by decide) ?_
    refine sr_iconst (v := nI 5) hA si_158_98 (by decide) ?_
    exact sr_iretF hA si_158_99 sq_r_158 (absurd k17 (hx 5 (by decide))) rfl
  by_cases k18 : x = 115
  · refine sr_tswI (c := 115) (tgt := 92) hA si_158_1 k18 (by decide) (by decide) rfl (by decide) ?_
    refine sr_iconst (v := nI 2) hA si_158_92 (by decide) ?_
    exact sr_iretF hA si_158_93 sq_r_158 (absurd k18 (hx 2 (by decide))) rfl
  refine sr_tswO (tgt := 100) hA si_158_1 (by have := lv_neT k1 (a := 98) rfl; have := lv_neT k2 (a := 99) rfl; have := lv_neT k3 (a := 100) rfl; have := lv_neT k4 (a := 101) rfl; have := lv_neT k5 (a := 102) rfl; have := lv_neT k6 (a := 103) rfl; have := lv_neT k7 (a := 104) rfl; have := lv_neT k8 (a := 105) rfl; have := lv_neT k9 (a := 106) rfl; have := lv_neT k10 (a := 107) rfl; have := lv_neT k11 (a := 108) rfl; have := lv_neT k12 (a := 109) rfl; have := lv_neT k13 (a := 110) rfl; have := lv_neT k14 (a := 111) rfl; have := lv_neT k15 (a := 112) rfl; have := lv_neT k16 (a := 113) rfl; have := lv_neT k17 (a := 114) rfl; have := lv_neT k18 (a := 115) rfl; omega) (by decide) ?_
  refine sr_bipush (v := (-9)) hA si_158_100 (by decide) ?_
  exact sr_iretF hA si_158_102 sq_r_158 rfl rfl
theorem mc_kindK (X : sp_X) (g : sp_G) {k : Nat} (hk : k < 6) : sp_Ct X 0 158 [.int (nI (sp_LT k))] g (sp_Fi (nI k) g) := by
  have h : k = 0 ∨ k = 1 ∨ k = 2 ∨ k = 3 ∨ k = 4 ∨ k = 5 := by omega
  rcases h with rfl | rfl | rfl | rfl | rfl | rfl
  · exact mc_kind0 X g
  · exact mc_kind1 X g
  · exact mc_kind2 X g
  · exact mc_kind3 X g
  · exact mc_kind4 X g
  · exact mc_kind5 X g
def sp_ry (g g' : sp_G) (p i k s a b y : Nat) : Prop := sp_rb g g' ∧ g'.1 64 15 = nI (p + 5) ∧ g'.1 64 17 = g.1 64 17 ∧ g'.1 64 18 = nI (i + 1) ∧ (∀ j, ¬ (4 * i ≤ j ∧ j < 4 * i + 4) → g'.1 74 j = g.1 74 j) ∧ g'.1 74 (4 * i) = nI k ∧ g'.1 74 (4 * i + 1) = nI s ∧ g'.1 74 (4 * i + 2) = nI (10 * a + b) ∧ g'.1 74 (4 * i + 3) = nI y
set_option maxRecDepth 20000 in
theorem mc_rkyG (X : sp_X) (g : sp_G) {t z : Nat} {f : Nat → Int32} (hT : sp_TM t z f g) {p i : Nat} (hp15 : g.1 64 15 = nI p) (hi18 : g.1 64 18 = nI i) {k s a b y : Nat} (hi : i < 6) (hp : p + 5 ≤ z) (hk : k < 6) (ek : f p = nI (sp_LT k)) (hs : sp_dg1 (f (p + 1)) s) (ha : sp_dg1 (f (p + 1 + 1)) a) (hb : sp_dg1 (f (p + 1 + 1 + 1)) b) (hy : sp_dg1 (f (p + 1 + 1 + 1 + 1)) y) : sp_Ct X 3 157 [.ref 64, .int (nI t)] g (sp_Ri (fun x g' => x = nI 1 ∧ sp_ry g g' p i k s a b y)) := by
  obtain ⟨ht, hz, -, -⟩ := id hT
  have hs9 := hs.1
  have ha9 := ha.1
  have hb9 := hb.1
  have hy9 := hy.1
  refine sp_walkN (n := 5) sq_p_157 sq_l_157 (Nat.le_of_ble_eq_true rfl) (fun ac hA => ?_)
  show sp_Ev X ac 157 0 [.ref 64, .int (nI t), .null, .null, .null] [] g
  refine sr_aload_n hA si_157_0 rfl ?_
  refine sr_iload_n hA si_157_1 rfl ?_
  refine sr_aload_n hA si_157_2 rfl ?_
  refine sr_getIv (v := nI p) hA si_157_3 sf_157_111 (by decide) (by decide) rfl (by decide) hp15 ?_
  refine sr_VFi (c := 64) (ci := 8) (as := [.int (nI t), .int (nI p)]) (st := []) hA si_157_6 sv_154 sk_157_114 (by have h := hT.bt (X := X) (p := p) (by omega); rw [ek] at h; exact h) (by omega) rfl (by decide) (by decide) rfl sq_c_154 rfl (Nat.le_of_ble_eq_true rfl) ?_
  refine sr_SFi (as := [.int (nI (sp_LT k))]) (st := []) hA si_157_9 ss_158 sk_157_127 (mc_kindK X g hk) (by omega) rfl rfl (Nat.le_of_ble_eq_true rfl) ?_
  refine sr_istore_n (ls1 := [.ref 64, .int (nI t), .int (nI k), .null, .null]) hA si_157_12 rfl (by rw [sq_l_157]; decide) rfl ?_
  refine sr_iload_n hA si_157_13 rfl ?_
  refine sr_bipush (v := (-9)) hA si_157_14 (by decide) ?_
  refine sr_icmp_eq (tgt := 28) hA si_157_16 (by decide) (fun c1 => absurd c1 (sp_nm9 (by omega))) (fun c1 => ?_)
  refine sr_aload_n hA si_157_19 rfl ?_
  refine sr_getIv (v := nI i) hA si_157_20 sf_157_130 (by decide) (by decide) rfl (by decide) hi18 ?_
  refine sr_bipush (v := nI 6) hA si_157_23 (by decide) ?_
  refine sr_icmp_neN (tgt := 30) hA si_157_25 (by decide) (by omega) (by omega) (fun c2 => ?_) (fun c2 => absurd c2 (by omega))
  refine sr_aload_n hA si_157_30 rfl ?_
  refine sr_dup hA si_157_31 rfl ?_
  refine sr_getIv (v := nI p) hA si_157_32 sf_157_111 (by decide) (by decide) rfl (by decide) hp15 ?_
  refine sr_iconst (v := nI 1) hA si_157_35 (by decide) ?_
  refine sr_iaddN hA si_157_36 ?_
  refine sr_putI hA si_157_37 sf_157_111 rfl rfl (by decide) (by decide) rfl rfl ?_
  refine sr_iconst (v := nI 4) hA si_157_40 (by decide) ?_
  refine sr_aload_n hA si_157_41 rfl ?_
  refine sr_getIv (v := nI i) hA si_157_42 sf_157_130 (by decide) (by decide) rfl (by decide) hi18 ?_
  refine sr_imulN hA si_157_45 ?_
  refine sr_istore_n (ls1 := [.ref 64, .int (nI t), .int (nI k), .int (nI (4 * i)), .null]) hA si_157_46 rfl (by rw [sq_l_157]; decide) rfl ?_
  refine sr_aload_n hA si_157_47 rfl ?_
  refine sr_getR (r := 74) hA si_157_48 sf_157_42 (by decide) (by decide) rfl rfl rfl ?_
  refine sr_iload_n hA si_157_51 rfl ?_
  refine sr_iload_n hA si_157_52 rfl ?_
  refine sr_iastN (n := 24) hA si_157_53 (by decide) rfl rfl (by omega) (by decide) ?_
  refine sr_aload_n hA si_157_54 rfl ?_
  refine sr_getR (r := 74) hA si_157_55 sf_157_42 (by decide) (by decide) rfl rfl rfl ?_
  refine sr_iload_n hA si_157_58 rfl ?_
  refine sr_iconst (v := nI 2) hA si_157_59 (by decide) ?_
  refine sr_iaddN hA si_157_60 ?_
  refine sr_iconst (v := nI 0) hA si_157_61 (by decide) ?_
  refine sr_iastN (n := 24) hA si_157_62 (by decide) rfl rfl (by omega) (by decide) ?_
  refine sr_iconst (v := nI 0) hA si_157_63 (by decide) ?_
  refine sr_istore (ls1 := [.ref 64, .int (nI t), .int (nI k), .int (nI (4 * i)), .int (nI 0)]) hA si_157_64 (by rw [sq_l_157]; decide) rfl ?_
  refine sr_iload hA si_157_66 rfl ?_
  refine sr_iconst (v := nI 4) hA si_157_68 (by decide) ?_
  refine sr_icmp_geN (tgt := 154) hA si_157_69 (by decide) (by omega) (by omega) (fun c3 => absurd c3 (by omega)) (fun c3 => ?_)
  refine sr_aload_n hA si_157_72 rfl ?_
  refine sr_iload_n hA si_157_73 rfl ?_
  refine sr_iconst (v := nI 0) hA si_157_74 (by decide) ?_
  refine sr_VFi (c := 64) (ci := 8) (as := [.int (nI t), .int (nI 0)]) (st := []) hA si_157_75 sv_156 sk_157_120 (mc_figG X (sp_wI (sp_wI (sp_wI g 64 15 (nI (p + 1))) 74 (4 * i) (nI k)) 74 ((4 * i) + 2) (nI 0)) (hT.rb (((sp_rb.rf.wI (by omega)).wI (by omega)).wI (by omega))) (p := (p + 1)) (l := 0) rfl (by omega) hs (by omega)) (by omega) rfl (by decide) (by decide) rfl sq_c_156 rfl (Nat.le_of_ble_eq_true rfl) ?_
  refine sr_if_neN (tgt := 83) hA si_157_78 (by decide) (by omega) (fun c4 => ?_) (fun c4 => absurd c4 (by omega))
  refine sr_iload hA si_157_83 rfl ?_
  refine sr_if_neN (tgt := 103) hA si_157_85 (by decide) (by omega) (fun c5 => absurd c5 (by omega)) (fun c5 => ?_)
  refine sr_aload_n hA si_157_88 rfl ?_
  refine sr_getR (r := 74) hA si_157_89 sf_157_42 (by decide) (by decide) rfl rfl rfl ?_
  refine sr_iload_n hA si_157_92 rfl ?_
  refine sr_iconst (v := nI 1) hA si_157_93 (by decide) ?_
  refine sr_iaddN hA si_157_94 ?_
  refine sr_aload_n hA si_157_95 rfl ?_
  refine sr_getIv (v := nI s) hA si_157_96 sf_157_117 (by decide) (by decide) rfl (by decide) rfl ?_
  refine sr_iastN (n := 24) hA si_157_99 (by decide) rfl rfl (by omega) (by decide) ?_
  refine sr_goto (tgt := 148) hA si_157_100 (by decide) ?_
  refine sr_iincN (x := 0) (y := 1) (ls1 := [.ref 64, .int (nI t), .int (nI k), .int (nI (4 * i)), .int (nI 1)]) hA si_157_148 rfl rfl (by rw [sq_l_157]; decide) rfl ?_
  refine sr_goto (tgt := 66) hA si_157_151 (by decide) ?_
  refine sr_iload hA si_157_66 rfl ?_
  refine sr_iconst (v := nI 4) hA si_157_68 (by decide) ?_
  refine sr_icmp_geN (tgt := 154) hA si_157_69 (by decide) (by omega) (by omega) (fun c6 => absurd c6 (by omega)) (fun c6 => ?_)
  refine sr_aload_n hA si_157_72 rfl ?_
  refine sr_iload_n hA si_157_73 rfl ?_
  refine sr_iconst (v := nI 0) hA si_157_74 (by decide) ?_
  refine sr_VFi (c := 64) (ci := 8) (as := [.int (nI t), .int (nI 0)]) (st := []) hA si_157_75 sv_156 sk_157_120 (mc_figG X (sp_wI (sp_wI (sp_wI (sp_wI (sp_wI (sp_wI g 64 15 (nI (p + 1))) 74 (4 * i) (nI k)) 74 ((4 * i) + 2) (nI 0)) 64 16 (nI s)) 64 15 (nI (p + 1 + 1))) 74 ((4 * i) + 1) (nI s)) (hT.rb ((((((sp_rb.rf.wI (by omega)).wI (by omega)).wI (by omega)).wI (by omega)).wI (by omega)).wI (by omega))) (p := (p + 1 + 1)) (l := 0) rfl (by omega) ha (by omega)) (by omega) rfl (by decide) (by decide) rfl sq_c_156 rfl (Nat.le_of_ble_eq_true rfl) ?_
  refine sr_if_neN (tgt := 83) hA si_157_78 (by decide) (by omega) (fun c7 => ?_) (fun c7 => absurd c7 (by omega))
  refine sr_iload hA si_157_83 rfl ?_
  refine sr_if_neN (tgt := 103) hA si_157_85 (by decide) (by omega) (fun c8 => ?_) (fun c8 => absurd c8 (by omega))
  refine sr_iload hA si_157_103 rfl ?_
  refine sr_iconst (v := nI 3) hA si_157_105 (by decide) ?_
  refine sr_icmp_neN (tgt := 124) hA si_157_106 (by decide) (by omega) (by omega) (fun c9 => ?_) (fun c9 => absurd c9 (by omega))
  refine sr_aload_n hA si_157_124 rfl ?_
  refine sr_getR (r := 74) hA si_157_125 sf_157_42 (by decide) (by decide) rfl rfl rfl ?_
  refine sr_iload_n hA si_157_128 rfl ?_
  refine sr_iconst (v := nI 2) hA si_157_129 (by decide) ?_
  refine sr_iaddN hA si_157_130 ?_
  refine sr_bipush (v := nI 10) hA si_157_131 (by decide) ?_
  refine sr_aload_n hA si_157_133 rfl ?_
  refine sr_getR (r := 74) hA si_157_134 sf_157_42 (by decide) (by decide) rfl rfl rfl ?_
  refine sr_iload_n hA si_157_137 rfl ?_
  refine sr_iconst (v := nI 2) hA si_157_138 (by decide) ?_
  refine sr_iaddN hA si_157_139 ?_
  refine sr_ialdNv (v := nI 0) (n := 24) hA si_157_140 (by decide) rfl rfl (by omega) (by decide) (by simp [sp_wI, sp_wL, sp_wA, sp_up]) ?_
  refine sr_imulN hA si_157_141 ?_
  refine sr_aload_n hA si_157_142 rfl ?_
  refine sr_getIv (v := nI a) hA si_157_143 sf_157_117 (by decide) (by decide) rfl (by decide) rfl ?_
  refine sr_iaddN hA si_157_146 ?_
  refine sr_iastN (n := 24) hA si_157_147 (by decide) rfl rfl (by omega) (by decide) ?_
  refine sr_iincN (x := 1) (y := 1) (ls1 := [.ref 64, .int (nI t), .int (nI k), .int (nI (4 * i)), .int (nI 2)]) hA si_157_148 rfl rfl (by rw [sq_l_157]; decide) rfl ?_
  refine sr_goto (tgt := 66) hA si_157_151 (by decide) ?_
  refine sr_iload hA si_157_66 rfl ?_
  refine sr_iconst (v := nI 4) hA si_157_68 (by decide) ?_
  refine sr_icmp_geN (tgt := 154) hA si_157_69 (by decide) (by omega) (by omega) (fun c10 => absurd c10 (by omega)) (fun c10 => ?_)
  refine sr_aload_n hA si_157_72 rfl ?_
  refine sr_iload_n hA si_157_73 rfl ?_
  refine sr_iconst (v := nI 0) hA si_157_74 (by decide) ?_
  refine sr_VFi (c := 64) (ci := 8) (as := [.int (nI t), .int (nI 0)]) (st := []) hA si_157_75 sv_156 sk_157_120 (mc_figG X (sp_wI (sp_wI (sp_wI (sp_wI (sp_wI (sp_wI (sp_wI (sp_wI (sp_wI g 64 15 (nI (p + 1))) 74 (4 * i) (nI k)) 74 ((4 * i) + 2) (nI 0)) 64 16 (nI s)) 64 15 (nI (p + 1 + 1))) 74 ((4 * i) + 1) (nI s)) 64 16 (nI a)) 64 15 (nI (p + 1 + 1 + 1))) 74 ((4 * i) + 2) (nI ((10 * 0) + a))) (hT.rb (((((((((sp_rb.rf.wI (by omega)).wI (by omega)).wI (by omega)).wI (by omega)).wI (by omega)).wI (by omega)).wI (by omega)).wI (by omega)).wI (by omega))) (p := (p + 1 + 1 + 1)) (l := 0) rfl (by omega) hb (by omega)) (by omega) rfl (by decide) (by decide) rfl sq_c_156 rfl (Nat.le_of_ble_eq_true rfl) ?_
  refine sr_if_neN (tgt := 83) hA si_157_78 (by decide) (by omega) (fun c11 => ?_) (fun c11 => absurd c11 (by omega))
  refine sr_iload hA si_157_83 rfl ?_
  refine sr_if_neN (tgt := 103) hA si_157_85 (by decide) (by omega) (fun c12 => ?_) (fun c12 => absurd c12 (by omega))
  refine sr_iload hA si_157_103 rfl ?_
  refine sr_iconst (v := nI 3) hA si_157_105 (by decide) ?_
  refine sr_icmp_neN (tgt := 124) hA si_157_106 (by decide) (by omega) (by omega) (fun c13 => ?_) (fun c13 => absurd c13 (by omega))
  refine sr_aload_n hA si_157_124 rfl ?_
  refine sr_getR (r := 74) hA si_157_125 sf_157_42 (by decide) (by decide) rfl rfl rfl ?_
  refine sr_iload_n hA si_157_128 rfl ?_
  refine sr_iconst (v := nI 2) hA si_157_129 (by decide) ?_
  refine sr_iaddN hA si_157_130 ?_
  refine sr_bipush (v := nI 10) hA si_157_131 (by decide) ?_
  refine sr_aload_n hA si_157_133 rfl ?_
  refine sr_getR (r := 74) hA si_157_134 sf_157_42 (by decide) (by decide) rfl rfl rfl ?_
  refine sr_iload_n hA si_157_137 rfl ?_
  refine sr_iconst (v := nI 2) hA si_157_138 (by decide) ?_
  refine sr_iaddN hA si_157_139 ?_
  refine sr_ialdNv (v := nI ((10 * 0) + a)) (n := 24) hA si_157_140 (by decide) rfl rfl (by omega) (by decide) (by simp [sp_wI, sp_wL, sp_wA, sp_up]) ?_
  refine sr_imulN hA si_157_141 ?_
  refine sr_aload_n hA si_157_142 rfl ?_
  refine sr_getIv (v := nI b) hA si_157_143 sf_157_117 (by decide) (by decide) rfl (by decide) rfl ?_
  refine sr_iaddN hA si_157_146 ?_
  refine sr_iastN (n := 24) hA si_157_147 (by decide) rfl rfl (by omega) (by decide) ?_
  refine sr_iincN (x := 2) (y := 1) (ls1 := [.ref 64, .int (nI t), .int (nI k), .int (nI (4 * i)), .int (nI 3)]) hA si_157_148 rfl rfl (by rw [sq_l_157]; decide) rfl ?_
  refine sr_goto (tgt := 66) hA si_157_151 (by decide) ?_
  refine sr_iload hA si_157_66 rfl ?_
  refine sr_iconst (v := nI 4) hA si_157_68 (by decide) ?_
  refine sr_icmp_geN (tgt := 154) hA si_157_69 (by decide) (by omega) (by omega) (fun c14 => absurd c14 (by omega)) (fun c14 => ?_)
  refine sr_aload_n hA si_157_72 rfl ?_
  refine sr_iload_n hA si_157_73 rfl ?_
  refine sr_iconst (v := nI 0) hA si_157_74 (by decide) ?_
  refine sr_VFi (c := 64) (ci := 8) (as := [.int (nI t), .int (nI 0)]) (st := []) hA si_157_75 sv_156 sk_157_120 (mc_figG X (sp_wI (sp_wI (sp_wI (sp_wI (sp_wI (sp_wI (sp_wI (sp_wI (sp_wI (sp_wI (sp_wI (sp_wI g 64 15 (nI (p + 1))) 74 (4 * i) (nI k)) 74 ((4 * i) + 2) (nI 0)) 64 16 (nI s)) 64 15 (nI (p + 1 + 1))) 74 ((4 * i) + 1) (nI s)) 64 16 (nI a)) 64 15 (nI (p + 1 + 1 + 1))) 74 ((4 * i) + 2) (nI ((10 * 0) + a))) 64 16 (nI b)) 64 15 (nI (p + 1 + 1 + 1 + 1))) 74 ((4 * i) + 2) (nI ((10 * ((10 * 0) + a)) + b))) (hT.rb ((((((((((((sp_rb.rf.wI (by omega)).wI (by omega)).wI (by omega)).wI (by omega)).wI (by omega)).wI (by omega)).wI (by omega)).wI (by omega)).wI (by omega)).wI (by omega)).wI (by omega)).wI (by omega))) (p := (p + 1 + 1 + 1 + 1)) (l := 0) rfl (by omega) hy (by omega)) (by omega) rfl (by decide) (by decide) rfl sq_c_156 rfl (Nat.le_of_ble_eq_true rfl) ?_
  refine sr_if_neN (tgt := 83) hA si_157_78 (by decide) (by omega) (fun c15 => ?_) (fun c15 => absurd c15 (by omega))
  refine sr_iload hA si_157_83 rfl ?_
  refine sr_if_neN (tgt := 103) hA si_157_85 (by decide) (by omega) (fun c16 => ?_) (fun c16 => absurd c16 (by omega))
  refine sr_iload hA si_157_103 rfl ?_
  refine sr_iconst (v := nI 3) hA si_157_105 (by decide) ?_
  refine sr_icmp_neN (tgt := 124) hA si_157_106 (by decide) (by omega) (by omega) (fun c17 => absurd c17 (by omega)) (fun c17 => ?_)
  refine sr_aload_n hA si_157_109 rfl ?_
  refine sr_getR (r := 74) hA si_157_110 sf_157_42 (by decide) (by decide) rfl rfl rfl ?_
  refine sr_iload_n hA si_157_113 rfl ?_
  refine sr_iconst (v := nI 3) hA si_157_114 (by decide) ?_
  refine sr_iaddN hA si_157_115 ?_
  refine sr_aload_n hA si_157_116 rfl ?_
  refine sr_getIv (v := nI y) hA si_157_117 sf_157_117 (by decide) (by decide) rfl (by decide) rfl ?_
  refine sr_iastN (n := 24) hA si_157_120 (by decide) rfl rfl (by omega) (by decide) ?_
  refine sr_goto (tgt := 148) hA si_157_121 (by decide) ?_
  refine sr_iincN (x := 3) (y := 1) (ls1 := [.ref 64, .int (nI t), .int (nI k), .int (nI (4 * i)), .int (nI 4)]) hA si_157_148 rfl rfl (by rw [sq_l_157]; decide) rfl ?_
  refine sr_goto (tgt := 66) hA si_157_151 (by decide) ?_
  refine sr_iload hA si_157_66 rfl ?_
  refine sr_iconst (v := nI 4) hA si_157_68 (by decide) ?_
  refine sr_icmp_geN (tgt := 154) hA si_157_69 (by decide) (by omega) (by omega) (fun c18 => ?_) (fun c18 => absurd c18 (by omega))
  refine sr_aload_n hA si_157_154 rfl ?_
  refine sr_dup hA si_157_155 rfl ?_
  refine sr_getIv (v := nI i) hA si_157_156 sf_157_130 (by decide) (by decide) rfl (by decide) hi18 ?_
  refine sr_iconst (v := nI 1) hA si_157_159 (by decide) ?_
  refine sr_iaddN hA si_157_160 ?_
  refine sr_putI hA si_157_161 sf_157_130 rfl rfl (by decide) (by decide) rfl rfl ?_
  refine sr_iconst (v := nI 1) hA si_157_164 (by decide) ?_
  exact sr_zretR hA si_157_165 sq_r_157 (by decide) ⟨rfl, ((((((((((((((((sp_rb.rf.wI (by omega)).wI (by omega)).wI (by omega)).wI (by omega)).wI (by omega)).wI (by omega)).wI (by omega)).wI (by omega)).wI (by omega)).wI (by omega)).wI (by omega)).wI (by omega)).wI (by omega)).wI (by omega)).wI (by omega)).wI (by omega)), by simp [sp_rd], by simp [sp_rd], by simp [sp_rd], fun j hj => by repeat rw [sp_rd, if_neg (by omega)], by simp [sp_rd], by simp [sp_rd], by simp [sp_rd], by simp [sp_rd]⟩
set_option maxRecDepth 20000 in
theorem mc_rkyN (X : sp_X) (g : sp_G) {t z : Nat} {f : Nat → Int32} (hT : sp_TM t z f g) {p i : Nat} (hp15 : g.1 64 15 = nI p) (hi18 : g.1 64 18 = nI i) (hi : i ≤ 6) (hp : p < z) (hlt : sp_lt0' (f p)) : sp_Ct X 3 157 [.ref 64, .int (nI t)] g (sp_Ri (fun x g' => x = nI 0 ∧ sp_rb g g' ∧ g'.1 64 15 = nI (p))) := by
  obtain ⟨ht, hz, -, -⟩ := id hT
  refine sp_walkN (n := 5) sq_p_157 sq_l_157 (Nat.le_of_ble_eq_true rfl) (fun ac hA => ?_)
  show sp_Ev X ac 157 0 [.ref 64, .int (nI t), .null, .null, .null] [] g
  refine sr_aload_n hA si_157_0 rfl ?_
  refine sr_iload_n hA si_157_1 rfl ?_
  refine sr_aload_n hA si_157_2 rfl ?_
  refine sr_getIv (v := nI p) hA si_157_3 sf_157_111 (by decide) (by decide) rfl (by decide) hp15 ?_
  refine sr_VFi (c := 64) (ci := 8) (as := [.int (nI t), .int (nI p)]) (st := []) hA si_157_6 sv_154 sk_157_114 (hT.bt (p := p) (by omega)) (by omega) rfl (by decide) (by decide) rfl sq_c_154 rfl (Nat.le_of_ble_eq_true rfl) ?_
  refine sr_SFi (as := [.int (f p)]) (st := []) hA si_157_9 ss_158 sk_157_127 (mc_kindN X g hlt) (by omega) rfl rfl (Nat.le_of_ble_eq_true rfl) ?_
  refine sr_istore_n (ls1 := [.ref 64, .int (nI t), .int (-9), .null, .null]) hA si_157_12 rfl (by rw [sq_l_157]; decide) rfl ?_
  refine sr_iload_n hA si_157_13 rfl ?_
  refine sr_bipush (v := (-9)) hA si_157_14 (by decide) ?_
  refine sr_icmp_eq (tgt := 28) hA si_157_16 (by decide) (fun c1 => ?_) (fun c1 => absurd rfl c1)
  refine sr_iconst (v := nI 0) hA si_157_28 (by decide) ?_
  exact sr_zretR hA si_157_29 sq_r_157 (by decide) ⟨rfl, sp_rb.rf, hp15⟩
set_option maxRecDepth 20000 in
theorem mc_rky6 (X : sp_X) (g : sp_G) {t z : Nat} {f : Nat → Int32} (hT : sp_TM t z f g) {p i : Nat} (hp15 : g.1 64 15 = nI p) (hi18 : g.1 64 18 = nI i) {k : Nat} (hi : i = 6) (hp : p < z) (hk : k < 6) (ek : f p = nI (sp_LT k)) : sp_Ct X 3 157 [.ref 64, .int (nI t)] g (sp_Ri (fun x g' => x = nI 0 ∧ sp_rb g g' ∧ g'.1 64 15 = nI (p))) := by
  obtain ⟨ht, hz, -, -⟩ := id hT
  refine sp_walkN (n := 5) sq_p_157 sq_l_157 (Nat.le_of_ble_eq_true rfl) (fun ac hA => ?_)
  show sp_Ev X ac 157 0 [.ref 64, .int (nI t), .null, .null, .null] [] g
  refine sr_aload_n hA si_157_0 rfl ?_
  refine sr_iload_n hA si_157_1 rfl ?_
  refine sr_aload_n hA si_157_2 rfl ?_
  refine sr_getIv (v := nI p) hA si_157_3 sf_157_111 (by decide) (by decide) rfl (by decide) hp15 ?_
  refine sr_VFi (c := 64) (ci := 8) (as := [.int (nI t), .int (nI p)]) (st := []) hA si_157_6 sv_154 sk_157_114 (by have h := hT.bt (X := X) (p := p) (by omega); rw [ek] at h; exact h) (by omega) rfl (by decide) (by decide) rfl sq_c_154 rfl (Nat.le_of_ble_eq_true rfl) ?_
  refine sr_SFi (as := [.int (nI (sp_LT k))]) (st := []) hA si_157_9 ss_158 sk_157_127 (mc_kindK X g hk) (by omega) rfl rfl (Nat.le_of_ble_eq_true rfl) ?_
  refine sr_istore_n (ls1 := [.ref 64, .int (nI t), .int (nI k), .null, .null]) hA si_157_12 rfl (by rw [sq_l_157]; decide) rfl ?_
  refine sr_iload_n hA si_157_13 rfl ?_
  refine sr_bipush (v := (-9)) hA si_157_14 (by decide) ?_
  refine sr_icmp_eq (tgt := 28) hA si_157_16 (by decide) (fun c1 => absurd c1 (sp_nm9 (by omega))) (fun c1 => ?_)
  refine sr_aload_n hA si_157_19 rfl ?_
  refine sr_getIv (v := nI i) hA si_157_20 sf_157_130 (by decide) (by decide) rfl (by decide) hi18 ?_
  refine sr_bipush (v := nI 6) hA si_157_23 (by decide) ?_
  refine sr_icmp_neN (tgt := 30) hA si_157_25 (by decide) (by omega) (by omega) (fun c2 => absurd c2 (by omega)) (fun c2 => ?_)
  refine sr_iconst (v := nI 0) hA si_157_28 (by decide) ?_
  exact sr_zretR hA si_157_29 sq_r_157 (by decide) ⟨rfl, sp_rb.rf, hp15⟩
set_option maxRecDepth 20000 in
theorem mc_rky1B (X : sp_X) (g : sp_G) {t z : Nat} {f : Nat → Int32} (hT : sp_TM t z f g) {p i : Nat} (hp15 : g.1 64 15 = nI p) (hi18 : g.1 64 18 = nI i) {k : Nat} (hi : i < 6) (hp : p + 0 < z) (hk : k < 6) (ek : f p = nI (sp_LT k))  (hbad : sp_bf f z (p + 1) 0) : sp_Ct X 3 157 [.ref 64, .int (nI t)] g (sp_Ri (fun x g' => x = nI 0 ∧ sp_rb g g' ∧ g'.1 64 15 = nI (p + 1))) := by
  obtain ⟨ht, hz, -, -⟩ := id hT
  refine sp_walkN (n := 5) sq_p_157 sq_l_157 (Nat.le_of_ble_eq_true rfl) (fun ac hA => ?_)
  show sp_Ev X ac 157 0 [.ref 64, .int (nI t), .null, .null, .null] [] g
  refine sr_aload_n hA si_157_0 rfl ?_
  refine sr_iload_n hA si_157_1 rfl ?_
  refine sr_aload_n hA si_157_2 rfl ?_
  refine sr_getIv (v := nI p) hA si_157_3 sf_157_111 (by decide) (by decide) rfl (by decide) hp15 ?_
  refine sr_VFi (c := 64) (ci := 8) (as := [.int (nI t), .int (nI p)]) (st := []) hA si_157_6 sv_154 sk_157_114 (by have h := hT.bt (X := X) (p := p) (by omega); rw [ek] at h; exact h) (by omega) rfl (by decide) (by decide) rfl sq_c_154 rfl (Nat.le_of_ble_eq_true rfl) ?_
  refine sr_SFi (as := [.int (nI (sp_LT k))]) (st := []) hA si_157_9 ss_158 sk_157_127 (mc_kindK X g hk) (by omega) rfl rfl (Nat.le_of_ble_eq_true rfl) ?_
  refine sr_istore_n (ls1 := [.ref 64, .int (nI t), .int (nI k), .null, .null]) hA si_157_12 rfl (by rw [sq_l_157]; decide) rfl ?_
  refine sr_iload_n hA si_157_13 rfl ?_
  refine sr_bipush (v := (-9)) hA si_157_14 (by decide) ?_
  refine sr_icmp_eq (tgt := 28) hA si_157_16 (by decide) (fun c1 => absurd c1 (sp_nm9 (by omega))) (fun c1 => ?_)
  refine sr_aload_n hA si_157_19 rfl ?_
  refine sr_getIv (v := nI i) hA si_157_20 sf_157_130 (by decide) (by decide) rfl (by decide) hi18 ?_
  refine sr_bipush (v := nI 6) hA si_157_23 (by decide) ?_
  refine sr_icmp_neN (tgt := 30) hA si_157_25 (by decide) (by omega) (by omega) (fun c2 => ?_) (fun c2 => absurd c2 (by omega))
  refine sr_aload_n hA si_157_30 rfl ?_
  refine sr_dup hA si_157_31 rfl ?_
  refine sr_getIv (v := nI p) hA si_157_32 sf_157_111 (by decide) (by decide) rfl (by decide) hp15 ?_
  refine sr_iconst (v := nI 1) hA si_157_35 (by decide) ?_
  refine sr_iaddN hA si_157_36 ?_
  refine sr_putI hA si_157_37 sf_157_111 rfl rfl (by decide) (by decide) rfl rfl ?_
  refine sr_iconst (v := nI 4) hA si_157_40 (by decide) ?_
  refine sr_aload_n hA si_157_41 rfl ?_
  refine sr_getIv (v := nI i) hA si_157_42 sf_157_130 (by decide) (by decide) rfl (by decide) hi18 ?_
  refine sr_imulN hA si_157_45 ?_
  refine sr_istore_n (ls1 := [.ref 64, .int (nI t), .int (nI k), .int (nI (4 * i)), .null]) hA si_157_46 rfl (by rw [sq_l_157]; decide) rfl ?_
  refine sr_aload_n hA si_157_47 rfl ?_
  refine sr_getR (r := 74) hA si_157_48 sf_157_42 (by decide) (by decide) rfl rfl rfl ?_
  refine sr_iload_n hA si_157_51 rfl ?_
  refine sr_iload_n hA si_157_52 rfl ?_
  refine sr_iastN (n := 24) hA si_157_53 (by decide) rfl rfl (by omega) (by decide) ?_
  refine sr_aload_n hA si_157_54 rfl ?_
  refine sr_getR (r := 74) hA si_157_55 sf_157_42 (by decide) (by decide) rfl rfl rfl ?_
  refine sr_iload_n hA si_157_58 rfl ?_
  refine sr_iconst (v := nI 2) hA si_157_59 (by decide) ?_
  refine sr_iaddN hA si_157_60 ?_
  refine sr_iconst (v := nI 0) hA si_157_61 (by decide) ?_
  refine sr_iastN (n := 24) hA si_157_62 (by decide) rfl rfl (by omega) (by decide) ?_
  refine sr_iconst (v := nI 0) hA si_157_63 (by decide) ?_
  refine sr_istore (ls1 := [.ref 64, .int (nI t), .int (nI k), .int (nI (4 * i)), .int (nI 0)]) hA si_157_64 (by rw [sq_l_157]; decide) rfl ?_
  refine sr_iload hA si_157_66 rfl ?_
  refine sr_iconst (v := nI 4) hA si_157_68 (by decide) ?_
  refine sr_icmp_geN (tgt := 154) hA si_157_69 (by decide) (by omega) (by omega) (fun c3 => absurd c3 (by omega)) (fun c3 => ?_)
  refine sr_aload_n hA si_157_72 rfl ?_
  refine sr_iload_n hA si_157_73 rfl ?_
  refine sr_iconst (v := nI 0) hA si_157_74 (by decide) ?_
  refine sr_VRi (c := 64) (ci := 8) (as := [.int (nI t), .int (nI 0)]) (st := []) hA si_157_75 sv_156 sk_157_120 (mc_figB X (sp_wI (sp_wI (sp_wI g 64 15 (nI (p + 1))) 74 (4 * i) (nI k)) 74 ((4 * i) + 2) (nI 0)) (hT.rb (((sp_rb.rf.wI (by omega)).wI (by omega)).wI (by omega))) (p := (p + 1)) (l := 0) rfl (by omega) (by omega) hbad) (by omega) rfl (by decide) (by decide) rfl sq_c_156 rfl (Nat.le_of_ble_eq_true rfl) (fun xv gx qx => ?_)
  obtain ⟨exv, yv, egx⟩ := qx
  subst exv
  subst egx
  refine sr_if_neN (tgt := 83) hA si_157_78 (by decide) (by omega) (fun c4 => absurd c4 (by omega)) (fun c4 => ?_)
  refine sr_iconst (v := nI 0) hA si_157_81 (by decide) ?_
  exact sr_zretR hA si_157_82 sq_r_157 (by decide) ⟨rfl, (((((sp_rb.rf.wI (by omega)).wI (by omega)).wI (by omega)).wI (by omega)).wI (by omega)), rfl⟩
set_option maxRecDepth 20000 in
theorem mc_rky2B (X : sp_X) (g : sp_G) {t z : Nat} {f : Nat → Int32} (hT : sp_TM t z f g) {p i : Nat} (hp15 : g.1 64 15 = nI p) (hi18 : g.1 64 18 = nI i) {k : Nat} (hi : i < 6) (hp : p + 1 < z) (hk : k < 6) (ek : f p = nI (sp_LT k)) {s : Nat} (hs : sp_dg1 (f (p + 1)) s) (hbad : sp_bf f z (p + 1 + 1) 0) : sp_Ct X 3 157 [.ref 64, .int (nI t)] g (sp_Ri (fun x g' => x = nI 0 ∧ sp_rb g g' ∧ g'.1 64 15 = nI (p + 1 + 1))) := by
  obtain ⟨ht, hz, -, -⟩ := id hT
  have hs9 := hs.1
  refine sp_walkN (n := 5) sq_p_157 sq_l_157 (Nat.le_of_ble_eq_true rfl) (fun ac hA => ?_)
  show sp_Ev X ac 157 0 [.ref 64, .int (nI t), .null, .null, .null] [] g
  refine sr_aload_n hA si_157_0 rfl ?_
  refine sr_iload_n hA si_157_1 rfl ?_
  refine sr_aload_n hA si_157_2 rfl ?_
  refine sr_getIv (v := nI p) hA si_157_3 sf_157_111 (by decide) (by decide) rfl (by decide) hp15 ?_
  refine sr_VFi (c := 64) (ci := 8) (as := [.int (nI t), .int (nI p)]) (st := []) hA si_157_6 sv_154 sk_157_114 (by have h := hT.bt (X := X) (p := p) (by omega); rw [ek] at h; exact h) (by omega) rfl (by decide) (by decide) rfl sq_c_154 rfl (Nat.le_of_ble_eq_true rfl) ?_
  refine sr_SFi (as := [.int (nI (sp_LT k))]) (st := []) hA si_157_9 ss_158 sk_157_127 (mc_kindK X g hk) (by omega) rfl rfl (Nat.le_of_ble_eq_true rfl) ?_
  refine sr_istore_n (ls1 := [.ref 64, .int (nI t), .int (nI k), .null, .null]) hA si_157_12 rfl (by rw [sq_l_157]; decide) rfl ?_
  refine sr_iload_n hA si_157_13 rfl ?_
  refine sr_bipush (v := (-9)) hA si_157_14 (by decide) ?_
  refine sr_icmp_eq (tgt := 28) hA si_157_16 (by decide) (fun c1 => absurd c1 (sp_nm9 (by omega))) (fun c1 => ?_)
  refine sr_aload_n hA si_157_19 rfl ?_
  refine sr_getIv (v := nI i) hA si_157_20 sf_157_130 (by decide) (by decide) rfl (by decide) hi18 ?_
  refine sr_bipush (v := nI 6) hA si_157_23 (by decide) ?_
  refine sr_icmp_neN (tgt := 30) hA si_157_25 (by decide) (by omega) (by omega) (fun c2 => ?_) (fun c2 => absurd c2 (by omega))
  refine sr_aload_n hA si_157_30 rfl ?_
  refine sr_dup hA si_157_31 rfl ?_
  refine sr_getIv (v := nI p) hA si_157_32 sf_157_111 (by decide) (by decide) rfl (by decide) hp15 ?_
  refine sr_iconst (v := nI 1) hA si_157_35 (by decide) ?_
  refine sr_iaddN hA si_157_36 ?_
  refine sr_putI hA si_157_37 sf_157_111 rfl rfl (by decide) (by decide) rfl rfl ?_
  refine sr_iconst (v := nI 4) hA si_157_40 (by decide) ?_
  refine sr_aload_n hA si_157_41 rfl ?_
  refine sr_getIv (v := nI i) hA si_157_42 sf_157_130 (by decide) (by decide) rfl (by decide) hi18 ?_
  refine sr_imulN hA si_157_45 ?_
  refine sr_istore_n (ls1 := [.ref 64, .int (nI t), .int (nI k), .int (nI (4 * i)), .null]) hA si_157_46 rfl (by rw [sq_l_157]; decide) rfl ?_
  refine sr_aload_n hA si_157_47 rfl ?_
  refine sr_getR (r := 74) hA si_157_48 sf_157_42 (by decide) (by decide) rfl rfl rfl ?_
  refine sr_iload_n hA si_157_51 rfl ?_
  refine sr_iload_n hA si_157_52 rfl ?_
  refine sr_iastN (n := 24) hA si_157_53 (by decide) rfl rfl (by omega) (by decide) ?_
  refine sr_aload_n hA si_157_54 rfl ?_
  refine sr_getR (r := 74) hA si_157_55 sf_157_42 (by decide) (by decide) rfl rfl rfl ?_
  refine sr_iload_n hA si_157_58 rfl ?_
  refine sr_iconst (v := nI 2) hA si_157_59 (by decide) ?_
  refine sr_iaddN hA si_157_60 ?_
  refine sr_iconst (v := nI 0) hA si_157_61 (by decide) ?_
  refine sr_iastN (n := 24) hA si_157_62 (by decide) rfl rfl (by omega) (by decide) ?_
  refine sr_iconst (v := nI 0) hA si_157_63 (by decide) ?_
  refine sr_istore (ls1 := [.ref 64, .int (nI t), .int (nI k), .int (nI (4 * i)), .int (nI 0)]) hA si_157_64 (by rw [sq_l_157]; decide) rfl ?_
  refine sr_iload hA si_157_66 rfl ?_
  refine sr_iconst (v := nI 4) hA si_157_68 (by decide) ?_
  refine sr_icmp_geN (tgt := 154) hA si_157_69 (by decide) (by omega) (by omega) (fun c3 => absurd c3 (by omega)) (fun c3 => ?_)
  refine sr_aload_n hA si_157_72 rfl ?_
  refine sr_iload_n hA si_157_73 rfl ?_
  refine sr_iconst (v := nI 0) hA si_157_74 (by decide) ?_
  refine sr_VFi (c := 64) (ci := 8) (as := [.int (nI t), .int (nI 0)]) (st := []) hA si_157_75 sv_156 sk_157_120 (mc_figG X (sp_wI (sp_wI (sp_wI g 64 15 (nI (p + 1))) 74 (4 * i) (nI k)) 74 ((4 * i) + 2) (nI 0)) (hT.rb (((sp_rb.rf.wI (by omega)).wI (by omega)).wI (by omega))) (p := (p + 1)) (l := 0) rfl (by omega) hs (by omega)) (by omega) rfl (by decide) (by decide) rfl sq_c_156 rfl (Nat.le_of_ble_eq_true rfl) ?_
  refine sr_if_neN (tgt := 83) hA si_157_78 (by decide) (by omega) (fun c4 => ?_) (fun c4 => absurd c4 (by omega))
  refine sr_iload hA si_157_83 rfl ?_
  refine sr_if_neN (tgt := 103) hA si_157_85 (by decide) (by omega) (fun c5 => absurd c5 (by omega)) (fun c5 => ?_)
  refine sr_aload_n hA si_157_88 rfl ?_
  refine sr_getR (r := 74) hA si_157_89 sf_157_42 (by decide) (by decide) rfl rfl rfl ?_
  refine sr_iload_n hA si_157_92 rfl ?_
  refine sr_iconst (v := nI 1) hA si_157_93 (by decide) ?_
  refine sr_iaddN hA si_157_94 ?_
  refine sr_aload_n hA si_157_95 rfl ?_
  refine sr_getIv (v := nI s) hA si_157_96 sf_157_117 (by decide) (by decide) rfl (by decide) rfl ?_
  refine sr_iastN (n := 24) hA si_157_99 (by decide) rfl rfl (by omega) (by decide) ?_
  refine sr_goto (tgt := 148) hA si_157_100 (by decide) ?_
  refine sr_iincN (x := 0) (y := 1) (ls1 := [.ref 64, .int (nI t), .int (nI k), .int (nI (4 * i)), .int (nI 1)]) hA si_157_148 rfl rfl (by rw [sq_l_157]; decide) rfl ?_
  refine sr_goto (tgt := 66) hA si_157_151 (by decide) ?_
  refine sr_iload hA si_157_66 rfl ?_
  refine sr_iconst (v := nI 4) hA si_157_68 (by decide) ?_
  refine sr_icmp_geN (tgt := 154) hA si_157_69 (by decide) (by omega) (by omega) (fun c6 => absurd c6 (by omega)) (fun c6 => ?_)
  refine sr_aload_n hA si_157_72 rfl ?_
  refine sr_iload_n hA si_157_73 rfl ?_
  refine sr_iconst (v := nI 0) hA si_157_74 (by decide) ?_
  refine sr_VRi (c := 64) (ci := 8) (as := [.int (nI t), .int (nI 0)]) (st := []) hA si_157_75 sv_156 sk_157_120 (mc_figB X (sp_wI (sp_wI (sp_wI (sp_wI (sp_wI (sp_wI g 64 15 (nI (p + 1))) 74 (4 * i) (nI k)) 74 ((4 * i) + 2) (nI 0)) 64 16 (nI s)) 64 15 (nI (p + 1 + 1))) 74 ((4 * i) + 1) (nI s)) (hT.rb ((((((sp_rb.rf.wI (by omega)).wI (by omega)).wI (by omega)).wI (by omega)).wI (by omega)).wI (by omega))) (p := (p + 1 + 1)) (l := 0) rfl (by omega) (by omega) hbad) (by omega) rfl (by decide) (by decide) rfl sq_c_156 rfl (Nat.le_of_ble_eq_true rfl) (fun xv gx qx => ?_)
  obtain ⟨exv, yv, egx⟩ := qx
  subst exv
  subst egx
  refine sr_if_neN (tgt := 83) hA si_157_78 (by decide) (by omega) (fun c7 => absurd c7 (by omega)) (fun c7 => ?_)
  refine sr_iconst (v := nI 0) hA si_157_81 (by decide) ?_
  exact sr_zretR hA si_157_82 sq_r_157 (by decide) ⟨rfl, ((((((((sp_rb.rf.wI (by omega)).wI (by omega)).wI (by omega)).wI (by omega)).wI (by omega)).wI (by omega)).wI (by omega)).wI (by omega)), rfl⟩
set_option maxRecDepth 20000 in
theorem mc_rky3B (X : sp_X) (g : sp_G) {t z : Nat} {f : Nat → Int32} (hT : sp_TM t z f g) {p i : Nat} (hp15 : g.1 64 15 = nI p) (hi18 : g.1 64 18 = nI i) {k : Nat} (hi : i < 6) (hp : p + 2 < z) (hk : k < 6) (ek : f p = nI (sp_LT k)) {s : Nat} (hs : sp_dg1 (f (p + 1)) s) {a : Nat} (ha : sp_dg1 (f (p + 1 + 1)) a) (hbad : sp_bf f z (p + 1 + 1 + 1) 0) : sp_Ct X 3 157 [.ref 64, .int (nI t)] g (sp_Ri (fun x g' => x = nI 0 ∧ sp_rb g g' ∧ g'.1 64 15 = nI (p + 1 + 1 + 1))) := by
  obtain ⟨ht, hz, -, -⟩ := id hT
  have hs9 := hs.1
  have ha9 := ha.1
  refine sp_walkN (n := 5) sq_p_157 sq_l_157 (Nat.le_of_ble_eq_true rfl) (fun ac hA => ?_)
  show sp_Ev X ac 157 0 [.ref 64, .int (nI t), .null, .null, .null] [] g
  refine sr_aload_n hA si_157_0 rfl ?_
  refine sr_iload_n hA si_157_1 rfl ?_
  refine sr_aload_n hA si_157_2 rfl ?_
  refine sr_getIv (v := nI p) hA si_157_3 sf_157_111 (by decide) (by decide) rfl (by decide) hp15 ?_
  refine sr_VFi (c := 64) (ci := 8) (as := [.int (nI t), .int (nI p)]) (st := []) hA si_157_6 sv_154 sk_157_114 (by have h := hT.bt (X := X) (p := p) (by omega); rw [ek] at h; exact h) (by omega) rfl (by decide) (by decide) rfl sq_c_154 rfl (Nat.le_of_ble_eq_true rfl) ?_
  refine sr_SFi (as := [.int (nI (sp_LT k))]) (st := []) hA si_157_9 ss_158 sk_157_127 (mc_kindK X g hk) (by omega) rfl rfl (Nat.le_of_ble_eq_true rfl) ?_
  refine sr_istore_n (ls1 := [.ref 64, .int (nI t), .int (nI k), .null, .null]) hA si_157_12 rfl (by rw [sq_l_157]; decide) rfl ?_
  refine sr_iload_n hA si_157_13 rfl ?_
  refine sr_bipush (v := (-9)) hA si_157_14 (by decide) ?_
  refine sr_icmp_eq (tgt := 28) hA si_157_16 (by decide) (fun c1 => absurd c1 (sp_nm9 (by omega))) (fun c1 => ?_)
  refine sr_aload_n hA si_157_19 rfl ?_
  refine sr_getIv (v := nI i) hA si_157_20 sf_157_130 (by decide) (by decide) rfl (by decide) hi18 ?_
  refine sr_bipush (v := nI 6) hA si_157_23 (by decide) ?_
  refine sr_icmp_neN (tgt := 30) hA si_157_25 (by decide) (by omega) (by omega) (fun c2 => ?_) (fun c2 => absurd c2 (by omega))
  refine sr_aload_n hA si_157_30 rfl ?_
  refine sr_dup hA si_157_31 rfl ?_
  refine sr_getIv (v := nI p) hA si_157_32 sf_157_111 (by decide) (by decide) rfl (by decide) hp15 ?_
  refine sr_iconst (v := nI 1) hA si_157_35 (by decide) ?_
  refine sr_iaddN hA si_157_36 ?_
  refine sr_putI hA si_157_37 sf_157_111 rfl rfl (by decide) (by decide) rfl rfl ?_
  refine sr_iconst (v := nI 4) hA si_157_40 (by decide) ?_
  refine sr_aload_n hA si_157_41 rfl ?_
  refine sr_getIv (v := nI i) hA si_157_42 sf_157_130 (by decide) (by decide) rfl (by decide) hi18 ?_
  refine sr_imulN hA si_157_45 ?_
  refine sr_istore_n (ls1 := [.ref 64, .int (nI t), .int (nI k), .int (nI (4 * i)), .null]) hA si_157_46 rfl (by rw [sq_l_157]; decide) rfl ?_
  refine sr_aload_n hA si_157_47 rfl ?_
  refine sr_getR (r := 74) hA si_157_48 sf_157_42 (by decide) (by decide) rfl rfl rfl ?_
  refine sr_iload_n hA si_157_51 rfl ?_
  refine sr_iload_n hA si_157_52 rfl ?_
  refine sr_iastN (n := 24) hA si_157_53 (by decide) rfl rfl (by omega) (by decide) ?_
  refine sr_aload_n hA si_157_54 rfl ?_
  refine sr_getR (r := 74) hA si_157_55 sf_157_42 (by decide) (by decide) rfl rfl rfl ?_
  refine sr_iload_n hA si_157_58 rfl ?_
  refine sr_iconst (v := nI 2) hA si_157_59 (by decide) ?_
  refine sr_iaddN hA si_157_60 ?_
  refine sr_iconst (v := nI 0) hA si_157_61 (by decide) ?_
  refine sr_iastN (n := 24) hA si_157_62 (by decide) rfl rfl (by omega) (by decide) ?_
  refine sr_iconst (v := nI 0) hA si_157_63 (by decide) ?_
  refine sr_istore (ls1 := [.ref 64, .int (nI t), .int (nI k), .int (nI (4 * i)), .int (nI 0)]) hA si_157_64 (by rw [sq_l_157]; decide) rfl ?_
  refine sr_iload hA si_157_66 rfl ?_
  refine sr_iconst (v := nI 4) hA si_157_68 (by decide) ?_
  refine sr_icmp_geN (tgt := 154) hA si_157_69 (by decide) (by omega) (by omega) (fun c3 => absurd c3 (by omega)) (fun c3 => ?_)
  refine sr_aload_n hA si_157_72 rfl ?_
  refine sr_iload_n hA si_157_73 rfl ?_
  refine sr_iconst (v := nI 0) hA si_157_74 (by decide) ?_
  refine sr_VFi (c := 64) (ci := 8) (as := [.int (nI t), .int (nI 0)]) (st := []) hA si_157_75 sv_156 sk_157_120 (mc_figG X (sp_wI (sp_wI (sp_wI g 64 15 (nI (p + 1))) 74 (4 * i) (nI k)) 74 ((4 * i) + 2) (nI 0)) (hT.rb (((sp_rb.rf.wI (by omega)).wI (by omega)).wI (by omega))) (p := (p + 1)) (l := 0) rfl (by omega) hs (by omega)) (by omega) rfl (by decide) (by decide) rfl sq_c_156 rfl (Nat.le_of_ble_eq_true rfl) ?_
  refine sr_if_neN (tgt := 83) hA si_157_78 (by decide) (by omega) (fun c4 => ?_) (fun c4 => absurd c4 (by omega))
  refine sr_iload hA si_157_83 rfl ?_
  refine sr_if_neN (tgt := 103) hA si_157_85 (by decide) (by omega) (fun c5 => absurd c5 (by omega)) (fun c5 => ?_)
  refine sr_aload_n hA si_157_88 rfl ?_
  refine sr_getR (r := 74) hA si_157_89 sf_157_42 (by decide) (by decide) rfl rfl rfl ?_
  refine sr_iload_n hA si_157_92 rfl ?_
  refine sr_iconst (v := nI 1) hA si_157_93 (by decide) ?_
  refine sr_iaddN hA si_157_94 ?_
  refine sr_aload_n hA si_157_95 rfl ?_
  refine sr_getIv (v := nI s) hA si_157_96 sf_157_117 (by decide) (by decide) rfl (by decide) rfl ?_
  refine sr_iastN (n := 24) hA si_157_99 (by decide) rfl rfl (by omega) (by decide) ?_
  refine sr_goto (tgt := 148) hA si_157_100 (by decide) ?_
  refine sr_iincN (x := 0) (y := 1) (ls1 := [.ref 64, .int (nI t), .int (nI k), .int (nI (4 * i)), .int (nI 1)]) hA si_157_148 rfl rfl (by rw [sq_l_157]; decide) rfl ?_
  refine sr_goto (tgt := 66) hA si_157_151 (by decide) ?_
  refine sr_iload hA si_157_66 rfl ?_
  refine sr_iconst (v := nI 4) hA si_157_68 (by decide) ?_
  refine sr_icmp_geN (tgt := 154) hA si_157_69 (by decide) (by omega) (by omega) (fun c6 => absurd c6 (by omega)) (fun c6 => ?_)
  refine sr_aload_n hA si_157_72 rfl ?_
  refine sr_iload_n hA si_157_73 rfl ?_
  refine sr_iconst (v := nI 0) hA si_157_74 (by decide) ?_
  refine sr_VFi (c := 64) (ci := 8) (as := [.int (nI t), .int (nI 0)]) (st := []) hA si_157_75 sv_156 sk_157_120 (mc_figG X (sp_wI (sp_wI (sp_wI (sp_wI (sp_wI (sp_wI g 64 15 (nI (p + 1))) 74 (4 * i) (nI k)) 74 ((4 * i) + 2) (nI 0)) 64 16 (nI s)) 64 15 (nI (p + 1 + 1))) 74 ((4 * i) + 1) (nI s)) (hT.rb ((((((sp_rb.rf.wI (by omega)).wI (by omega)).wI (by omega)).wI (by omega)).wI (by omega)).wI (by omega))) (p := (p + 1 + 1)) (l := 0) rfl (by omega) ha (by omega)) (by omega) rfl (by decide) (by decide) rfl sq_c_156 rfl (Nat.le_of_ble_eq_true rfl) ?_
  refine sr_if_neN (tgt := 83) hA si_157_78 (by decide) (by omega) (fun c7 => ?_) (fun c7 => absurd c7 (by omega))
  refine sr_iload hA si_157_83 rfl ?_
  refine sr_if_neN (tgt := 103) hA si_157_85 (by decide) (by omega) (fun c8 => ?_) (fun c8 => absurd c8 (by omega))
  refine sr_iload hA si_157_103 rfl ?_
  refine sr_iconst (v := nI 3) hA si_157_105 (by decide) ?_
  refine sr_icmp_neN (tgt := 124) hA si_157_106 (by decide) (by omega) (by omega) (fun c9 => ?_) (fun c9 => absurd c9 (by omega))
  refine sr_aload_n hA si_157_124 rfl ?_
  refine sr_getR (r := 74) hA si_157_125 sf_157_42 (by decide) (by decide) rfl rfl rfl ?_
  refine sr_iload_n hA si_157_128 rfl ?_
  refine sr_iconst (v := nI 2) hA si_157_129 (by decide) ?_
  refine sr_iaddN hA si_157_130 ?_
  refine sr_bipush (v := nI 10) hA si_157_131 (by decide) ?_
  refine sr_aload_n hA si_157_133 rfl ?_
  refine sr_getR (r := 74) hA si_157_134 sf_157_42 (by decide) (by decide) rfl rfl rfl ?_
  refine sr_iload_n hA si_157_137 rfl ?_
  refine sr_iconst (v := nI 2) hA si_157_138 (by decide) ?_
  refine sr_iaddN hA si_157_139 ?_
  refine sr_ialdNv (v := nI 0) (n := 24) hA si_157_140 (by decide) rfl rfl (by omega) (by decide) (by simp [sp_wI, sp_wL, sp_wA, sp_up]) ?_
  refine sr_imulN hA si_157_141 ?_
  refine sr_aload_n hA si_157_142 rfl ?_
  refine sr_getIv (v := nI a) hA si_157_143 sf_157_117 (by decide) (by decide) rfl (by decide) rfl ?_
  refine sr_iaddN hA si_157_146 ?_
  refine sr_iastN (n := 24) hA si_157_147 (by decide) rfl rfl (by omega) (by decide) ?_
  refine sr_iincN (x := 1) (y := 1) (ls1 := [.ref 64, .int (nI t), .int (nI k), .int (nI (4 * i)), .int (nI 2)]) hA si_157_148 rfl rfl (by rw [sq_l_157]; decide) rfl ?_
  refine sr_goto (tgt := 66) hA si_157_151 (by decide) ?_
  refine sr_iload hA si_157_66 rfl ?_
  refine sr_iconst (v := nI 4) hA si_157_68 (by decide) ?_
  refine sr_icmp_geN (tgt := 154) hA si_157_69 (by decide) (by omega) (by omega) (fun c10 => absurd c10 (by omega)) (fun c10 => ?_)
  refine sr_aload_n hA si_157_72 rfl ?_
  refine sr_iload_n hA si_157_73 rfl ?_
  refine sr_iconst (v := nI 0) hA si_157_74 (by decide) ?_
  refine sr_VRi (c := 64) (ci := 8) (as := [.int (nI t), .int (nI 0)]) (st := []) hA si_157_75 sv_156 sk_157_120 (mc_figB X (sp_wI (sp_wI (sp_wI (sp_wI (sp_wI (sp_wI (sp_wI (sp_wI (sp_wI g 64 15 (nI (p + 1))) 74 (4 * i) (nI k)) 74 ((4 * i) + 2) (nI 0)) 64 16 (nI s)) 64 15 (nI (p + 1 + 1))) 74 ((4 * i) + 1) (nI s)) 64 16 (nI a)) 64 15 (nI (p + 1 + 1 + 1))) 74 ((4 * i) + 2) (nI ((10 * 0) + a))) (hT.rb (((((((((sp_rb.rf.wI (by omega)).wI (by omega)).wI (by omega)).wI (by omega)).wI (by omega)).wI (by omega)).wI (by omega)).wI (by omega)).wI (by omega))) (p := (p + 1 + 1 + 1)) (l := 0) rfl (by omega) (by omega) hbad) (by omega) rfl (by decide) (by decide) rfl sq_c_156 rfl (Nat.le_of_ble_eq_true rfl) (fun xv gx qx => ?_)
  obtain ⟨exv, yv, egx⟩ := qx
  subst exv
  subst egx
  refine sr_if_neN (tgt := 83) hA si_157_78 (by decide) (by omega) (fun c11 => absurd c11 (by omega)) (fun c11 => ?_)
  refine sr_iconst (v := nI 0) hA si_157_81 (by decide) ?_
  exact sr_zretR hA si_157_82 sq_r_157 (by decide) ⟨rfl, (((((((((((sp_rb.rf.wI (by omega)).wI (by omega)).wI (by omega)).wI (by omega)).wI (by omega)).wI (by omega)).wI (by omega)).wI (by omega)).wI (by omega)).wI (by omega)).wI (by omega)), rfl⟩
set_option maxRecDepth 20000 in
theorem mc_rky4B (X : sp_X) (g : sp_G) {t z : Nat} {f : Nat → Int32} (hT : sp_TM t z f g) {p i : Nat} (hp15 : g.1 64 15 = nI p) (hi18 : g.1 64 18 = nI i) {k : Nat} (hi : i < 6) (hp : p + 3 < z) (hk : k < 6) (ek : f p = nI (sp_LT k)) {s : Nat} (hs : sp_dg1 (f (p + 1)) s) {a : Nat} (ha : sp_dg1 (f (p + 1 + 1)) a) {b : Nat} (hb : sp_dg1 (f (p + 1 + 1 + 1)) b) (hbad : sp_bf f z (p + 1 + 1 + 1 + 1) 0) : sp_Ct X 3 157 [.ref 64, .int (nI t)] g (sp_Ri (fun x g' => x = nI 0 ∧ sp_rb g g' ∧ g'.1 64 15 = nI (p + 1 + 1 + 1 + 1))) := by
  obtain ⟨ht, hz, -, -⟩ := id hT
  have hs9 := hs.1
  have ha9 := ha.1
  have hb9 := hb.1
  refine sp_walkN (n := 5) sq_p_157 sq_l_157 (Nat.le_of_ble_eq_true rfl) (fun ac hA => ?_)
  show sp_Ev X ac 157 0 [.ref 64, .int (nI t), .null, .null, .null] [] g
  refine sr_aload_n hA si_157_0 rfl ?_
  refine sr_iload_n hA si_157_1 rfl ?_
  refine sr_aload_n hA si_157_2 rfl ?_
  refine sr_getIv (v := nI p) hA si_157_3 sf_157_111 (by decide) (by decide) rfl (by decide) hp15 ?_
  refine sr_VFi (c := 64) (ci := 8) (as := [.int (nI t), .int (nI p)]) (st := []) hA si_157_6 sv_154 sk_157_114 (by have h := hT.bt (X := X) (p := p) (by omega); rw [ek] at h; exact h) (by omega) rfl (by decide) (by decide) rfl sq_c_154 rfl (Nat.le_of_ble_eq_true rfl) ?_
  refine sr_SFi (as := [.int (nI (sp_LT k))]) (st := []) hA si_157_9 ss_158 sk_157_127 (mc_kindK X g hk) (by omega) rfl rfl (Nat.le_of_ble_eq_true rfl) ?_
  refine sr_istore_n (ls1 := [.ref 64, .int (nI t), .int (nI k), .null, .null]) hA si_157_12 rfl (by rw [sq_l_157]; decide) rfl ?_
  refine sr_iload_n hA si_157_13 rfl ?_
  refine sr_bipush (v := (-9)) hA si_157_14 (by decide) ?_
  refine sr_icmp_eq (tgt := 28) hA si_157_16 (by decide) (fun c1 => absurd c1 (sp_nm9 (by omega))) (fun c1 => ?_)
  refine sr_aload_n hA si_157_19 rfl ?_
  refine sr_getIv (v := nI i) hA si_157_20 sf_157_130 (by decide) (by decide) rfl (by decide) hi18 ?_
  refine sr_bipush (v := nI 6) hA si_157_23 (by decide) ?_
  refine sr_icmp_neN (tgt := 30) hA si_157_25 (by decide) (by omega) (by omega) (fun c2 => ?_) (fun c2 => absurd c2 (by omega))
  refine sr_aload_n hA si_157_30 rfl ?_
  refine sr_dup hA si_157_31 rfl ?_
  refine sr_getIv (v := nI p) hA si_157_32 sf_157_111 (by decide) (by decide) rfl (by decide) hp15 ?_
  refine sr_iconst (v := nI 1) hA si_157_35 (by decide) ?_
  refine sr_iaddN hA si_157_36 ?_
  refine sr_putI hA si_157_37 sf_157_111 rfl rfl (by decide) (by decide) rfl rfl ?_
  refine sr_iconst (v := nI 4) hA si_157_40 (by decide) ?_
  refine sr_aload_n hA si_157_41 rfl ?_
  refine sr_getIv (v := nI i) hA si_157_42 sf_157_130 (by decide) (by decide) rfl (by decide) hi18 ?_
  refine sr_imulN hA si_157_45 ?_
  refine sr_istore_n (ls1 := [.ref 64, .int (nI t), .int (nI k), .int (nI (4 * i)), .null]) hA si_157_46 rfl (by rw [sq_l_157]; decide) rfl ?_
  refine sr_aload_n hA si_157_47 rfl ?_
  refine sr_getR (r := 74) hA si_157_48 sf_157_42 (by decide) (by decide) rfl rfl rfl ?_
  refine sr_iload_n hA si_157_51 rfl ?_
  refine sr_iload_n hA si_157_52 rfl ?_
  refine sr_iastN (n := 24) hA si_157_53 (by decide) rfl rfl (by omega) (by decide) ?_
  refine sr_aload_n hA si_157_54 rfl ?_
  refine sr_getR (r := 74) hA si_157_55 sf_157_42 (by decide) (by decide) rfl rfl rfl ?_
  refine sr_iload_n hA si_157_58 rfl ?_
  refine sr_iconst (v := nI 2) hA si_157_59 (by decide) ?_
  refine sr_iaddN hA si_157_60 ?_
  refine sr_iconst (v := nI 0) hA si_157_61 (by decide) ?_
  refine sr_iastN (n := 24) hA si_157_62 (by decide) rfl rfl (by omega) (by decide) ?_
  refine sr_iconst (v := nI 0) hA si_157_63 (by decide) ?_
  refine sr_istore (ls1 := [.ref 64, .int (nI t), .int (nI k), .int (nI (4 * i)), .int (nI 0)]) hA si_157_64 (by rw [sq_l_157]; decide) rfl ?_
  refine sr_iload hA si_157_66 rfl ?_
  refine sr_iconst (v := nI 4) hA si_157_68 (by decide) ?_
  refine sr_icmp_geN (tgt := 154) hA si_157_69 (by decide) (by omega) (by omega) (fun c3 => absurd c3 (by omega)) (fun c3 => ?_)
  refine sr_aload_n hA si_157_72 rfl ?_
  refine sr_iload_n hA si_157_73 rfl ?_
  refine sr_iconst (v := nI 0) hA si_157_74 (by decide) ?_
  refine sr_VFi (c := 64) (ci := 8) (as := [.int (nI t), .int (nI 0)]) (st := []) hA si_157_75 sv_156 sk_157_120 (mc_figG X (sp_wI (sp_wI (sp_wI g 64 15 (nI (p + 1))) 74 (4 * i) (nI k)) 74 ((4 * i) + 2) (nI 0)) (hT.rb (((sp_rb.rf.wI (by omega)).wI (by omega)).wI (by omega))) (p := (p + 1)) (l := 0) rfl (by omega) hs (by omega)) (by omega) rfl (by decide) (by decide) rfl sq_c_156 rfl (Nat.le_of_ble_eq_true rfl) ?_
  refine sr_if_neN (tgt := 83) hA si_157_78 (by decide) (by omega) (fun c4 => ?_) (fun c4 => absurd c4 (by omega))
  refine sr_iload hA si_157_83 rfl ?_
  refine sr_if_neN (tgt := 103) hA si_157_85 (by decide) (by omega) (fun c5 => absurd c5 (by omega)) (fun c5 => ?_)
  refine sr_aload_n hA si_157_88 rfl ?_
  refine sr_getR (r := 74) hA si_157_89 sf_157_42 (by decide) (by decide) rfl rfl rfl ?_
  refine sr_iload_n hA si_157_92 rfl ?_
  refine sr_iconst (v := nI 1) hA si_157_93 (by decide) ?_
  refine sr_iaddN hA si_157_94 ?_
  refine sr_aload_n hA si_157_95 rfl ?_
  refine sr_getIv (v := nI s) hA si_157_96 sf_157_117 (by decide) (by decide) rfl (by decide) rfl ?_
  refine sr_iastN (n := 24) hA si_157_99 (by decide) rfl rfl (by omega) (by decide) ?_
  refine sr_goto (tgt := 148) hA si_157_100 (by decide) ?_
  refine sr_iincN (x := 0) (y := 1) (ls1 := [.ref 64, .int (nI t), .int (nI k), .int (nI (4 * i)), .int (nI 1)]) hA si_157_148 rfl rfl (by rw [sq_l_157]; decide) rfl ?_
  refine sr_goto (tgt := 66) hA si_157_151 (by decide) ?_
  refine sr_iload hA si_157_66 rfl ?_
  refine sr_iconst (v := nI 4) hA si_157_68 (by decide) ?_
  refine sr_icmp_geN (tgt := 154) hA si_157_69 (by decide) (by omega) (by omega) (fun c6 => absurd c6 (by omega)) (fun c6 => ?_)
  refine sr_aload_n hA si_157_72 rfl ?_
  refine sr_iload_n hA si_157_73 rfl ?_
  refine sr_iconst (v := nI 0) hA si_157_74 (by decide) ?_
  refine sr_VFi (c := 64) (ci := 8) (as := [.int (nI t), .int (nI 0)]) (st := []) hA si_157_75 sv_156 sk_157_120 (mc_figG X (sp_wI (sp_wI (sp_wI (sp_wI (sp_wI (sp_wI g 64 15 (nI (p + 1))) 74 (4 * i) (nI k)) 74 ((4 * i) + 2) (nI 0)) 64 16 (nI s)) 64 15 (nI (p + 1 + 1))) 74 ((4 * i) + 1) (nI s)) (hT.rb ((((((sp_rb.rf.wI (by omega)).wI (by omega)).wI (by omega)).wI (by omega)).wI (by omega)).wI (by omega))) (p := (p + 1 + 1)) (l := 0) rfl (by omega) ha (by omega)) (by omega) rfl (by decide) (by decide) rfl sq_c_156 rfl (Nat.le_of_ble_eq_true rfl) ?_
  refine sr_if_neN (tgt := 83) hA si_157_78 (by decide) (by omega) (fun c7 => ?_) (fun c7 => absurd c7 (by omega))
  refine sr_iload hA si_157_83 rfl ?_
  refine sr_if_neN (tgt := 103) hA si_157_85 (by decide) (by omega) (fun c8 => ?_) (fun c8 => absurd c8 (by omega))
  refine sr_iload hA si_157_103 rfl ?_
  refine sr_iconst (v := nI 3) hA si_157_105 (by decide) ?_
  refine sr_icmp_neN (tgt := 124) hA si_157_106 (by decide) (by omega) (by omega) (fun c9 => ?_) (fun c9 => absurd c9 (by omega))
  refine sr_aload_n hA si_157_124 rfl ?_
  refine sr_getR (r := 74) hA si_157_125 sf_157_42 (by decide) (by decide) rfl rfl rfl ?_
  refine sr_iload_n hA si_157_128 rfl ?_
  refine sr_iconst (v := nI 2) hA si_157_129 (by decide) ?_
  refine sr_iaddN hA si_157_130 ?_
  refine sr_bipush (v := nI 10) hA si_157_131 (by decide) ?_
  refine sr_aload_n hA si_157_133 rfl ?_
  refine sr_getR (r := 74) hA si_157_134 sf_157_42 (by decide) (by decide) rfl rfl rfl ?_
  refine sr_iload_n hA si_157_137 rfl ?_
  refine sr_iconst (v := nI 2) hA si_157_138 (by decide) ?_
  refine sr_iaddN hA si_157_139 ?_
  refine sr_ialdNv (v := nI 0) (n := 24) hA si_157_140 (by decide) rfl rfl (by omega) (by decide) (by simp [sp_wI, sp_wL, sp_wA, sp_up]) ?_
  refine sr_imulN hA si_157_141 ?_
  refine sr_aload_n hA si_157_142 rfl ?_
  refine sr_getIv (v := nI a) hA si_157_143 sf_157_117 (by decide) (by decide) rfl (by decide) rfl ?_
  refine sr_iaddN hA si_157_146 ?_
  refine sr_iastN (n := 24) hA si_157_147 (by decide) rfl rfl (by omega) (by decide) ?_
  refine sr_iincN (x := 1) (y := 1) (ls1 := [.ref 64, .int (nI t), .int (nI k), .int (nI (4 * i)), .int (nI 2)]) hA si_157_148 rfl rfl (by rw [sq_l_157]; decide) rfl ?_
  refine sr_goto (tgt := 66) hA si_157_151 (by decide) ?_
  refine sr_iload hA si_157_66 rfl ?_
  refine sr_iconst (v := nI 4) hA si_157_68 (by decide) ?_
  refine sr_icmp_geN (tgt := 154) hA si_157_69 (by decide) (by omega) (by omega) (fun c10 => absurd c10 (by omega)) (fun c10 => ?_)
  refine sr_aload_n hA si_157_72 rfl ?_
  refine sr_iload_n hA si_157_73 rfl ?_
  refine sr_iconst (v := nI 0) hA si_157_74 (by decide) ?_
  refine sr_VFi (c := 64) (ci := 8) (as := [.int (nI t), .int (nI 0)]) (st := []) hA si_157_75 sv_156 sk_157_120 (mc_figG X (sp_wI (sp_wI (sp_wI (sp_wI (sp_wI (sp_wI (sp_wI (sp_wI (sp_wI g 64 15 (nI (p + 1))) 74 (4 * i) (nI k)) 74 ((4 * i) + 2) (nI 0)) 64 16 (nI s)) 64 15 (nI (p + 1 + 1))) 74 ((4 * i) + 1) (nI s)) 64 16 (nI a)) 64 15 (nI (p + 1 + 1 + 1))) 74 ((4 * i) + 2) (nI ((10 * 0) + a))) (hT.rb (((((((((sp_rb.rf.wI (by omega)).wI (by omega)).wI (by omega)).wI (by omega)).wI (by omega)).wI (by omega)).wI (by omega)).wI (by omega)).wI (by omega))) (p := (p + 1 + 1 + 1)) (l := 0) rfl (by omega) hb (by omega)) (by omega) rfl (by decide) (by decide) rfl sq_c_156 rfl (Nat.le_of_ble_eq_true rfl) ?_
  refine sr_if_neN (tgt := 83) hA si_157_78 (by decide) (by omega) (fun c11 => ?_) (fun c11 => absurd c11 (by omega))
  refine sr_iload hA si_157_83 rfl ?_
  refine sr_if_neN (tgt := 103) hA si_157_85 (by decide) (by omega) (fun c12 => ?_) (fun c12 => absurd c12 (by omega))
  refine sr_iload hA si_157_103 rfl ?_
  refine sr_iconst (v := nI 3) hA si_157_105 (by decide) ?_
  refine sr_icmp_neN (tgt := 124) hA si_157_106 (by decide) (by omega) (by omega) (fun c13 => ?_) (fun c13 => absurd c13 (by omega))
  refine sr_aload_n hA si_157_124 rfl ?_
  refine sr_getR (r := 74) hA si_157_125 sf_157_42 (by decide) (by decide) rfl rfl rfl ?_
  refine sr_iload_n hA si_157_128 rfl ?_
  refine sr_iconst (v := nI 2) hA si_157_129 (by decide) ?_
  refine sr_iaddN hA si_157_130 ?_
  refine sr_bipush (v := nI 10) hA si_157_131 (by decide) ?_
  refine sr_aload_n hA si_157_133 rfl ?_
  refine sr_getR (r := 74) hA si_157_134 sf_157_42 (by decide) (by decide) rfl rfl rfl ?_
  refine sr_iload_n hA si_157_137 rfl ?_
  refine sr_iconst (v := nI 2) hA si_157_138 (by decide) ?_
  refine sr_iaddN hA si_157_139 ?_
  refine sr_ialdNv (v := nI ((10 * 0) + a)) (n := 24) hA si_157_140 (by decide) rfl rfl (by omega) (by decide) (by simp [sp_wI, sp_wL, sp_wA, sp_up]) ?_
  refine sr_imulN hA si_157_141 ?_
  refine sr_aload_n hA si_157_142 rfl ?_
  refine sr_getIv (v := nI b) hA si_157_143 sf_157_117 (by decide) (by decide) rfl (by decide) rfl ?_
  refine sr_iaddN hA si_157_146 ?_
  refine sr_iastN (n := 24) hA si_157_147 (by decide) rfl rfl (by omega) (by decide) ?_
  refine sr_iincN (x := 2) (y := 1) (ls1 := [.ref 64, .int (nI t), .int (nI k), .int (nI (4 * i)), .int (nI 3)]) hA si_157_148 rfl rfl (by rw [sq_l_157]; decide) rfl ?_
  refine sr_goto (tgt := 66) hA si_157_151 (by decide) ?_
  refine sr_iload hA si_157_66 rfl ?_
  refine sr_iconst (v := nI 4) hA si_157_68 (by decide) ?_
  refine sr_icmp_geN (tgt := 154) hA si_157_69 (by decide) (by omega) (by omega) (fun c14 => absurd c14 (by omega)) (fun c14 => ?_)
  refine sr_aload_n hA si_157_72 rfl ?_
  refine sr_iload_n hA si_157_73 rfl ?_
  refine sr_iconst (v := nI 0) hA si_157_74 (by decide) ?_
  refine sr_VRi (c := 64) (ci := 8) (as := [.int (nI t), .int (nI 0)]) (st := []) hA si_157_75 sv_156 sk_157_120 (mc_figB X (sp_wI (sp_wI (sp_wI (sp_wI (sp_wI (sp_wI (sp_wI (sp_wI (sp_wI (sp_wI (sp_wI (sp_wI g 64 15 (nI (p + 1))) 74 (4 * i) (nI k)) 74 ((4 * i) + 2) (nI 0)) 64 16 (nI s)) 64 15 (nI (p + 1 + 1))) 74 ((4 * i) + 1) (nI s)) 64 16 (nI a)) 64 15 (nI (p + 1 + 1 + 1))) 74 ((4 * i) + 2) (nI ((10 * 0) + a))) 64 16 (nI b)) 64 15 (nI (p + 1 + 1 + 1 + 1))) 74 ((4 * i) + 2) (nI ((10 * ((10 * 0) + a)) + b))) (hT.rb ((((((((((((sp_rb.rf.wI (by omega)).wI (by omega)).wI (by omega)).wI (by omega)).wI (by omega)).wI (by omega)).wI (by omega)).wI (by omega)).wI (by omega)).wI (by omega)).wI (by omega)).wI (by omega))) (p := (p + 1 + 1 + 1 + 1)) (l := 0) rfl (by omega) (by omega) hbad) (by omega) rfl (by decide) (by decide) rfl sq_c_156 rfl (Nat.le_of_ble_eq_true rfl) (fun xv gx qx => ?_)
  obtain ⟨exv, yv, egx⟩ := qx
  subst exv
  subst egx
  refine sr_if_neN (tgt := 83) hA si_157_78 (by decide) (by omega) (fun c15 => absurd c15 (by omega)) (fun c15 => ?_)
  refine sr_iconst (v := nI 0) hA si_157_81 (by decide) ?_
  exact sr_zretR hA si_157_82 sq_r_157 (by decide) ⟨rfl, ((((((((((((((sp_rb.rf.wI (by omega)).wI (by omega)).wI (by omega)).wI (by omega)).wI (by omega)).wI (by omega)).wI (by omega)).wI (by omega)).wI (by omega)).wI (by omega)).wI (by omega)).wI (by omega)).wI (by omega)).wI (by omega)), rfl⟩
theorem mc_rkyB (X : sp_X) (g : sp_G) {t z p i e : Nat} {f : Nat → Int32} (hT : sp_TM t z f g) (hp15 : g.1 64 15 = nI p) (hi18 : g.1 64 18 = nI i) (hi : i < 6) (hp : p < z) (h : sp_nk2 f z p e) : sp_Ct X 3 157 [.ref 64, .int (nI t)] g (sp_Ri (fun x g' => x = nI 0 ∧ sp_rb g g' ∧ g'.1 64 15 = nI (e))) := by
  rcases h with ⟨rfl, h⟩ | ⟨⟨k, hk, ek⟩, j, hj, rfl, hfd, hbad⟩
  · exact mc_rkyN X g hT hp15 hi18 (by omega) hp h
  have hbf : sp_bf f z (p + (j + 1)) 0 := by
    rcases hbad with h | ⟨h1, h2⟩
    · exact Or.inl h
    · exact Or.inr ⟨h1, Or.inl h2⟩
  have hj4 : j = 0 ∨ j = 1 ∨ j = 2 ∨ j = 3 := by omega
  rcases hj4 with rfl | rfl | rfl | rfl
  · exact mc_rky1B X g hT hp15 hi18 hi (by omega) hk ek hbf
  · obtain ⟨z1, d1, e1⟩ := hfd 1 (by omega) (by omega)
    exact mc_rky2B X g hT hp15 hi18 hi (by omega) hk ek e1 hbf
  · obtain ⟨z1, d1, e1⟩ := hfd 1 (by omega) (by omega)
    obtain ⟨z2, d2, e2⟩ := hfd 2 (by omega) (by omega)
    exact mc_rky3B X g hT hp15 hi18 hi (by omega) hk ek e1 e2 hbf
  · obtain ⟨z1, d1, e1⟩ := hfd 1 (by omega) (by omega)
    obtain ⟨z2, d2, e2⟩ := hfd 2 (by omega) (by omega)
    obtain ⟨z3, d3, e3⟩ := hfd 3 (by omega) (by omega)
    exact mc_rky4B X g hT hp15 hi18 hi (by omega) hk ek e1 e2 e3 hbf
theorem mc_rkyS (X : sp_X) (g : sp_G) {t z p i : Nat} {f : Nat → Int32} (hT : sp_TM t z f g) (hp15 : g.1 64 15 = nI p) (hi18 : g.1 64 18 = nI i) (hi : i = 6) (hp : p < z) : sp_Ct X 3 157 [.ref 64, .int (nI t)] g (sp_Ri (fun x g' => x = nI 0 ∧ sp_rb g g' ∧ g'.1 64 15 = nI (p))) := by
  rcases sp_lt_or (f p) with ⟨k, hk, ek⟩ | h
  · exact mc_rky6 X g hT hp15 hi18 hi hp hk ek
  · exact mc_rkyN X g hT hp15 hi18 (by omega) hp h
theorem mc_rkyD (X : sp_X) (g : sp_G) {t z p i : Nat} {f : Nat → Int32} {D : Nat × Nat × Nat × Nat × Nat} (hT : sp_TM t z f g) (hp15 : g.1 64 15 = nI p) (hi18 : g.1 64 18 = nI i) (hi : i < 6) (h : sp_gk f z p D) : sp_Ct X 3 157 [.ref 64, .int (nI t)] g (sp_Ri (fun x g' => x = nI 1 ∧ sp_ry g g' p i D.1 D.2.1 D.2.2.1 D.2.2.2.1 D.2.2.2.2)) := by
  obtain ⟨h1, h2, h3, h4, h5, h6, h7⟩ := h
  exact mc_rkyG X g hT hp15 hi18 hi h2 h1 h3 h4 h5 h6 h7
/-- the reader's stand: at the place p, with the spade s and i keys -/
def sp_fz (g gg : sp_G) (p s i : Nat) (D : sp_D) : Prop := sp_rb g gg ∧ gg.1 64 15 = nI p ∧ gg.1 64 17 = nI s ∧ gg.1 64 18 = nI i ∧ ∀ j, j < i → gg.1 74 (4 * j) = nI (D j).1 ∧ gg.1 74 (4 * j + 1) = nI (D j).2.1 ∧ gg.1 74 (4 * j + 2) = nI (10 * (D j).2.2.1 + (D j).2.2.2.1) ∧ gg.1 74 (4 * j + 3) = nI (D j).2.2.2.2
theorem sp_fz.at' {g gg : sp_G} {p s i q : Nat} {D : sp_D} (h : sp_fz g gg p s i D) : sp_fz g (sp_wI gg 64 15 (nI q)) q s i D := by
  obtain ⟨h1, h2, h3, h4, h5⟩ := h
  exact ⟨h1.wI (by omega), rfl, h3, h4, h5⟩
theorem sp_fz.key {g gg g' : sp_G} {p s i : Nat} {D : sp_D} (h : sp_fz g gg p s i D) (k : sp_ry gg g' p i (D i).1 (D i).2.1 (D i).2.2.1 (D i).2.2.2.1 (D i).2.2.2.2) : sp_fz g g' (p + 5) s (i + 1) D := by
  obtain ⟨h1, h2, h3, h4, h5⟩ := h
  obtain ⟨k1, k2, k3, k4, k5, k6, k7, k8, k9⟩ := k
  refine ⟨h1.tr k1, k2, k3.trans h3, k4, fun j hj => ?_⟩
  by_cases e : j = i
  · subst e; exact ⟨k6, k7, k8, k9⟩
  · rw [k5 (4 * j) (by omega), k5 (4 * j + 1) (by omega), k5 (4 * j + 2) (by omega), k5 (4 * j + 3) (by omega)]
    exact h5 j (by omega)
set_option maxRecDepth 20000 in
theorem ml_fb {X : sp_X} {dd : Nat} {ac : sp_Ac} {g : sp_G} {t z s i : Nat} {f : Nat → Int32} {D : sp_D} {Rt : sp_Rt} (hT : sp_TM t z f g) (hA : sp_Act X 153 dd Rt ac) (hd : 1 ≤ dd) : ∀ (m p : Nat) (gg : sp_G), p + m = z → sp_fz g gg p s i D → (∀ g2, sp_fz g g2 (sp_sb f m p) s i D → sp_Ev X ac 153 15 [.ref 64, .int (nI t)] [] g2) → sp_Ev X ac 153 15 [.ref 64, .int (nI t)] [] gg := by
  obtain ⟨ht, hz, -, -⟩ := id hT
  intro m
  induction m with
  | zero =>
    intro p gg h0_ h1_ h2_
    exact h2_ gg h1_
  | succ m ih =>
    intro p gg h0_ h1_ h2_
    by_cases hb : f p = nI 32
    · refine sr_aload_n hA si_153_15 rfl ?_
      refine sr_getIv (v := nI p) hA si_153_16 sf_153_111 (by decide) (by decide) rfl (by decide) h1_.2.1 ?_
      refine sr_aload_n hA si_153_19 rfl ?_
      refine sr_getR (r := 69) hA si_153_20 sf_153_26 (by decide) (by decide) rfl rfl rfl ?_
      refine sr_iload_n hA si_153_23 rfl ?_
      refine sr_ialdNv (v := nI z) (n := 4) hA si_153_24 (by decide) rfl rfl (by omega) (by decide) (hT.rb h1_.1).2.2.1 ?_
      refine sr_icmp_geN (tgt := 86) hA si_153_25 (by decide) (by omega) (by omega) (fun c1 => absurd c1 (by omega)) (fun c1 => ?_)
      refine sr_aload_n hA si_153_28 rfl ?_
      refine sr_iload_n hA si_153_29 rfl ?_
      refine sr_aload_n hA si_153_30 rfl ?_
      refine sr_getIv (v := nI p) hA si_153_31 sf_153_111 (by decide) (by decide) rfl (by decide) h1_.2.1 ?_
      refine sr_VFi (c := 64) (ci := 8) (as := [.int (nI t), .int (nI p)]) (st := []) hA si_153_34 sv_154 sk_153_114 (by have h := (hT.rb h1_.1).bt (X := X) (p := p) (by omega); rw [hb] at h; exact h) (by omega) rfl (by decide) (by decide) rfl sq_c_154 rfl (Nat.le_of_ble_eq_true rfl) ?_
      refine sr_bipush (v := nI 32) hA si_153_37 (by decide) ?_
      refine sr_icmp_neN (tgt := 55) hA si_153_39 (by decide) (by omega) (by omega) (fun c2 => absurd c2 (by omega)) (fun c2 => ?_)
      refine sr_aload_n hA si_153_42 rfl ?_
      refine sr_dup hA si_153_43 rfl ?_
      refine sr_getIv (v := nI p) hA si_153_44 sf_153_111 (by decide) (by decide) rfl (by decide) h1_.2.1 ?_
      refine sr_iconst (v := nI 1) hA si_153_47 (by decide) ?_
      refine sr_iaddN hA si_153_48 ?_
      refine sr_putI hA si_153_49 sf_153_111 rfl rfl (by decide) (by decide) rfl rfl ?_
      refine sr_goto (tgt := 15) hA si_153_52 (by decide) ?_
      exact ih (p + 1) _ (by omega) h1_.at' (by intro g2 q2; exact h2_ g2 (by rw [show sp_sb f (m + 1) p = sp_sb f m (p + 1) from if_pos hb]; exact q2))
    · exact h2_ gg (by rw [show sp_sb f (m + 1) p = p from if_neg hb]; exact h1_)
set_option maxRecDepth 20000 in
theorem ml_fkS {X : sp_X} {ac : sp_Ac} {g : sp_G} {t z p s : Nat} {f : Nat → Int32} {D : sp_D} (hT : sp_TM t z f g) (hs1 : 1 ≤ s) (hs9 : s ≤ 9) (hp : p ≤ z) {i0 : Nat} (hg : sp_gks f z p i0 D) (hend : sp_ps f z p i0 = z) (hA : sp_Act X 153 4 (sp_Ri (fun x g' => x = (-9) ∧ sp_fz g g' z s i0 D)) ac) : ∀ (m i q : Nat) (gg0 : sp_G), i + m = i0 → sp_bl0 f z q = sp_ps f z p i → q ≤ z → sp_fz g gg0 q s i D → sp_Ev X ac 153 15 [.ref 64, .int (nI t)] [] gg0 := by
  obtain ⟨ht, hz, -, -⟩ := id hT
  obtain ⟨hg6, hgs⟩ := id hg
  intro m
  induction m with
  | zero =>
    intro i q gg0 h0_ h1q h2_ h3_
    obtain ⟨hb1, hb2, hnb⟩ := sp_bl0_in (f := f) (z := z) (p := q) h2_
    refine ml_fb hT hA (by omega) (z - q) q gg0 (by omega) h3_ (fun gg h1_ => ?_)
    rw [show sp_sb f (z - q) q = sp_ps f z p i from h1q] at h1_
    rw [show sp_bl0 f z q = sp_ps f z p i from h1q] at hb1 hb2 hnb
    have hei : i = i0 := by omega
    have hps := hend
    rw [← hei] at hps
    rw [hps] at h1_
    refine sr_aload_n hA si_153_15 rfl ?_
    refine sr_getIv (v := nI z) hA si_153_16 sf_153_111 (by decide) (by decide) rfl (by decide) h1_.2.1 ?_
    refine sr_aload_n hA si_153_19 rfl ?_
    refine sr_getR (r := 69) hA si_153_20 sf_153_26 (by decide) (by decide) rfl rfl rfl ?_
    refine sr_iload_n hA si_153_23 rfl ?_
    refine sr_ialdNv (v := nI z) (n := 4) hA si_153_24 (by decide) rfl rfl (by omega) (by decide) (hT.rb h1_.1).2.2.1 ?_
    refine sr_icmp_geN (tgt := 86) hA si_153_25 (by decide) (by omega) (by omega) (fun c1 => ?_) (fun c1 => absurd c1 (by omega))
    refine sr_aload_n hA si_153_86 rfl ?_
    refine sr_getIv (v := nI s) hA si_153_87 sf_153_124 (by decide) (by decide) rfl (by decide) h1_.2.2.1 ?_
    refine sr_if_neN (tgt := 102) hA si_153_90 (by decide) (by omega) (fun c2 => ?_) (fun c2 => absurd c2 (by omega))
    refine sr_bipush (v := (-9)) hA si_153_102 (by decide) ?_
    exact sr_iretR hA si_153_104 sq_r_153 ⟨rfl, by rw [show i0 = i by omega]; exact h1_⟩
  | succ m ih =>
    intro i q gg0 h0_ h1q h2_ h3_
    obtain ⟨hb1, hb2, hnb⟩ := sp_bl0_in (f := f) (z := z) (p := q) h2_
    refine ml_fb hT hA (by omega) (z - q) q gg0 (by omega) h3_ (fun gg h1_ => ?_)
    rw [show sp_sb f (z - q) q = sp_ps f z p i from h1q] at h1_
    rw [show sp_bl0 f z q = sp_ps f z p i from h1q] at hb1 hb2 hnb
    obtain ⟨hlt, hgk⟩ := hgs i (by omega)
    obtain ⟨pl, hpl⟩ : ∃ q, sp_ps f z p i = q := ⟨_, rfl⟩
    rw [hpl] at h1_ hlt hgk hnb
    have hne := hnb (by omega)
    refine sr_aload_n hA si_153_15 rfl ?_
    refine sr_getIv (v := nI pl) hA si_153_16 sf_153_111 (by decide) (by decide) rfl (by decide) h1_.2.1 ?_
    refine sr_aload_n hA si_153_19 rfl ?_
    refine sr_getR (r := 69) hA si_153_20 sf_153_26 (by decide) (by decide) rfl rfl rfl ?_
    refine sr_iload_n hA si_153_23 rfl ?_
    refine sr_ialdNv (v := nI z) (n := 4) hA si_153_24 (by decide) rfl rfl (by omega) (by decide) (hT.rb h1_.1).2.2.1 ?_
    refine sr_icmp_geN (tgt := 86) hA si_153_25 (by decide) (by omega) (by omega) (fun c1 => absurd c1 (by omega)) (fun c1 => ?_)
    refine sr_aload_n hA si_153_28 rfl ?_
    refine sr_iload_n hA si_153_29 rfl ?_
    refine sr_aload_n hA si_153_30 rfl ?_
    refine sr_getIv (v := nI pl) hA si_153_31 sf_153_111 (by decide) (by decide) rfl (by decide) h1_.2.1 ?_
    refine sr_VFi (c := 64) (ci := 8) (as := [.int (nI t), .int (nI pl)]) (st := []) hA si_153_34 sv_154 sk_153_114 ((hT.rb h1_.1).bt (X := X) (p := pl) (by omega)) (by omega) rfl (by decide) (by decide) rfl sq_c_154 rfl (Nat.le_of_ble_eq_true rfl) ?_
    refine sr_bipush (v := nI 32) hA si_153_37 (by decide) ?_
    refine sr_icmp_ne (tgt := 55) hA si_153_39 (by decide) (fun c2 => ?_) (fun c2 => absurd c2 hne)
    refine sr_aload_n hA si_153_55 rfl ?_
    refine sr_getIv (v := nI s) hA si_153_56 sf_153_124 (by decide) (by decide) rfl (by decide) h1_.2.2.1 ?_
    refine sr_if_neN (tgt := 73) hA si_153_59 (by decide) (by omega) (fun c3 => ?_) (fun c3 => absurd c3 (by omega))
    refine sr_aload_n hA si_153_73 rfl ?_
    refine sr_iload_n hA si_153_74 rfl ?_
    refine sr_VRi (c := 64) (ci := 8) (as := [.int (nI t)]) (st := []) hA si_153_75 sv_157 sk_153_136 (mc_rkyD X gg (hT.rb h1_.1) (p := pl) h1_.2.1 h1_.2.2.2.1 (by omega) hgk) (by omega) rfl (by decide) (by decide) rfl sq_c_157 rfl (Nat.le_of_ble_eq_true rfl) (fun xv gx qx => ?_)
    obtain ⟨exv, qx⟩ := qx
    subst exv
    refine sr_if_neN (tgt := 15) hA si_153_78 (by decide) (by omega) (fun c4 => ?_) (fun c4 => absurd c4 (by omega))
    exact ih (i + 1) (pl + 5) gx (by omega) (by subst hpl; rfl) hgk.2.1 (h1_.key qx)
set_option maxRecDepth 20000 in
theorem mc_faultKS (X : sp_X) (g : sp_G) {t z b : Nat} {f : Nat → Int32} (hT : sp_TM t z f g) (hb0 : sp_bl0 f z 0 = b) (hbz : b + 1 < z) (hpe : f b = nI 112) {s i0 : Nat} {D : sp_D} (hs1 : 1 ≤ s) (hdg : sp_dg1 (f (b + 1)) s) (hg : sp_gks f z (b + 2) i0 D) (hend : sp_ps f z (b + 2) i0 = z) : sp_Ct X 4 153 [.ref 64, .int (nI t)] g (sp_Ri (fun x g' => x = (-9) ∧ sp_fz g g' z s i0 D)) := by
  obtain ⟨ht, hz, -, -⟩ := id hT
  have hs9 := hdg.1
  refine sp_walkN (n := 2) sq_p_153 sq_l_153 (Nat.le_of_ble_eq_true rfl) (fun ac hA => ?_)
  show sp_Ev X ac 153 0 [.ref 64, .int (nI t)] [] g
  refine sr_aload_n hA si_153_0 rfl ?_
  refine sr_iconst (v := nI 0) hA si_153_1 (by decide) ?_
  refine sr_putI hA si_153_2 sf_153_111 rfl rfl (by decide) (by decide) rfl rfl ?_
  refine sr_aload_n hA si_153_5 rfl ?_
  refine sr_iconst (v := nI 0) hA si_153_6 (by decide) ?_
  refine sr_putI hA si_153_7 sf_153_124 rfl rfl (by decide) (by decide) rfl rfl ?_
  refine sr_aload_n hA si_153_10 rfl ?_
  refine sr_iconst (v := nI 0) hA si_153_11 (by decide) ?_
  refine sr_putI hA si_153_12 sf_153_130 rfl rfl (by decide) (by decide) rfl rfl ?_
  refine ml_fb (s := 0) (i := 0) (D := D) hT hA (by omega) z 0 _ (by omega) ⟨(((sp_rb.rf.wI (by omega)).wI (by omega)).wI (by omega)), rfl, rfl, rfl, fun j hj => absurd hj (by omega)⟩ (fun gg h1_ => ?_)
  rw [show sp_sb f z 0 = b from hb0] at h1_
  refine sr_aload_n hA si_153_15 rfl ?_
  refine sr_getIv (v := nI b) hA si_153_16 sf_153_111 (by decide) (by decide) rfl (by decide) h1_.2.1 ?_
  refine sr_aload_n hA si_153_19 rfl ?_
  refine sr_getR (r := 69) hA si_153_20 sf_153_26 (by decide) (by decide) rfl rfl rfl ?_
  refine sr_iload_n hA si_153_23 rfl ?_
  refine sr_ialdNv (v := nI z) (n := 4) hA si_153_24 (by decide) rfl rfl (by omega) (by decide) (hT.rb h1_.1).2.2.1 ?_
  refine sr_icmp_geN (tgt := 86) hA si_153_25 (by decide) (by omega) (by omega) (fun c1 => absurd c1 (by omega)) (fun c1 => ?_)
  refine sr_aload_n hA si_153_28 rfl ?_
  refine sr_iload_n hA si_153_29 rfl ?_
  refine sr_aload_n hA si_153_30 rfl ?_
  refine sr_getIv (v := nI b) hA si_153_31 sf_153_111 (by decide) (by decide) rfl (by decide) h1_.2.1 ?_
  refine sr_VFi (c := 64) (ci := 8) (as := [.int (nI t), .int (nI b)]) (st := []) hA si_153_34 sv_154 sk_153_114 (by have h := (hT.rb h1_.1).bt (X := X) (p := b) (by omega); rw [hpe] at h; exact h) (by omega) rfl (by decide) (by decide) rfl sq_c_154 rfl (Nat.le_of_ble_eq_true rfl) ?_
  refine sr_bipush (v := nI 32) hA si_153_37 (by decide) ?_
  refine sr_icmp_neN (tgt := 55) hA si_153_39 (by decide) (by omega) (by omega) (fun c2 => ?_) (fun c2 => absurd c2 (by omega))
  refine sr_aload_n hA si_153_55 rfl ?_
  refine sr_getIv (v := nI 0) hA si_153_56 sf_153_124 (by decide) (by decide) rfl (by decide) h1_.2.2.1 ?_
  refine sr_if_neN (tgt := 73) hA si_153_59 (by decide) (by omega) (fun c3 => absurd c3 (by omega)) (fun c3 => ?_)
  refine sr_aload_n hA si_153_62 rfl ?_
  refine sr_iload_n hA si_153_63 rfl ?_
  refine sr_VFi (c := 64) (ci := 8) (as := [.int (nI t)]) (st := []) hA si_153_64 sv_155 sk_153_133 (mc_rsG X gg (hT.rb h1_.1) (p := b) h1_.2.1 (by omega) hpe hs1 hdg) (by omega) rfl (by decide) (by decide) rfl sq_c_155 rfl (Nat.le_of_ble_eq_true rfl) ?_
  refine sr_if_eqN (tgt := 81) hA si_153_67 (by decide) (by omega) (fun c4 => absurd c4 (by omega)) (fun c4 => ?_)
  refine sr_goto (tgt := 15) hA si_153_70 (by decide) ?_
  exact ml_fkS hT hs1 hs9 (p := b + 2) (by omega) hg hend hA i0 0 (b + 2) _ (by omega) rfl (by omega) ⟨(((h1_.1.wI (by omega)).wI (by omega)).wI (by omega)).wI (by omega), rfl, rfl, h1_.2.2.2.1, fun j hj => absurd hj (by omega)⟩
set_option maxRecDepth 20000 in
theorem ml_fk6 {X : sp_X} {ac : sp_Ac} {g : sp_G} {t z p s : Nat} {f : Nat → Int32} {D : sp_D} (hT : sp_TM t z f g) (hs1 : 1 ≤ s) (hs9 : s ≤ 9) (hp : p ≤ z) {i0 : Nat} (hg : sp_gks f z p i0 D) (hi6 : i0 = 6) (hend : sp_ps f z p i0 < z) (hA : sp_Act X 153 4 (sp_Ri (fun x g' => x = nI (sp_ps f z p i0) ∧ sp_rb g g')) ac) : ∀ (m i q : Nat) (gg0 : sp_G), i + m = i0 → sp_bl0 f z q = sp_ps f z p i → q ≤ z → sp_fz g gg0 q s i D → sp_Ev X ac 153 15 [.ref 64, .int (nI t)] [] gg0 := by
  obtain ⟨ht, hz, -, -⟩ := id hT
  obtain ⟨hg6, hgs⟩ := id hg
  intro m
  induction m with
  | zero =>
    intro i q gg0 h0_ h1q h2_ h3_
    obtain ⟨hb1, hb2, hnb⟩ := sp_bl0_in (f := f) (z := z) (p := q) h2_
    refine ml_fb hT hA (by omega) (z - q) q gg0 (by omega) h3_ (fun gg h1_ => ?_)
    rw [show sp_sb f (z - q) q = sp_ps f z p i from h1q] at h1_
    rw [show sp_bl0 f z q = sp_ps f z p i from h1q] at hb1 hb2 hnb
    have hei : i = i0 := by omega
    have hps := hend
    rw [← hei] at hps
    have hpl0 := hps
    obtain ⟨pl, hpl⟩ : ∃ q, sp_ps f z p i = q := ⟨_, rfl⟩
    rw [hpl] at h1_ hps hnb
    have hne := hnb (by omega)
    refine sr_aload_n hA si_153_15 rfl ?_
    refine sr_getIv (v := nI pl) hA si_153_16 sf_153_111 (by decide) (by decide) rfl (by decide) h1_.2.1 ?_
    refine sr_aload_n hA si_153_19 rfl ?_
    refine sr_getR (r := 69) hA si_153_20 sf_153_26 (by decide) (by decide) rfl rfl rfl ?_
    refine sr_iload_n hA si_153_23 rfl ?_
    refine sr_ialdNv (v := nI z) (n := 4) hA si_153_24 (by decide) rfl rfl (by omega) (by decide) (hT.rb h1_.1).2.2.1 ?_
    refine sr_icmp_geN (tgt := 86) hA si_153_25 (by decide) (by omega) (by omega) (fun c1 => absurd c1 (by omega)) (fun c1 => ?_)
    refine sr_aload_n hA si_153_28 rfl ?_
    refine sr_iload_n hA si_153_29 rfl ?_
    refine sr_aload_n hA si_153_30 rfl ?_
    refine sr_getIv (v := nI pl) hA si_153_31 sf_153_111 (by decide) (by decide) rfl (by decide) h1_.2.1 ?_
    refine sr_VFi (c := 64) (ci := 8) (as := [.int (nI t), .int (nI pl)]) (st := []) hA si_153_34 sv_154 sk_153_114 ((hT.rb h1_.1).bt (X := X) (p := pl) (by omega)) (by omega) rfl (by decide) (by decide) rfl sq_c_154 rfl (Nat.le_of_ble_eq_true rfl) ?_
    refine sr_bipush (v := nI 32) hA si_153_37 (by decide) ?_
    refine sr_icmp_ne (tgt := 55) hA si_153_39 (by decide) (fun c2 => ?_) (fun c2 => absurd c2 hne)
    refine sr_aload_n hA si_153_55 rfl ?_
    refine sr_getIv (v := nI s) hA si_153_56 sf_153_124 (by decide) (by decide) rfl (by decide) h1_.2.2.1 ?_
    refine sr_if_neN (tgt := 73) hA si_153_59 (by decide) (by omega) (fun c3 => ?_) (fun c3 => absurd c3 (by omega))
    refine sr_aload_n hA si_153_73 rfl ?_
    refine sr_iload_n hA si_153_74 rfl ?_
    refine sr_VRi (c := 64) (ci := 8) (as := [.int (nI t)]) (st := []) hA si_153_75 sv_157 sk_153_136 (mc_rkyS X gg (hT.rb h1_.1) (p := pl) h1_.2.1 h1_.2.2.2.1 (by omega) (by omega)) (by omega) rfl (by decide) (by decide) rfl sq_c_157 rfl (Nat.le_of_ble_eq_true rfl) (fun xv gx qx => ?_)
    obtain ⟨exv, qx, qy⟩ := qx
    subst exv
    refine sr_if_neN (tgt := 15) hA si_153_78 (by decide) (by omega) (fun c4 => absurd c4 (by omega)) (fun c4 => ?_)
    refine sr_aload_n hA si_153_81 rfl ?_
    refine sr_getIv (v := nI pl) hA si_153_82 sf_153_111 (by decide) (by decide) rfl (by decide) qy ?_
    exact sr_iretR hA si_153_85 sq_r_153 ⟨by rw [← hei, hpl], h1_.1.tr qx⟩
  | succ m ih =>
    intro i q gg0 h0_ h1q h2_ h3_
    obtain ⟨hb1, hb2, hnb⟩ := sp_bl0_in (f := f) (z := z) (p := q) h2_
    refine ml_fb hT hA (by omega) (z - q) q gg0 (by omega) h3_ (fun gg h1_ => ?_)
    rw [show sp_sb f (z - q) q = sp_ps f z p i from h1q] at h1_
    rw [show sp_bl0 f z q = sp_ps f z p i from h1q] at hb1 hb2 hnb
    obtain ⟨hlt, hgk⟩ := hgs i (by omega)
    obtain ⟨pl, hpl⟩ : ∃ q, sp_ps f z p i = q := ⟨_, rfl⟩
    rw [hpl] at h1_ hlt hgk hnb
    have hne := hnb (by omega)
    refine sr_aload_n hA si_153_15 rfl ?_
    refine sr_getIv (v := nI pl) hA si_153_16 sf_153_111 (by decide) (by decide) rfl (by decide) h1_.2.1 ?_
    refine sr_aload_n hA si_153_19 rfl ?_
    refine sr_getR (r := 69) hA si_153_20 sf_153_26 (by decide) (by decide) rfl rfl rfl ?_
    refine sr_iload_n hA si_153_23 rfl ?_
    refine sr_ialdNv (v := nI z) (n := 4) hA si_153_24 (by decide) rfl rfl (by omega) (by decide) (hT.rb h1_.1).2.2.1 ?_
    refine sr_icmp_geN (tgt := 86) hA si_153_25 (by decide) (by omega) (by omega) (fun c1 => absurd c1 (by omega)) (fun c1 => ?_)
    refine sr_aload_n hA si_153_28 rfl ?_
    refine sr_iload_n hA si_153_29 rfl ?_
    refine sr_aload_n hA si_153_30 rfl ?_
    refine sr_getIv (v := nI pl) hA si_153_31 sf_153_111 (by decide) (by decide) rfl (by decide) h1_.2.1 ?_
    refine sr_VFi (c := 64) (ci := 8) (as := [.int (nI t), .int (nI pl)]) (st := []) hA si_153_34 sv_154 sk_153_114 ((hT.rb h1_.1).bt (X := X) (p := pl) (by omega)) (by omega) rfl (by decide) (by decide) rfl sq_c_154 rfl (Nat.le_of_ble_eq_true rfl) ?_
    refine sr_bipush (v := nI 32) hA si_153_37 (by decide) ?_
    refine sr_icmp_ne (tgt := 55) hA si_153_39 (by decide) (fun c2 => ?_) (fun c2 => absurd c2 hne)
    refine sr_aload_n hA si_153_55 rfl ?_
    refine sr_getIv (v := nI s) hA si_153_56 sf_153_124 (by decide) (by decide) rfl (by decide) h1_.2.2.1 ?_
    refine sr_if_neN (tgt := 73) hA si_153_59 (by decide) (by omega) (fun c3 => ?_) (fun c3 => absurd c3 (by omega))
    refine sr_aload_n hA si_153_73 rfl ?_
    refine sr_iload_n hA si_153_74 rfl ?_
    refine sr_VRi (c := 64) (ci := 8) (as := [.int (nI t)]) (st := []) hA si_153_75 sv_157 sk_153_136 (mc_rkyD X gg (hT.rb h1_.1) (p := pl) h1_.2.1 h1_.2.2.2.1 (by omega) hgk) (by omega) rfl (by decide) (by decide) rfl sq_c_157 rfl (Nat.le_of_ble_eq_true rfl) (fun xv gx qx => ?_)
    obtain ⟨exv, qx⟩ := qx
    subst exv
    refine sr_if_neN (tgt := 15) hA si_153_78 (by decide) (by omega) (fun c4 => ?_) (fun c4 => absurd c4 (by omega))
    exact ih (i + 1) (pl + 5) gx (by omega) (by subst hpl; rfl) hgk.2.1 (h1_.key qx)
set_option maxRecDepth 20000 in
theorem mc_faultK6 (X : sp_X) (g : sp_G) {t z b : Nat} {f : Nat → Int32} (hT : sp_TM t z f g) (hb0 : sp_bl0 f z 0 = b) (hbz : b + 1 < z) (hpe : f b = nI 112) {s i0 : Nat} {D : sp_D} (hs1 : 1 ≤ s) (hdg : sp_dg1 (f (b + 1)) s) (hg : sp_gks f z (b + 2) i0 D) (hi6 : i0 = 6) (hend : sp_ps f z (b + 2) i0 < z) : sp_Ct X 4 153 [.ref 64, .int (nI t)] g (sp_Ri (fun x g' => x = nI (sp_ps f z (b + 2) i0) ∧ sp_rb g g')) := by
  obtain ⟨ht, hz, -, -⟩ := id hT
  have hs9 := hdg.1
  refine sp_walkN (n := 2) sq_p_153 sq_l_153 (Nat.le_of_ble_eq_true rfl) (fun ac hA => ?_)
  show sp_Ev X ac 153 0 [.ref 64, .int (nI t)] [] g
  refine sr_aload_n hA si_153_0 rfl ?_
  refine sr_iconst (v := nI 0) hA si_153_1 (by decide) ?_
  refine sr_putI hA si_153_2 sf_153_111 rfl rfl (by decide) (by decide) rfl rfl ?_
  refine sr_aload_n hA si_153_5 rfl ?_
  refine sr_iconst (v := nI 0) hA si_153_6 (by decide) ?_
  refine sr_putI hA si_153_7 sf_153_124 rfl rfl (by decide) (by decide) rfl rfl ?_
  refine sr_aload_n hA si_153_10 rfl ?_
  refine sr_iconst (v := nI 0) hA si_153_11 (by decide) ?_
  refine sr_putI hA si_153_12 sf_153_130 rfl rfl (by decide) (by decide) rfl rfl ?_
  refine ml_fb (s := 0) (i := 0) (D := D) hT hA (by omega) z 0 _ (by omega) ⟨(((sp_rb.rf.wI (by omega)).wI (by omega)).wI (by omega)), rfl, rfl, rfl, fun j hj => absurd hj (by omega)⟩ (fun gg h1_ => ?_)
  rw [show sp_sb f z 0 = b from hb0] at h1_
  refine sr_aload_n hA si_153_15 rfl ?_
  refine sr_getIv (v := nI b) hA si_153_16 sf_153_111 (by decide) (by decide) rfl (by decide) h1_.2.1 ?_
  refine sr_aload_n hA si_153_19 rfl ?_
  refine sr_getR (r := 69) hA si_153_20 sf_153_26 (by decide) (by decide) rfl rfl rfl ?_
  refine sr_iload_n hA si_153_23 rfl ?_
  refine sr_ialdNv (v := nI z) (n := 4) hA si_153_24 (by decide) rfl rfl (by omega) (by decide) (hT.rb h1_.1).2.2.1 ?_
  refine sr_icmp_geN (tgt := 86) hA si_153_25 (by decide) (by omega) (by omega) (fun c1 => absurd c1 (by omega)) (fun c1 => ?_)
  refine sr_aload_n hA si_153_28 rfl ?_
  refine sr_iload_n hA si_153_29 rfl ?_
  refine sr_aload_n hA si_153_30 rfl ?_
  refine sr_getIv (v := nI b) hA si_153_31 sf_153_111 (by decide) (by decide) rfl (by decide) h1_.2.1 ?_
  refine sr_VFi (c := 64) (ci := 8) (as := [.int (nI t), .int (nI b)]) (st := []) hA si_153_34 sv_154 sk_153_114 (by have h := (hT.rb h1_.1).bt (X := X) (p := b) (by omega); rw [hpe] at h; exact h) (by omega) rfl (by decide) (by decide) rfl sq_c_154 rfl (Nat.le_of_ble_eq_true rfl) ?_
  refine sr_bipush (v := nI 32) hA si_153_37 (by decide) ?_
  refine sr_icmp_neN (tgt := 55) hA si_153_39 (by decide) (by omega) (by omega) (fun c2 => ?_) (fun c2 => absurd c2 (by omega))
  refine sr_aload_n hA si_153_55 rfl ?_
  refine sr_getIv (v := nI 0) hA si_153_56 sf_153_124 (by decide) (by decide) rfl (by decide) h1_.2.2.1 ?_
  refine sr_if_neN (tgt := 73) hA si_153_59 (by decide) (by omega) (fun c3 => absurd c3 (by omega)) (fun c3 => ?_)
  refine sr_aload_n hA si_153_62 rfl ?_
  refine sr_iload_n hA si_153_63 rfl ?_
  refine sr_VFi (c := 64) (ci := 8) (as := [.int (nI t)]) (st := []) hA si_153_64 sv_155 sk_153_133 (mc_rsG X gg (hT.rb h1_.1) (p := b) h1_.2.1 (by omega) hpe hs1 hdg) (by omega) rfl (by decide) (by decide) rfl sq_c_155 rfl (Nat.le_of_ble_eq_true rfl) ?_
  refine sr_if_eqN (tgt := 81) hA si_153_67 (by decide) (by omega) (fun c4 => absurd c4 (by omega)) (fun c4 => ?_)
  refine sr_goto (tgt := 15) hA si_153_70 (by decide) ?_
  exact ml_fk6 hT hs1 hs9 (p := b + 2) (by omega) hg hi6 hend hA i0 0 (b + 2) _ (by omega) rfl (by omega) ⟨(((h1_.1.wI (by omega)).wI (by omega)).wI (by omega)).wI (by omega), rfl, rfl, h1_.2.2.2.1, fun j hj => absurd hj (by omega)⟩
set_option maxRecDepth 20000 in
theorem ml_fkB {X : sp_X} {ac : sp_Ac} {g : sp_G} {t z p s : Nat} {f : Nat → Int32} {D : sp_D} (hT : sp_TM t z f g) (hs1 : 1 ≤ s) (hs9 : s ≤ 9) (hp : p ≤ z) {i0 : Nat} (hg : sp_gks f z p i0 D) (hi6 : i0 < 6) (hend : sp_ps f z p i0 < z) {e : Nat} (heb : e < 2 ^ 31) (hbad0 : sp_nk2 f z (sp_ps f z p i0) e) (hA : sp_Act X 153 4 (sp_Ri (fun x g' => x = nI e ∧ sp_rb g g')) ac) : ∀ (m i q : Nat) (gg0 : sp_G), i + m = i0 → sp_bl0 f z q = sp_ps f z p i → q ≤ z → sp_fz g gg0 q s i D → sp_Ev X ac 153 15 [.ref 64, .int (nI t)] [] gg0 := by
  obtain ⟨ht, hz, -, -⟩ := id hT
  obtain ⟨hg6, hgs⟩ := id hg
  intro m
  induction m with
  | zero =>
    intro i q gg0 h0_ h1q h2_ h3_
    obtain ⟨hb1, hb2, hnb⟩ := sp_bl0_in (f := f) (z := z) (p := q) h2_
    refine ml_fb hT hA (by omega) (z - q) q gg0 (by omega) h3_ (fun gg h1_ => ?_)
    rw [show sp_sb f (z - q) q = sp_ps f z p i from h1q] at h1_
    rw [show sp_bl0 f z q = sp_ps f z p i from h1q] at hb1 hb2 hnb
    have hei : i = i0 := by omega
    have hps := hend
    rw [← hei] at hps
    have hpl0 := hps
    obtain ⟨pl, hpl⟩ : ∃ q, sp_ps f z p i = q := ⟨_, rfl⟩
    rw [hpl] at h1_ hps hnb
    have hne := hnb (by omega)
    have hbad : sp_nk2 f z pl e := by rw [← hpl, hei]; exact hbad0
    refine sr_aload_n hA si_153_15 rfl ?_
    refine sr_getIv (v := nI pl) hA si_153_16 sf_153_111 (by decide) (by decide) rfl (by decide) h1_.2.1 ?_
    refine sr_aload_n hA si_153_19 rfl ?_
    refine sr_getR (r := 69) hA si_153_20 sf_153_26 (by decide) (by decide) rfl rfl rfl ?_
    refine sr_iload_n hA si_153_23 rfl ?_
    refine sr_ialdNv (v := nI z) (n := 4) hA si_153_24 (by decide) rfl rfl (by omega) (by decide) (hT.rb h1_.1).2.2.1 ?_
    refine sr_icmp_geN (tgt := 86) hA si_153_25 (by decide) (by omega) (by omega) (fun c1 => absurd c1 (by omega)) (fun c1 => ?_)
    refine sr_aload_n hA si_153_28 rfl ?_
    refine sr_iload_n hA si_153_29 rfl ?_
    refine sr_aload_n hA si_153_30 rfl ?_
    refine sr_getIv (v := nI pl) hA si_153_31 sf_153_111 (by decide) (by decide) rfl (by decide) h1_.2.1 ?_
    refine sr_VFi (c := 64) (ci := 8) (as := [.int (nI t), .int (nI pl)]) (st := []) hA si_153_34 sv_154 sk_153_114 ((hT.rb h1_.1).bt (X := X) (p := pl) (by omega)) (by omega) rfl (by decide) (by decide) rfl sq_c_154 rfl (Nat.le_of_ble_eq_true rfl) ?_
    refine sr_bipush (v := nI 32) hA si_153_37 (by decide) ?_
    refine sr_icmp_ne (tgt := 55) hA si_153_39 (by decide) (fun c2 => ?_) (fun c2 => absurd c2 hne)
    refine sr_aload_n hA si_153_55 rfl ?_
    refine sr_getIv (v := nI s) hA si_153_56 sf_153_124 (by decide) (by decide) rfl (by decide) h1_.2.2.1 ?_
    refine sr_if_neN (tgt := 73) hA si_153_59 (by decide) (by omega) (fun c3 => ?_) (fun c3 => absurd c3 (by omega))
    refine sr_aload_n hA si_153_73 rfl ?_
    refine sr_iload_n hA si_153_74 rfl ?_
    refine sr_VRi (c := 64) (ci := 8) (as := [.int (nI t)]) (st := []) hA si_153_75 sv_157 sk_153_136 (mc_rkyB X gg (hT.rb h1_.1) (p := pl) h1_.2.1 h1_.2.2.2.1 (by omega) (by omega) hbad) (by omega) rfl (by decide) (by decide) rfl sq_c_157 rfl (Nat.le_of_ble_eq_true rfl) (fun xv gx qx => ?_)
    obtain ⟨exv, qx, qy⟩ := qx
    subst exv
    refine sr_if_neN (tgt := 15) hA si_153_78 (by decide) (by omega) (fun c4 => absurd c4 (by omega)) (fun c4 => ?_)
    refine sr_aload_n hA si_153_81 rfl ?_
    refine sr_getIv (v := nI e) hA si_153_82 sf_153_111 (by decide) (by decide) rfl (by decide) qy ?_
    exact sr_iretR hA si_153_85 sq_r_153 ⟨rfl, h1_.1.tr qx⟩
  | succ m ih =>
    intro i q gg0 h0_ h1q h2_ h3_
    obtain ⟨hb1, hb2, hnb⟩ := sp_bl0_in (f := f) (z := z) (p := q) h2_
    refine ml_fb hT hA (by omega) (z - q) q gg0 (by omega) h3_ (fun gg h1_ => ?_)
    rw [show sp_sb f (z - q) q = sp_ps f z p i from h1q] at h1_
    rw [show sp_bl0 f z q = sp_ps f z p i from h1q] at hb1 hb2 hnb
    obtain ⟨hlt, hgk⟩ := hgs i (by omega)
    obtain ⟨pl, hpl⟩ : ∃ q, sp_ps f z p i = q := ⟨_, rfl⟩
    rw [hpl] at h1_ hlt hgk hnb
    have hne := hnb (by omega)
    refine sr_aload_n hA si_153_15 rfl ?_
    refine sr_getIv (v := nI pl) hA si_153_16 sf_153_111 (by decide) (by decide) rfl (by decide) h1_.2.1 ?_
    refine sr_aload_n hA si_153_19 rfl ?_
    refine sr_getR (r := 69) hA si_153_20 sf_153_26 (by decide) (by decide) rfl rfl rfl ?_
    refine sr_iload_n hA si_153_23 rfl ?_
    refine sr_ialdNv (v := nI z) (n := 4) hA si_153_24 (by decide) rfl rfl (by omega) (by decide) (hT.rb h1_.1).2.2.1 ?_
    refine sr_icmp_geN (tgt := 86) hA si_153_25 (by decide) (by omega) (by omega) (fun c1 => absurd c1 (by omega)) (fun c1 => ?_)
    refine sr_aload_n hA si_153_28 rfl ?_
    refine sr_iload_n hA si_153_29 rfl ?_
    refine sr_aload_n hA si_153_30 rfl ?_
    refine sr_getIv (v := nI pl) hA si_153_31 sf_153_111 (by decide) (by decide) rfl (by decide) h1_.2.1 ?_
    refine sr_VFi (c := 64) (ci := 8) (as := [.int (nI t), .int (nI pl)]) (st := []) hA si_153_34 sv_154 sk_153_114 ((hT.rb h1_.1).bt (X := X) (p := pl) (by omega)) (by omega) rfl (by decide) (by decide) rfl sq_c_154 rfl (Nat.le_of_ble_eq_true rfl) ?_
    refine sr_bipush (v := nI 32) hA si_153_37 (by decide) ?_
    refine sr_icmp_ne (tgt := 55) hA si_153_39 (by decide) (fun c2 => ?_) (fun c2 => absurd c2 hne)
    refine sr_aload_n hA si_153_55 rfl ?_
    refine sr_getIv (v := nI s) hA si_153_56 sf_153_124 (by decide) (by decide) rfl (by decide) h1_.2.2.1 ?_
    refine sr_if_neN (tgt := 73) hA si_153_59 (by decide) (by omega) (fun c3 => ?_) (fun c3 => absurd c3 (by omega))
    refine sr_aload_n hA si_153_73 rfl ?_
    refine sr_iload_n hA si_153_74 rfl ?_
    refine sr_VRi (c := 64) (ci := 8) (as := [.int (nI t)]) (st := []) hA si_153_75 sv_157 sk_153_136 (mc_rkyD X gg (hT.rb h1_.1) (p := pl) h1_.2.1 h1_.2.2.2.1 (by omega) hgk) (by omega) rfl (by decide) (by decide) rfl sq_c_157 rfl (Nat.le_of_ble_eq_true rfl) (fun xv gx qx => ?_)
    obtain ⟨exv, qx⟩ := qx
    subst exv
    refine sr_if_neN (tgt := 15) hA si_153_78 (by decide) (by omega) (fun c4 => ?_) (fun c4 => absurd c4 (by omega))
    exact ih (i + 1) (pl + 5) gx (by omega) (by subst hpl; rfl) hgk.2.1 (h1_.key qx)
set_option maxRecDepth 20000 in
theorem mc_faultKB (X : sp_X) (g : sp_G) {t z b : Nat} {f : Nat → Int32} (hT : sp_TM t z f g) (hb0 : sp_bl0 f z 0 = b) (hbz : b + 1 < z) (hpe : f b = nI 112) {s i0 : Nat} {D : sp_D} (hs1 : 1 ≤ s) (hdg : sp_dg1 (f (b + 1)) s) (hg : sp_gks f z (b + 2) i0 D) (hi6 : i0 < 6) (hend : sp_ps f z (b + 2) i0 < z) {e : Nat} (heb : e < 2 ^ 31) (hbad0 : sp_nk2 f z (sp_ps f z (b + 2) i0) e) : sp_Ct X 4 153 [.ref 64, .int (nI t)] g (sp_Ri (fun x g' => x = nI e ∧ sp_rb g g')) := by
  obtain ⟨ht, hz, -, -⟩ := id hT
  have hs9 := hdg.1
  refine sp_walkN (n := 2) sq_p_153 sq_l_153 (Nat.le_of_ble_eq_true rfl) (fun ac hA => ?_)
  show sp_Ev X ac 153 0 [.ref 64, .int (nI t)] [] g
  refine sr_aload_n hA si_153_0 rfl ?_
  refine sr_iconst (v := nI 0) hA si_153_1 (by decide) ?_
  refine sr_putI hA si_153_2 sf_153_111 rfl rfl (by decide) (by decide) rfl rfl ?_
  refine sr_aload_n hA si_153_5 rfl ?_
  refine sr_iconst (v := nI 0) hA si_153_6 (by decide) ?_
  refine sr_putI hA si_153_7 sf_153_124 rfl rfl (by decide) (by decide) rfl rfl ?_
  refine sr_aload_n hA si_153_10 rfl ?_
  refine sr_iconst (v := nI 0) hA si_153_11 (by decide) ?_
  refine sr_putI hA si_153_12 sf_153_130 rfl rfl (by decide) (by decide) rfl rfl ?_
  refine ml_fb (s := 0) (i := 0) (D := D) hT hA (by omega) z 0 _ (by omega) ⟨(((sp_rb.rf.wI (by omega)).wI (by omega)).wI (by omega)), rfl, rfl, rfl, fun j hj => absurd hj (by omega)⟩ (fun gg h1_ => ?_)
  rw [show sp_sb f z 0 = b from hb0] at h1_
  refine sr_aload_n hA si_153_15 rfl ?_
  refine sr_getIv (v := nI b) hA si_153_16 sf_153_111 (by decide) (by decide) rfl (by decide) h1_.2.1 ?_
  refine sr_aload_n hA si_153_19 rfl ?_
  refine sr_getR (r := 69) hA si_153_20 sf_153_26 (by decide) (by decide) rfl rfl rfl ?_
  refine sr_iload_n hA si_153_23 rfl ?_
  refine sr_ialdNv (v := nI z) (n := 4) hA si_153_24 (by decide) rfl rfl (by omega) (by decide) (hT.rb h1_.1).2.2.1 ?_
  refine sr_icmp_geN (tgt := 86) hA si_153_25 (by decide) (by omega) (by omega) (fun c1 => absurd c1 (by omega)) (fun c1 => ?_)
  refine sr_aload_n hA si_153_28 rfl ?_
  refine sr_iload_n hA si_153_29 rfl ?_
  refine sr_aload_n hA si_153_30 rfl ?_
  refine sr_getIv (v := nI b) hA si_153_31 sf_153_111 (by decide) (by decide) rfl (by decide) h1_.2.1 ?_
  refine sr_VFi (c := 64) (ci := 8) (as := [.int (nI t), .int (nI b)]) (st := []) hA si_153_34 sv_154 sk_153_114 (by have h := (hT.rb h1_.1).bt (X := X) (p := b) (by omega); rw [hpe] at h; exact h) (by omega) rfl (by decide) (by decide) rfl sq_c_154 rfl (Nat.le_of_ble_eq_true rfl) ?_
  refine sr_bipush (v := nI 32) hA si_153_37 (by decide) ?_
  refine sr_icmp_neN (tgt := 55) hA si_153_39 (by decide) (by omega) (by omega) (fun c2 => ?_) (fun c2 => absurd c2 (by omega))
  refine sr_aload_n hA si_153_55 rfl ?_
  refine sr_getIv (v := nI 0) hA si_153_56 sf_153_124 (by decide) (by decide) rfl (by decide) h1_.2.2.1 ?_
  refine sr_if_neN (tgt := 73) hA si_153_59 (by decide) (by omega) (fun c3 => absurd c3 (by omega)) (fun c3 => ?_)
  refine sr_aload_n hA si_153_62 rfl ?_
  refine sr_iload_n hA si_153_63 rfl ?_
  refine sr_VFi (c := 64) (ci := 8) (as := [.int (nI t)]) (st := []) hA si_153_64 sv_155 sk_153_133 (mc_rsG X gg (hT.rb h1_.1) (p := b) h1_.2.1 (by omega) hpe hs1 hdg) (by omega) rfl (by decide) (by decide) rfl sq_c_155 rfl (Nat.le_of_ble_eq_true rfl) ?_
  refine sr_if_eqN (tgt := 81) hA si_153_67 (by decide) (by omega) (fun c4 => absurd c4 (by omega)) (fun c4 => ?_)
  refine sr_goto (tgt := 15) hA si_153_70 (by decide) ?_
  exact ml_fkB hT hs1 hs9 (p := b + 2) (by omega) hg hi6 hend heb hbad0 hA i0 0 (b + 2) _ (by omega) rfl (by omega) ⟨(((h1_.1.wI (by omega)).wI (by omega)).wI (by omega)).wI (by omega), rfl, rfl, h1_.2.2.2.1, fun j hj => absurd hj (by omega)⟩
set_option maxRecDepth 20000 in
theorem mc_faultA (X : sp_X) (g : sp_G) {t z b : Nat} {f : Nat → Int32} (hT : sp_TM t z f g) (hb0 : sp_bl0 f z 0 = b) (hbz : b = z) : sp_Ct X 4 153 [.ref 64, .int (nI t)] g (sp_Ri (fun x g' => x = nI z ∧ sp_rb g g')) := by
  obtain ⟨ht, hz, -, -⟩ := id hT
  refine sp_walkN (n := 2) sq_p_153 sq_l_153 (Nat.le_of_ble_eq_true rfl) (fun ac hA => ?_)
  show sp_Ev X ac 153 0 [.ref 64, .int (nI t)] [] g
  refine sr_aload_n hA si_153_0 rfl ?_
  refine sr_iconst (v := nI 0) hA si_153_1 (by decide) ?_
  refine sr_putI hA si_153_2 sf_153_111 rfl rfl (by decide) (by decide) rfl rfl ?_
  refine sr_aload_n hA si_153_5 rfl ?_
  refine sr_iconst (v := nI 0) hA si_153_6 (by decide) ?_
  refine sr_putI hA si_153_7 sf_153_124 rfl rfl (by decide) (by decide) rfl rfl ?_
  refine sr_aload_n hA si_153_10 rfl ?_
  refine sr_iconst (v := nI 0) hA si_153_11 (by decide) ?_
  refine sr_putI hA si_153_12 sf_153_130 rfl rfl (by decide) (by decide) rfl rfl ?_
  refine ml_fb (s := 0) (i := 0) (D := fun _ => (0, 0, 0, 0, 0)) hT hA (by omega) z 0 _ (by omega) ⟨(((sp_rb.rf.wI (by omega)).wI (by omega)).wI (by omega)), rfl, rfl, rfl, fun j hj => absurd hj (by omega)⟩ (fun gg h1_ => ?_)
  rw [show sp_sb f z 0 = b from hb0] at h1_
  refine sr_aload_n hA si_153_15 rfl ?_
  refine sr_getIv (v := nI b) hA si_153_16 sf_153_111 (by decide) (by decide) rfl (by decide) h1_.2.1 ?_
  refine sr_aload_n hA si_153_19 rfl ?_
  refine sr_getR (r := 69) hA si_153_20 sf_153_26 (by decide) (by decide) rfl rfl rfl ?_
  refine sr_iload_n hA si_153_23 rfl ?_
  refine sr_ialdNv (v := nI z) (n := 4) hA si_153_24 (by decide) rfl rfl (by omega) (by decide) (hT.rb h1_.1).2.2.1 ?_
  refine sr_icmp_geN (tgt := 86) hA si_153_25 (by decide) (by omega) (by omega) (fun c1 => ?_) (fun c1 => absurd c1 (by omega))
  refine sr_aload_n hA si_153_86 rfl ?_
  refine sr_getIv (v := nI 0) hA si_153_87 sf_153_124 (by decide) (by decide) rfl (by decide) h1_.2.2.1 ?_
  refine sr_if_neN (tgt := 102) hA si_153_90 (by decide) (by omega) (fun c2 => absurd c2 (by omega)) (fun c2 => ?_)
  refine sr_aload_n hA si_153_93 rfl ?_
  refine sr_getR (r := 69) hA si_153_94 sf_153_26 (by decide) (by decide) rfl rfl rfl ?_
  refine sr_iload_n hA si_153_97 rfl ?_
  refine sr_ialdNv (v := nI z) (n := 4) hA si_153_98 (by decide) rfl rfl (by omega) (by decide) (hT.rb h1_.1).2.2.1 ?_
  refine sr_goto (tgt := 104) hA si_153_99 (by decide) ?_
  exact sr_iretR hA si_153_104 sq_r_153 ⟨rfl, h1_.1⟩
set_option maxRecDepth 20000 in
theorem mc_faultB (X : sp_X) (g : sp_G) {t z b : Nat} {f : Nat → Int32} (hT : sp_TM t z f g) (hb0 : sp_bl0 f z 0 = b) (hbz : b < z) (hne : f b ≠ nI 112) : sp_Ct X 4 153 [.ref 64, .int (nI t)] g (sp_Ri (fun x g' => x = nI b ∧ sp_rb g g')) := by
  obtain ⟨ht, hz, -, -⟩ := id hT
  refine sp_walkN (n := 2) sq_p_153 sq_l_153 (Nat.le_of_ble_eq_true rfl) (fun ac hA => ?_)
  show sp_Ev X ac 153 0 [.ref 64, .int (nI t)] [] g
  refine sr_aload_n hA si_153_0 rfl ?_
  refine sr_iconst (v := nI 0) hA si_153_1 (by decide) ?_
  refine sr_putI hA si_153_2 sf_153_111 rfl rfl (by decide) (by decide) rfl rfl ?_
  refine sr_aload_n hA si_153_5 rfl ?_
  refine sr_iconst (v := nI 0) hA si_153_6 (by decide) ?_
  refine sr_putI hA si_153_7 sf_153_124 rfl rfl (by decide) (by decide) rfl rfl ?_
  refine sr_aload_n hA si_153_10 rfl ?_
  refine sr_iconst (v := nI 0) hA si_153_11 (by decide) ?_
  refine sr_putI hA si_153_12 sf_153_130 rfl rfl (by decide) (by decide) rfl rfl ?_
  refine ml_fb (s := 0) (i := 0) (D := fun _ => (0, 0, 0, 0, 0)) hT hA (by omega) z 0 _ (by omega) ⟨(((sp_rb.rf.wI (by omega)).wI (by omega)).wI (by omega)), rfl, rfl, rfl, fun j hj => absurd hj (by omega)⟩ (fun gg h1_ => ?_)
  rw [show sp_sb f z 0 = b from hb0] at h1_
  refine sr_aload_n hA si_153_15 rfl ?_
  refine sr_getIv (v := nI b) hA si_153_16 sf_153_111 (by decide) (by decide) rfl (by decide) h1_.2.1 ?_
  refine sr_aload_n hA si_153_19 rfl ?_
  refine sr_getR (r := 69) hA si_153_20 sf_153_26 (by decide) (by decide) rfl rfl rfl ?_
  refine sr_iload_n hA si_153_23 rfl ?_
  refine sr_ialdNv (v := nI z) (n := 4) hA si_153_24 (by decide) rfl rfl (by omega) (by decide) (hT.rb h1_.1).2.2.1 ?_
  refine sr_icmp_geN (tgt := 86) hA si_153_25 (by decide) (by omega) (by omega) (fun c1 => absurd c1 (by omega)) (fun c1 => ?_)
  refine sr_aload_n hA si_153_28 rfl ?_
  refine sr_iload_n hA si_153_29 rfl ?_
  refine sr_aload_n hA si_153_30 rfl ?_
  refine sr_getIv (v := nI b) hA si_153_31 sf_153_111 (by decide) (by decide) rfl (by decide) h1_.2.1 ?_
  refine sr_VFi (c := 64) (ci := 8) (as := [.int (nI t), .int (nI b)]) (st := []) hA si_153_34 sv_154 sk_153_114 ((hT.rb h1_.1).bt (X := X) (p := b) (by omega)) (by omega) rfl (by decide) (by decide) rfl sq_c_154 rfl (Nat.le_of_ble_eq_true rfl) ?_
  refine sr_bipush (v := nI 32) hA si_153_37 (by decide) ?_
  refine sr_icmp_ne (tgt := 55) hA si_153_39 (by decide) (fun c2 => ?_) (fun c2 => absurd c2 (by have := (sp_bl0_in (f := f) (z := z) (p := 0) (by omega)).2.2; rw [hb0] at this; exact this hbz))
  refine sr_aload_n hA si_153_55 rfl ?_
  refine sr_getIv (v := nI 0) hA si_153_56 sf_153_124 (by decide) (by decide) rfl (by decide) h1_.2.2.1 ?_
  refine sr_if_neN (tgt := 73) hA si_153_59 (by decide) (by omega) (fun c3 => absurd c3 (by omega)) (fun c3 => ?_)
  refine sr_aload_n hA si_153_62 rfl ?_
  refine sr_iload_n hA si_153_63 rfl ?_
  refine sr_VFi (c := 64) (ci := 8) (as := [.int (nI t)]) (st := []) hA si_153_64 sv_155 sk_153_133 (mc_rsN X gg (hT.rb h1_.1) (p := b) h1_.2.1 (by omega) hne) (by omega) rfl (by decide) (by decide) rfl sq_c_155 rfl (Nat.le_of_ble_eq_true rfl) ?_
  refine sr_if_eqN (tgt := 81) hA si_153_67 (by decide) (by omega) (fun c4 => ?_) (fun c4 => absurd c4 (by omega))
  refine sr_aload_n hA si_153_81 rfl ?_
  refine sr_getIv (v := nI b) hA si_153_82 sf_153_111 (by decide) (by decide) rfl (by decide) h1_.2.1 ?_
  exact sr_iretR hA si_153_85 sq_r_153 ⟨rfl, h1_.1⟩
set_option maxRecDepth 20000 in
theorem mc_faultC (X : sp_X) (g : sp_G) {t z b : Nat} {f : Nat → Int32} (hT : sp_TM t z f g) (hb0 : sp_bl0 f z 0 = b) (hbz : b < z) (hpe : f b = nI 112) (hbad : sp_bf f z (b + 1) 1) : sp_Ct X 4 153 [.ref 64, .int (nI t)] g (sp_Ri (fun x g' => x = nI (b + 1) ∧ sp_rb g g')) := by
  obtain ⟨ht, hz, -, -⟩ := id hT
  refine sp_walkN (n := 2) sq_p_153 sq_l_153 (Nat.le_of_ble_eq_true rfl) (fun ac hA => ?_)
  show sp_Ev X ac 153 0 [.ref 64, .int (nI t)] [] g
  refine sr_aload_n hA si_153_0 rfl ?_
  refine sr_iconst (v := nI 0) hA si_153_1 (by decide) ?_
  refine sr_putI hA si_153_2 sf_153_111 rfl rfl (by decide) (by decide) rfl rfl ?_
  refine sr_aload_n hA si_153_5 rfl ?_
  refine sr_iconst (v := nI 0) hA si_153_6 (by decide) ?_
  refine sr_putI hA si_153_7 sf_153_124 rfl rfl (by decide) (by decide) rfl rfl ?_
  refine sr_aload_n hA si_153_10 rfl ?_
  refine sr_iconst (v := nI 0) hA si_153_11 (by decide) ?_
  refine sr_putI hA si_153_12 sf_153_130 rfl rfl (by decide) (by decide) rfl rfl ?_
  refine ml_fb (s := 0) (i := 0) (D := fun _ => (0, 0, 0, 0, 0)) hT hA (by omega) z 0 _ (by omega) ⟨(((sp_rb.rf.wI (by omega)).wI (by omega)).wI (by omega)), rfl, rfl, rfl, fun j hj => absurd hj (by omega)⟩ (fun gg h1_ => ?_)
  rw [show sp_sb f z 0 = b from hb0] at h1_
  refine sr_aload_n hA si_153_15 rfl ?_
  refine sr_getIv (v := nI b) hA si_153_16 sf_153_111 (by decide) (by decide) rfl (by decide) h1_.2.1 ?_
  refine sr_aload_n hA si_153_19 rfl ?_
  refine sr_getR (r := 69) hA si_153_20 sf_153_26 (by decide) (by decide) rfl rfl rfl ?_
  refine sr_iload_n hA si_153_23 rfl ?_
  refine sr_ialdNv (v := nI z) (n := 4) hA si_153_24 (by decide) rfl rfl (by omega) (by decide) (hT.rb h1_.1).2.2.1 ?_
  refine sr_icmp_geN (tgt := 86) hA si_153_25 (by decide) (by omega) (by omega) (fun c1 => absurd c1 (by omega)) (fun c1 => ?_)
  refine sr_aload_n hA si_153_28 rfl ?_
  refine sr_iload_n hA si_153_29 rfl ?_
  refine sr_aload_n hA si_153_30 rfl ?_
  refine sr_getIv (v := nI b) hA si_153_31 sf_153_111 (by decide) (by decide) rfl (by decide) h1_.2.1 ?_
  refine sr_VFi (c := 64) (ci := 8) (as := [.int (nI t), .int (nI b)]) (st := []) hA si_153_34 sv_154 sk_153_114 (by have h := (hT.rb h1_.1).bt (X := X) (p := b) (by omega); rw [hpe] at h; exact h) (by omega) rfl (by decide) (by decide) rfl sq_c_154 rfl (Nat.le_of_ble_eq_true rfl) ?_
  refine sr_bipush (v := nI 32) hA si_153_37 (by decide) ?_
  refine sr_icmp_neN (tgt := 55) hA si_153_39 (by decide) (by omega) (by omega) (fun c2 => ?_) (fun c2 => absurd c2 (by omega))
  refine sr_aload_n hA si_153_55 rfl ?_
  refine sr_getIv (v := nI 0) hA si_153_56 sf_153_124 (by decide) (by decide) rfl (by decide) h1_.2.2.1 ?_
  refine sr_if_neN (tgt := 73) hA si_153_59 (by decide) (by omega) (fun c3 => absurd c3 (by omega)) (fun c3 => ?_)
  refine sr_aload_n hA si_153_62 rfl ?_
  refine sr_iload_n hA si_153_63 rfl ?_
  refine sr_VRi (c := 64) (ci := 8) (as := [.int (nI t)]) (st := []) hA si_153_64 sv_155 sk_153_133 (mc_rsB X gg (hT.rb h1_.1) (p := b) h1_.2.1 (by omega) hpe hbad) (by omega) rfl (by decide) (by decide) rfl sq_c_155 rfl (Nat.le_of_ble_eq_true rfl) (fun xv gx qx => ?_)
  obtain ⟨exv, qx, qy⟩ := qx
  subst exv
  refine sr_if_eqN (tgt := 81) hA si_153_67 (by decide) (by omega) (fun c4 => ?_) (fun c4 => absurd c4 (by omega))
  refine sr_aload_n hA si_153_81 rfl ?_
  refine sr_getIv (v := nI (b + 1)) hA si_153_82 sf_153_111 (by decide) (by decide) rfl (by decide) qy ?_
  exact sr_iretR hA si_153_85 sq_r_153 ⟨rfl, h1_.1.tr qx⟩
theorem mc_faultF (X : sp_X) (g : sp_G) {t z e : Nat} {f : Nat → Int32} (hT : sp_TM t z f g) (h : sp_hb f z e) : sp_Ct X 4 153 [.ref 64, .int (nI t)] g (sp_Ri (fun x g' => x = nI e ∧ sp_rb g g')) := by
  rcases h with ⟨h1, rfl⟩ | ⟨h1, h2, rfl⟩ | ⟨h1, h2, rfl, h3⟩
  · exact mc_faultA X g hT rfl h1
  · exact mc_faultB X g hT rfl h1 h2
  · refine mc_faultC X g hT rfl h1 h2 ?_
    rcases h3 with h3 | ⟨h3, h4 | h4⟩
    · exact Or.inl (by omega)
    · exact Or.inr ⟨h3, Or.inl h4⟩
    · exact Or.inr ⟨h3, Or.inr ⟨0, by omega, h4⟩⟩
