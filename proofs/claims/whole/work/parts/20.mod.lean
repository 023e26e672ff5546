set_option maxRecDepth 20000 in
theorem mc_in (X : sp_X) (g : sp_G) (v l h : Int32) : sp_Ct X 0 135 [.int v, .int l, .int h] g (sp_Fi (if l ≤ v ∧ v ≤ h then 1 else 0) g) := by
  refine sp_walkN (n := 3) sq_p_135 sq_l_135 (Nat.le_of_ble_eq_true rfl) (fun a hA => ?_)
  show sp_Ev X a 135 0 [.int v, .int l, .int h] [] g
  refine sr_iload_n hA si_135_0 rfl ?_
  refine sr_iload_n hA si_135_1 rfl ?_
  refine sr_icmp_lt (tgt := 14) hA si_135_2 (by decide) (fun c1 => ?_) (fun c1 => ?_)
  · refine sr_iconst (v := nI 0) hA si_135_14 (by decide) ?_
    exact sr_zretF hA si_135_15 sq_r_135 (by decide) (by rw [if_neg (fun q => absurd c1 (Int32.not_lt.mpr q.1))]; rfl) rfl
  · refine sr_iload_n hA si_135_5 rfl ?_
    refine sr_iload_n hA si_135_6 rfl ?_
    refine sr_icmp_gt (tgt := 14) hA si_135_7 (by decide) (fun c2 => ?_) (fun c2 => ?_)
    · refine sr_iconst (v := nI 0) hA si_135_14 (by decide) ?_
      exact sr_zretF hA si_135_15 sq_r_135 (by decide) (by rw [if_neg (fun q => absurd c2 (Int32.not_lt.mpr q.2))]; rfl) rfl
    · refine sr_iconst (v := nI 1) hA si_135_10 (by decide) ?_
      refine sr_goto (tgt := 15) hA si_135_11 (by decide) ?_
      exact sr_zretF hA si_135_15 sq_r_135 (by decide) (by rw [if_pos ⟨Int32.not_lt.mp c1, Int32.not_lt.mp c2⟩]; rfl) rfl
theorem mc_in1 (X : sp_X) (g : sp_G) {v l h : Int32} (h1 : l ≤ v) (h2 : v ≤ h) : sp_Ct X 0 135 [.int v, .int l, .int h] g (sp_Fi (nI 1) g) := by
  have := mc_in X g v l h
  rwa [if_pos ⟨h1, h2⟩] at this
theorem mc_in0 (X : sp_X) (g : sp_G) {v l h : Int32} (h1 : ¬ (l ≤ v ∧ v ≤ h)) : sp_Ct X 0 135 [.int v, .int l, .int h] g (sp_Fi (nI 0) g) := by
  have := mc_in X g v l h
  rwa [if_neg h1] at this
theorem mc_inN (X : sp_X) (g : sp_G) {v l h : Nat} (h1 : l ≤ v) (h2 : v ≤ h) (h3 : h < 2 ^ 31) : sp_Ct X 0 135 [.int (nI v), .int (nI l), .int (nI h)] g (sp_Fi (nI 1) g) := mc_in1 X g (nI_le h1 (by omega)) (nI_le h2 h3)
theorem mc_inL (X : sp_X) (g : sp_G) {v l h : Nat} (h1 : v < l) (h3 : l < 2 ^ 31) : sp_Ct X 0 135 [.int (nI v), .int (nI l), .int (nI h)] g (sp_Fi (nI 0) g) := mc_in0 X g (fun q => nI_ge h1 h3 q.1)
theorem mc_inH (X : sp_X) (g : sp_G) {v l h : Nat} (h1 : h < v) (h3 : v < 2 ^ 31) : sp_Ct X 0 135 [.int (nI v), .int (nI l), .int (nI h)] g (sp_Fi (nI 0) g) := mc_in0 X g (fun q => nI_ge h1 h3 q.2)
theorem mc_inM (X : sp_X) (g : sp_G) {v h : Int32} {l : Nat} (h1 : v < 0) (h3 : l < 2 ^ 31) : sp_Ct X 0 135 [.int v, .int (nI l), .int h] g (sp_Fi (nI 0) g) := mc_in0 X g (fun q => sp_n4 h1 h3 q.1)
set_option maxRecDepth 20000 in
theorem mc_isRow1 (X : sp_X) (g : sp_G) {k : Nat} (hk : k < 6) : sp_Ct X 1 140 [.int (nI k)] g (sp_Fi (nI 1) g) := by
  refine sp_walkN (n := 1) sq_p_140 sq_l_140 (Nat.le_of_ble_eq_true rfl) (fun a hA => ?_)
  show sp_Ev X a 140 0 [.int (nI k)] [] g
  refine sr_iload_n hA si_140_0 rfl ?_
  refine sr_iconst (v := nI 0) hA si_140_1 (by decide) ?_
  refine sr_iconst (v := nI 5) hA si_140_2 (by decide) ?_
  refine sr_SFi (as := [.int (nI k), .int (nI 0), .int (nI 5)]) (st := []) hA si_140_3 ss_135 sk_140_83 (mc_inN X g (by omega) (by omega) (by omega)) (by omega) rfl rfl (Nat.le_of_ble_eq_true rfl) ?_
  exact sr_zretF hA si_140_6 sq_r_140 (by decide) rfl rfl
set_option maxRecDepth 20000 in
theorem mc_isRowH (X : sp_X) (g : sp_G) {k : Nat} (hk : 5 < k) (hb : k < 2 ^ 31) : sp_Ct X 1 140 [.int (nI k)] g (sp_Fi (nI 0) g) := by
  refine sp_walkN (n := 1) sq_p_140 sq_l_140 (Nat.le_of_ble_eq_true rfl) (fun a hA => ?_)
  show sp_Ev X a 140 0 [.int (nI k)] [] g
  refine sr_iload_n hA si_140_0 rfl ?_
  refine sr_iconst (v := nI 0) hA si_140_1 (by decide) ?_
  refine sr_iconst (v := nI 5) hA si_140_2 (by decide) ?_
  refine sr_SFi (as := [.int (nI k), .int (nI 0), .int (nI 5)]) (st := []) hA si_140_3 ss_135 sk_140_83 (mc_inH X g hk hb) (by omega) rfl rfl (Nat.le_of_ble_eq_true rfl) ?_
  exact sr_zretF hA si_140_6 sq_r_140 (by decide) rfl rfl
set_option maxRecDepth 20000 in
theorem mc_isRowM (X : sp_X) (g : sp_G) {x : Int32} (hx : x < 0) : sp_Ct X 1 140 [.int x] g (sp_Fi (nI 0) g) := by
  refine sp_walkN (n := 1) sq_p_140 sq_l_140 (Nat.le_of_ble_eq_true rfl) (fun a hA => ?_)
  show sp_Ev X a 140 0 [.int x] [] g
  refine sr_iload_n hA si_140_0 rfl ?_
  refine sr_iconst (v := nI 0) hA si_140_1 (by decide) ?_
  refine sr_iconst (v := nI 5) hA si_140_2 (by decide) ?_
  refine sr_SFi (as := [.int x, .int (nI 0), .int (nI 5)]) (st := []) hA si_140_3 ss_135 sk_140_83 (mc_inM X g hx (by omega)) (by omega) rfl rfl (Nat.le_of_ble_eq_true rfl) ?_
  exact sr_zretF hA si_140_6 sq_r_140 (by decide) rfl rfl
set_option maxRecDepth 20000 in
theorem mc_isText1 (X : sp_X) (g : sp_G) {k : Nat} (hk : k < 4) : sp_Ct X 1 150 [.int (nI k)] g (sp_Fi (nI 1) g) := by
  refine sp_walkN (n := 1) sq_p_150 sq_l_150 (Nat.le_of_ble_eq_true rfl) (fun a hA => ?_)
  show sp_Ev X a 150 0 [.int (nI k)] [] g
  refine sr_iload_n hA si_150_0 rfl ?_
  refine sr_iconst (v := nI 0) hA si_150_1 (by decide) ?_
  refine sr_iconst (v := nI 3) hA si_150_2 (by decide) ?_
  refine sr_SFi (as := [.int (nI k), .int (nI 0), .int (nI 3)]) (st := []) hA si_150_3 ss_135 sk_150_83 (mc_inN X g (by omega) (by omega) (by omega)) (by omega) rfl rfl (Nat.le_of_ble_eq_true rfl) ?_
  exact sr_zretF hA si_150_6 sq_r_150 (by decide) rfl rfl
set_option maxRecDepth 20000 in
theorem mc_isTextH (X : sp_X) (g : sp_G) {k : Nat} (hk : 3 < k) (hb : k < 2 ^ 31) : sp_Ct X 1 150 [.int (nI k)] g (sp_Fi (nI 0) g) := by
  refine sp_walkN (n := 1) sq_p_150 sq_l_150 (Nat.le_of_ble_eq_true rfl) (fun a hA => ?_)
  show sp_Ev X a 150 0 [.int (nI k)] [] g
  refine sr_iload_n hA si_150_0 rfl ?_
  refine sr_iconst (v := nI 0) hA si_150_1 (by decide) ?_
  refine sr_iconst (v := nI 3) hA si_150_2 (by decide) ?_
  refine sr_SFi (as := [.int (nI k), .int (nI 0), .int (nI 3)]) (st := []) hA si_150_3 ss_135 sk_150_83 (mc_inH X g hk hb) (by omega) rfl rfl (Nat.le_of_ble_eq_true rfl) ?_
  exact sr_zretF hA si_150_6 sq_r_150 (by decide) rfl rfl
set_option maxRecDepth 20000 in
theorem mc_isTextM (X : sp_X) (g : sp_G) {x : Int32} (hx : x < 0) : sp_Ct X 1 150 [.int x] g (sp_Fi (nI 0) g) := by
  refine sp_walkN (n := 1) sq_p_150 sq_l_150 (Nat.le_of_ble_eq_true rfl) (fun a hA => ?_)
  show sp_Ev X a 150 0 [.int x] [] g
  refine sr_iload_n hA si_150_0 rfl ?_
  refine sr_iconst (v := nI 0) hA si_150_1 (by decide) ?_
  refine sr_iconst (v := nI 3) hA si_150_2 (by decide) ?_
  refine sr_SFi (as := [.int x, .int (nI 0), .int (nI 3)]) (st := []) hA si_150_3 ss_135 sk_150_83 (mc_inM X g hx (by omega)) (by omega) rfl rfl (Nat.le_of_ble_eq_true rfl) ?_
  exact sr_zretF hA si_150_6 sq_r_150 (by decide) rfl rfl
theorem sp_nk {n k : Nat} (h : n ≤ k) (hb : k < 2 ^ 31) : ¬ nI k ≤ nI n - nI 1 := fun q => by
  rcases Nat.eq_zero_or_pos n with e | e
  · subst e
    have q := Int32.le_iff_toInt_le.mp q
    rw [sp_toI hb, show (nI 0 - nI 1).toInt = -1 from by decide] at q
    omega
  · rw [pk_sub e] at q
    exact nI_ge (by omega) hb q
set_option maxRecDepth 20000 in
theorem mc_isKey1 (X : sp_X) (g : sp_G) {k n : Nat} (hn : g.1 64 11 = nI n) (hk : k < n) (hb : n ≤ 6) : sp_Ct X 1 162 [.ref 64, .int (nI k)] g (sp_Fi (nI 1) g) := by
  refine sp_walkN (n := 2) sq_p_162 sq_l_162 (Nat.le_of_ble_eq_true rfl) (fun a hA => ?_)
  show sp_Ev X a 162 0 [.ref 64, .int (nI k)] [] g
  refine sr_iload_n hA si_162_0 rfl ?_
  refine sr_iconst (v := nI 0) hA si_162_1 (by decide) ?_
  refine sr_aload_n hA si_162_2 rfl ?_
  refine sr_getIv (v := nI n) hA si_162_3 sf_162_142 (by decide) (by decide) rfl (by decide) hn ?_
  refine sr_iconst (v := nI 1) hA si_162_6 (by decide) ?_
  refine sr_isubN hA si_162_7 (by omega) ?_
  refine sr_SFi (as := [.int (nI k), .int (nI 0), .int (nI (n - 1))]) (st := []) hA si_162_8 ss_135 sk_162_83 (mc_inN X g (by omega) (by omega) (by omega)) (by omega) rfl rfl (Nat.le_of_ble_eq_true rfl) ?_
  exact sr_zretF hA si_162_11 sq_r_162 (by decide) rfl rfl
set_option maxRecDepth 20000 in
theorem mc_isKeyH (X : sp_X) (g : sp_G) {k n : Nat} (hn : g.1 64 11 = nI n) (hk : n ≤ k) (hb : k < 2 ^ 31) : sp_Ct X 1 162 [.ref 64, .int (nI k)] g (sp_Fi (nI 0) g) := by
  refine sp_walkN (n := 2) sq_p_162 sq_l_162 (Nat.le_of_ble_eq_true rfl) (fun a hA => ?_)
  show sp_Ev X a 162 0 [.ref 64, .int (nI k)] [] g
  refine sr_iload_n hA si_162_0 rfl ?_
  refine sr_iconst (v := nI 0) hA si_162_1 (by decide) ?_
  refine sr_aload_n hA si_162_2 rfl ?_
  refine sr_getIv (v := nI n) hA si_162_3 sf_162_142 (by decide) (by decide) rfl (by decide) hn ?_
  refine sr_iconst (v := nI 1) hA si_162_6 (by decide) ?_
  refine sr_isub hA si_162_7 ?_
  refine sr_SFi (as := [.int (nI k), .int (nI 0), .int ((nI n) - (nI 1))]) (st := []) hA si_162_8 ss_135 sk_162_83 (mc_in0 X g (fun q => absurd q.2 (sp_nk hk hb))) (by omega) rfl rfl (Nat.le_of_ble_eq_true rfl) ?_
  exact sr_zretF hA si_162_11 sq_r_162 (by decide) rfl rfl
set_option maxRecDepth 20000 in
theorem mc_isKeyM (X : sp_X) (g : sp_G) {x : Int32} {n : Nat} (hn : g.1 64 11 = nI n) (hx : x < 0) : sp_Ct X 1 162 [.ref 64, .int x] g (sp_Fi (nI 0) g) := by
  refine sp_walkN (n := 2) sq_p_162 sq_l_162 (Nat.le_of_ble_eq_true rfl) (fun a hA => ?_)
  show sp_Ev X a 162 0 [.ref 64, .int x] [] g
  refine sr_iload_n hA si_162_0 rfl ?_
  refine sr_iconst (v := nI 0) hA si_162_1 (by decide) ?_
  refine sr_aload_n hA si_162_2 rfl ?_
  refine sr_getIv (v := nI n) hA si_162_3 sf_162_142 (by decide) (by decide) rfl (by decide) hn ?_
  refine sr_iconst (v := nI 1) hA si_162_6 (by decide) ?_
  refine sr_isub hA si_162_7 ?_
  refine sr_SFi (as := [.int x, .int (nI 0), .int ((nI n) - (nI 1))]) (st := []) hA si_162_8 ss_135 sk_162_83 (mc_inM X g hx (by omega)) (by omega) rfl rfl (Nat.le_of_ble_eq_true rfl) ?_
  exact sr_zretF hA si_162_11 sq_r_162 (by decide) rfl rfl
set_option maxRecDepth 20000 in
theorem mc_lesser (X : sp_X) (g : sp_G) (x y : Int32) : sp_Ct X 0 167 [.int x, .int y] g (sp_Fi (if x < y then x else y) g) := by
  refine sp_walkN (n := 2) sq_p_167 sq_l_167 (Nat.le_of_ble_eq_true rfl) (fun a hA => ?_)
  show sp_Ev X a 167 0 [.int x, .int y] [] g
  refine sr_iload_n hA si_167_0 rfl ?_
  refine sr_iload_n hA si_167_1 rfl ?_
  refine sr_icmp_ge (tgt := 9) hA si_167_2 (by decide) (fun c1 => ?_) (fun c1 => ?_)
  · refine sr_iload_n hA si_167_9 rfl ?_
    exact sr_iretF hA si_167_10 sq_r_167 (by rw [if_neg (Int32.not_lt.mpr c1)]) rfl
  · refine sr_iload_n hA si_167_5 rfl ?_
    refine sr_goto (tgt := 10) hA si_167_6 (by decide) ?_
    exact sr_iretF hA si_167_10 sq_r_167 (by rw [if_pos (Int32.not_le.mp c1)]) rfl
set_option maxRecDepth 20000 in
theorem mc_greater (X : sp_X) (g : sp_G) (x y : Int32) : sp_Ct X 0 168 [.int x, .int y] g (sp_Fi (if y < x then x else y) g) := by
  refine sp_walkN (n := 2) sq_p_168 sq_l_168 (Nat.le_of_ble_eq_true rfl) (fun a hA => ?_)
  show sp_Ev X a 168 0 [.int x, .int y] [] g
  refine sr_iload_n hA si_168_0 rfl ?_
  refine sr_iload_n hA si_168_1 rfl ?_
  refine sr_icmp_le (tgt := 9) hA si_168_2 (by decide) (fun c1 => ?_) (fun c1 => ?_)
  · refine sr_iload_n hA si_168_9 rfl ?_
    exact sr_iretF hA si_168_10 sq_r_168 (by rw [if_neg (Int32.not_lt.mpr c1)]) rfl
  · refine sr_iload_n hA si_168_5 rfl ?_
    refine sr_goto (tgt := 10) hA si_168_6 (by decide) ?_
    exact sr_iretF hA si_168_10 sq_r_168 (by rw [if_pos (Int32.not_le.mp c1)]) rfl
set_option maxRecDepth 20000 in
theorem mc_meets (X : sp_X) (g : sp_G) {f : Nat} (hf : f < 6) : sp_Ct X 0 141 [.ref 64, .int (nI f)] g (sp_Fi (-3) (sp_wI (sp_wI g 64 0 (nI f)) 65 f (g.1 65 f + nI 1))) := by
  refine sp_walkN (n := 2) sq_p_141 sq_l_141 (Nat.le_of_ble_eq_true rfl) (fun a hA => ?_)
  show sp_Ev X a 141 0 [.ref 64, .int (nI f)] [] g
  refine sr_aload_n hA si_141_0 rfl ?_
  refine sr_iload_n hA si_141_1 rfl ?_
  refine sr_putI hA si_141_2 sf_141_80 rfl rfl (by decide) (by decide) rfl rfl ?_
  refine sr_aload_n hA si_141_5 rfl ?_
  refine sr_getR (r := 65) hA si_141_6 sf_141_7 (by decide) (by decide) rfl rfl rfl ?_
  refine sr_iload_n hA si_141_9 rfl ?_
  refine sr_dup2 hA si_141_10 rfl rfl ?_
  refine sr_ialdNv (v := g.1 65 f) (n := 6) hA si_141_11 (by decide) rfl rfl (by omega) (by decide) rfl ?_
  refine sr_iconst (v := nI 1) hA si_141_12 (by decide) ?_
  refine sr_iadd hA si_141_13 ?_
  refine sr_iastN (n := 6) hA si_141_14 (by decide) rfl rfl (by omega) (by decide) ?_
  refine sr_bipush (v := (-3)) hA si_141_15 (by decide) ?_
  exact sr_iretF hA si_141_17 sq_r_141 rfl rfl
set_option maxRecDepth 20000 in
theorem mc_tells (X : sp_X) (g : sp_G) (v w : Int32) : sp_Ct X 0 144 [.ref 64, .int v, .int w] g (sp_Fi w (sp_wI g 64 2 v)) := by
  refine sp_walkN (n := 3) sq_p_144 sq_l_144 (Nat.le_of_ble_eq_true rfl) (fun a hA => ?_)
  show sp_Ev X a 144 0 [.ref 64, .int v, .int w] [] g
  refine sr_aload_n hA si_144_0 rfl ?_
  refine sr_iload_n hA si_144_1 rfl ?_
  refine sr_putI hA si_144_2 sf_144_87 rfl rfl (by decide) (by decide) rfl rfl ?_
  refine sr_iload_n hA si_144_5 rfl ?_
  exact sr_iretF hA si_144_6 sq_r_144 rfl rfl
set_option maxRecDepth 20000 in
theorem mc_rowAt (X : sp_X) (g : sp_G) {r i : Nat} (h : 40 * r + i < 240) : sp_Ct X 0 143 [.ref 64, .int (nI r), .int (nI i)] g (sp_Fi (g.1 67 (40 * r + i)) g) := by
  refine sp_walkN (n := 3) sq_p_143 sq_l_143 (Nat.le_of_ble_eq_true rfl) (fun a hA => ?_)
  show sp_Ev X a 143 0 [.ref 64, .int (nI r), .int (nI i)] [] g
  refine sr_aload_n hA si_143_0 rfl ?_
  refine sr_getR (r := 67) hA si_143_1 sf_143_20 (by decide) (by decide) rfl rfl rfl ?_
  refine sr_bipush (v := nI 40) hA si_143_4 (by decide) ?_
  refine sr_iload_n hA si_143_6 rfl ?_
  refine sr_imulN hA si_143_7 ?_
  refine sr_iload_n hA si_143_8 rfl ?_
  refine sr_iaddN hA si_143_9 ?_
  refine sr_ialdNv (v := g.1 67 ((40 * r) + i)) (n := 240) hA si_143_10 (by decide) rfl rfl (by omega) (by decide) rfl ?_
  exact sr_iretF hA si_143_11 sq_r_143 rfl rfl
set_option maxRecDepth 20000 in
theorem mc_byteAt1 (X : sp_X) (g : sp_G) {t i z : Nat} (hz : g.1 69 t = nI z) (ht : t < 4) (hi : i < z) (hb : z ≤ 60) : sp_Ct X 0 154 [.ref 64, .int (nI t), .int (nI i)] g (sp_Fi (g.1 70 (60 * t + i)) g) := by
  refine sp_walkN (n := 3) sq_p_154 sq_l_154 (Nat.le_of_ble_eq_true rfl) (fun a hA => ?_)
  show sp_Ev X a 154 0 [.ref 64, .int (nI t), .int (nI i)] [] g
  refine sr_iload_n hA si_154_0 rfl ?_
  refine sr_aload_n hA si_154_1 rfl ?_
  refine sr_getR (r := 69) hA si_154_2 sf_154_26 (by decide) (by decide) rfl rfl rfl ?_
  refine sr_iload_n hA si_154_5 rfl ?_
  refine sr_ialdNv (v := nI z) (n := 4) hA si_154_6 (by decide) rfl rfl (by omega) (by decide) hz ?_
  refine sr_icmp_geN (tgt := 24) hA si_154_7 (by decide) (by omega) (by omega) (fun c1 => absurd c1 (by omega)) (fun c1 => ?_)
  refine sr_aload_n hA si_154_10 rfl ?_
  refine sr_getR (r := 70) hA si_154_11 sf_154_29 (by decide) (by decide) rfl rfl rfl ?_
  refine sr_bipush (v := nI 60) hA si_154_14 (by decide) ?_
  refine sr_iload_n hA si_154_16 rfl ?_
  refine sr_imulN hA si_154_17 ?_
  refine sr_iload_n hA si_154_18 rfl ?_
  refine sr_iaddN hA si_154_19 ?_
  refine sr_baldNv (v := g.1 70 ((60 * t) + i)) (n := 240) hA si_154_20 (by decide) rfl rfl (by omega) (by decide) rfl ?_
  refine sr_goto (tgt := 25) hA si_154_21 (by decide) ?_
  exact sr_iretF hA si_154_25 sq_r_154 rfl rfl
set_option maxRecDepth 20000 in
theorem mc_byteAt0 (X : sp_X) (g : sp_G) {t i z : Nat} (hz : g.1 69 t = nI z) (ht : t < 4) (hi : z ≤ i) (hb : z ≤ 60) (hib : i < 2 ^ 31) : sp_Ct X 0 154 [.ref 64, .int (nI t), .int (nI i)] g (sp_Fi (nI 0) g) := by
  refine sp_walkN (n := 3) sq_p_154 sq_l_154 (Nat.le_of_ble_eq_true rfl) (fun a hA => ?_)
  show sp_Ev X a 154 0 [.ref 64, .int (nI t), .int (nI i)] [] g
  refine sr_iload_n hA si_154_0 rfl ?_
  refine sr_aload_n hA si_154_1 rfl ?_
  refine sr_getR (r := 69) hA si_154_2 sf_154_26 (by decide) (by decide) rfl rfl rfl ?_
  refine sr_iload_n hA si_154_5 rfl ?_
  refine sr_ialdNv (v := nI z) (n := 4) hA si_154_6 (by decide) rfl rfl (by omega) (by decide) hz ?_
  refine sr_icmp_geN (tgt := 24) hA si_154_7 (by decide) (by omega) (by omega) (fun c1 => ?_) (fun c1 => absurd c1 (by omega))
  refine sr_iconst (v := nI 0) hA si_154_24 (by decide) ?_
  exact sr_iretF hA si_154_25 sq_r_154 rfl rfl
set_option maxRecDepth 20000 in
theorem mc_v (X : sp_X) (g : sp_G) {f i : Nat} (h : 9 * f + i < 135) : sp_Ct X 0 164 [.ref 64, .int (nI f), .int (nI i)] g (sp_Fi (g.1 75 (9 * f + i)) g) := by
  refine sp_walkN (n := 3) sq_p_164 sq_l_164 (Nat.le_of_ble_eq_true rfl) (fun a hA => ?_)
  show sp_Ev X a 164 0 [.ref 64, .int (nI f), .int (nI i)] [] g
  refine sr_aload_n hA si_164_0 rfl ?_
  refine sr_getR (r := 75) hA si_164_1 sf_164_45 (by decide) (by decide) rfl rfl rfl ?_
  refine sr_bipush (v := nI 9) hA si_164_4 (by decide) ?_
  refine sr_iload_n hA si_164_6 rfl ?_
  refine sr_imulN hA si_164_7 ?_
  refine sr_iload_n hA si_164_8 rfl ?_
  refine sr_iaddN hA si_164_9 ?_
  refine sr_ialdNv (v := g.1 75 ((9 * f) + i)) (n := 135) hA si_164_10 (by decide) rfl rfl (by omega) (by decide) rfl ?_
  exact sr_iretF hA si_164_11 sq_r_164 rfl rfl
set_option maxRecDepth 20000 in
theorem mc_place (X : sp_X) (g : sp_G) {f i : Nat} (h : 9 * f + i < 135) (x : Int32) : sp_Ct X 0 160 [.ref 64, .int (nI f), .int (nI i), .int x] g (sp_Fv (sp_wI g 75 (9 * f + i) x)) := by
  refine sp_walkN (n := 4) sq_p_160 sq_l_160 (Nat.le_of_ble_eq_true rfl) (fun a hA => ?_)
  show sp_Ev X a 160 0 [.ref 64, .int (nI f), .int (nI i), .int x] [] g
  refine sr_aload_n hA si_160_0 rfl ?_
  refine sr_getR (r := 75) hA si_160_1 sf_160_45 (by decide) (by decide) rfl rfl rfl ?_
  refine sr_bipush (v := nI 9) hA si_160_4 (by decide) ?_
  refine sr_iload_n hA si_160_6 rfl ?_
  refine sr_imulN hA si_160_7 ?_
  refine sr_iload_n hA si_160_8 rfl ?_
  refine sr_iaddN hA si_160_9 ?_
  refine sr_iload_n hA si_160_10 rfl ?_
  refine sr_iastN (n := 135) hA si_160_11 (by decide) rfl rfl (by omega) (by decide) ?_
  exact sr_vretF hA si_160_12 sq_r_160 rfl
set_option maxRecDepth 20000 in
theorem mc_add (X : sp_X) (g : sp_G) {f i : Nat} (h : 9 * f + i < 135) (x : Int32) : sp_Ct X 0 178 [.ref 64, .int (nI f), .int (nI i), .int x] g (sp_Fv (sp_wI g 75 (9 * f + i) (g.1 75 (9 * f + i) + x))) := by
  refine sp_walkN (n := 4) sq_p_178 sq_l_178 (Nat.le_of_ble_eq_true rfl) (fun a hA => ?_)
  show sp_Ev X a 178 0 [.ref 64, .int (nI f), .int (nI i), .int x] [] g
  refine sr_aload_n hA si_178_0 rfl ?_
  refine sr_getR (r := 75) hA si_178_1 sf_178_45 (by decide) (by decide) rfl rfl rfl ?_
  refine sr_bipush (v := nI 9) hA si_178_4 (by decide) ?_
  refine sr_iload_n hA si_178_6 rfl ?_
  refine sr_imulN hA si_178_7 ?_
  refine sr_iload_n hA si_178_8 rfl ?_
  refine sr_iaddN hA si_178_9 ?_
  refine sr_dup2 hA si_178_10 rfl rfl ?_
  refine sr_ialdNv (v := g.1 75 ((9 * f) + i)) (n := 135) hA si_178_11 (by decide) rfl rfl (by omega) (by decide) rfl ?_
  refine sr_iload_n hA si_178_12 rfl ?_
  refine sr_iadd hA si_178_13 ?_
  refine sr_iastN (n := 135) hA si_178_14 (by decide) rfl rfl (by omega) (by decide) ?_
  exact sr_vretF hA si_178_15 sq_r_178 rfl
set_option maxRecDepth 20000 in
theorem mc_leftOf0 (X : sp_X) (g : sp_G)  : sp_Ct X 0 169 [.ref 64, .int (nI 0)] g (sp_Fi (nI 6) g) := by
  refine sp_walkN (n := 2) sq_p_169 sq_l_169 (Nat.le_of_ble_eq_true rfl) (fun a hA => ?_)
  show sp_Ev X a 169 0 [.ref 64, .int (nI 0)] [] g
  refine sr_iload_n hA si_169_0 rfl ?_
  refine sr_if_neN (tgt := 9) hA si_169_1 (by decide) (by omega) (fun c1 => absurd c1 (by omega)) (fun c1 => ?_)
  refine sr_bipush (v := nI 6) hA si_169_4 (by decide) ?_
  refine sr_goto (tgt := 12) hA si_169_6 (by decide) ?_
  exact sr_iretF hA si_169_12 sq_r_169 rfl rfl
set_option maxRecDepth 20000 in
theorem mc_leftOf (X : sp_X) (g : sp_G) {i : Nat} (h : 0 < i) (hb : i < 6) : sp_Ct X 0 169 [.ref 64, .int (nI i)] g (sp_Fi (nI (i - 1)) g) := by
  refine sp_walkN (n := 2) sq_p_169 sq_l_169 (Nat.le_of_ble_eq_true rfl) (fun a hA => ?_)
  show sp_Ev X a 169 0 [.ref 64, .int (nI i)] [] g
  refine sr_iload_n hA si_169_0 rfl ?_
  refine sr_if_neN (tgt := 9) hA si_169_1 (by decide) (by omega) (fun c1 => ?_) (fun c1 => absurd c1 (by omega))
  refine sr_iload_n hA si_169_9 rfl ?_
  refine sr_iconst (v := nI 1) hA si_169_10 (by decide) ?_
  refine sr_isubN hA si_169_11 (by omega) ?_
  exact sr_iretF hA si_169_12 sq_r_169 rfl rfl
set_option maxRecDepth 20000 in
theorem mc_rightOfL (X : sp_X) (g : sp_G) {i n : Nat} (hn : g.1 64 11 = nI n) (h : i + 1 = n) (hb : n ≤ 6) : sp_Ct X 0 176 [.ref 64, .int (nI i)] g (sp_Fi (nI 6) g) := by
  refine sp_walkN (n := 2) sq_p_176 sq_l_176 (Nat.le_of_ble_eq_true rfl) (fun a hA => ?_)
  show sp_Ev X a 176 0 [.ref 64, .int (nI i)] [] g
  refine sr_iload_n hA si_176_0 rfl ?_
  refine sr_aload_n hA si_176_1 rfl ?_
  refine sr_getIv (v := nI n) hA si_176_2 sf_176_142 (by decide) (by decide) rfl (by decide) hn ?_
  refine sr_iconst (v := nI 1) hA si_176_5 (by decide) ?_
  refine sr_isubN hA si_176_6 (by omega) ?_
  refine sr_icmp_neN (tgt := 15) hA si_176_7 (by decide) (by omega) (by omega) (fun c1 => absurd c1 (by omega)) (fun c1 => ?_)
  refine sr_bipush (v := nI 6) hA si_176_10 (by decide) ?_
  refine sr_goto (tgt := 18) hA si_176_12 (by decide) ?_
  exact sr_iretF hA si_176_18 sq_r_176 rfl rfl
set_option maxRecDepth 20000 in
theorem mc_rightOf (X : sp_X) (g : sp_G) {i n : Nat} (hn : g.1 64 11 = nI n) (h : i + 1 < n) (hb : n ≤ 6) : sp_Ct X 0 176 [.ref 64, .int (nI i)] g (sp_Fi (nI (i + 1)) g) := by
  refine sp_walkN (n := 2) sq_p_176 sq_l_176 (Nat.le_of_ble_eq_true rfl) (fun a hA => ?_)
  show sp_Ev X a 176 0 [.ref 64, .int (nI i)] [] g
  refine sr_iload_n hA si_176_0 rfl ?_
  refine sr_aload_n hA si_176_1 rfl ?_
  refine sr_getIv (v := nI n) hA si_176_2 sf_176_142 (by decide) (by decide) rfl (by decide) hn ?_
  refine sr_iconst (v := nI 1) hA si_176_5 (by decide) ?_
  refine sr_isubN hA si_176_6 (by omega) ?_
  refine sr_icmp_neN (tgt := 15) hA si_176_7 (by decide) (by omega) (by omega) (fun c1 => ?_) (fun c1 => absurd c1 (by omega))
  refine sr_iload_n hA si_176_15 rfl ?_
  refine sr_iconst (v := nI 1) hA si_176_16 (by decide) ?_
  refine sr_iaddN hA si_176_17 ?_
  exact sr_iretF hA si_176_18 sq_r_176 rfl rfl
