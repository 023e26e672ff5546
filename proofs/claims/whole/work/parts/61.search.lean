/-! searches: figures but for what was earned -/
def sp_h8 (g : sp_G) (s o : Nat) (v : Nat → Int32) : Prop := ∀ j, j < 8 → sp_sv g s o j = v j
def sp_f8 (g : sp_G) (f : Nat) (v : Nat → Int32) : Prop := ∀ j, j < 8 → sp_pv g f j = v j
theorem sp_h8.up {g : sp_G} {s o : Nat} {v : Nat → Int32} (h : sp_h8 g s o v) : sp_hS g s o (upd v 8 (g.1 s 3)) := fun j hj => by
  by_cases e : j = 8
  · subst e; rw [pk_us]; rfl
  · rw [pk_un e]; exact h j (by omega)
theorem sp_f8.up {g : sp_G} {f : Nat} {v : Nat → Int32} (h : sp_f8 g f v) : sp_hP g f (upd v 8 (g.1 75 (9 * f + 8))) := fun j hj => by
  by_cases e : j = 8
  · subst e; rw [pk_us]; rfl
  · rw [pk_un e]; exact h j (by omega)
theorem sp_hS.d8 {g : sp_G} {s o : Nat} {v : Nat → Int32} (h : sp_hS g s o v) : sp_h8 g s o v := fun j hj => h j (by omega)
theorem sp_hP.d8 {g : sp_G} {f : Nat} {v : Nat → Int32} (h : sp_hP g f v) : sp_f8 g f v := fun j hj => h j (by omega)
theorem sp_mv8 {v w : Nat → Int32} (h : ∀ i, i < 8 → v i = w i) {fr to : Nat} (hf : fr < 8) (ht : to < 8) (m : Int32) : ∀ i, i < 8 → sp_mv v fr to m i = sp_mv w fr to m i := fun i hi => by
  unfold sp_mv upd
  rw [h fr hf, h to ht, h i hi]
theorem sp_lf8 {i : Nat} (h : i < 6) : sp_lf i < 8 := by unfold sp_lf; split <;> omega
theorem sp_rg8 {n i : Nat} (h : i < 6) : sp_rg n i < 8 := by unfold sp_rg; split <;> omega
theorem sp_ef8 {v w : Nat → Int32} (h : ∀ i, i < 8 → v i = w i) (n : Nat) (k : Int32) {i : Nat} (hi : i < 6) : ∀ j, j < 8 → sp_ef n k i v j = sp_ef n k i w j := fun j hj => by
  unfold sp_ef
  split
  · exact sp_mv8 h (by omega) (sp_rg8 hi) _ j hj
  split
  · exact sp_mv8 h (by omega) (sp_lf8 hi) _ j hj
  split
  · exact sp_mv8 h (sp_lf8 hi) (by omega) _ j hj
  split
  · exact sp_mv8 (sp_mv8 h (by omega) (sp_lf8 hi) _) (by omega) (sp_rg8 hi) _ j hj
  · exact h j hj
theorem sp_pl8 {v w : Nat → Int32} (h : ∀ i, i < 8 → v i = w i) (n : Nat) (K P : Nat → Int32) {i : Nat} (hi : i < 6) : ∀ j, j < 8 → sp_pl n K P v i j = sp_pl n K P w i j := fun j hj => by
  unfold sp_pl
  rw [pk_un (by omega), pk_un (by omega)]
  exact sp_ef8 h n (K i) hi j hj
theorem sp_mv_8 {v : Nat → Int32} {fr to : Nat} (hf : fr < 8) (ht : to < 8) (m : Int32) : sp_mv v fr to m 8 = v 8 := by
  unfold sp_mv
  rw [pk_un (by omega), pk_un (by omega)]
theorem sp_pl_8 {v : Nat → Int32} {n : Nat} {K P : Nat → Int32} {i : Nat} (hi : i < 6) : sp_pl n K P v i 8 = v 8 + P i := by
  unfold sp_pl
  rw [pk_us]
  congr 1
  unfold sp_ef
  split
  · exact sp_mv_8 (by omega) (sp_rg8 hi) _
  split
  · exact sp_mv_8 (by omega) (sp_lf8 hi) _
  split
  · exact sp_mv_8 (sp_lf8 hi) (by omega) _
  split
  · rw [sp_mv_8 (by omega) (sp_rg8 hi), sp_mv_8 (by omega) (sp_lf8 hi)]
  · rfl
theorem sp_oB.c8 {n A B : Nat} {v w : Nat → Int32} (h : sp_oB n A B v) (e : ∀ i, i < 8 → w i = v i) : sp_oB n A B w := by
  obtain ⟨h1, h2, h3⟩ := h
  exact ⟨fun i hi => by rw [e i (by omega)]; exact h1 i hi, by rw [e 6 (by omega)]; exact h2, fun i h4 h5 => by rw [e i (by omega)]; exact h3 i h4 h5⟩
theorem sp_u8 {v : Nat → Int32} {x : Int32} : ∀ i, i < 8 → upd v 8 x i = v i := fun i hi => pk_un (by omega)
theorem sp_set8 {n : Nat} {K T v w : Nat → Int32} (hn : n ≤ 6) (h : ∀ i, i < 8 → v i = w i) : sp_set n K T v = sp_set n K T w := sp_st_c (fun i hi => by rw [h i (by omega)])
theorem sp_pp8 {n : Nat} {K T P f : Nat → Int32} (hn : n ≤ 6) : ∀ (m i : Nat) (v w : Nat → Int32), sp_ks f n (i + m) → (∀ j, j < 8 → v j = w j) → (sp_pp n K T P f m v i).1 = (sp_pp n K T P f m w i).1
  | 0, i, v, w, _, hv => rfl
  | m + 1, i, v, w, hf, hv => by
    obtain ⟨a, ha, ea⟩ := hf i (by omega)
    unfold sp_pp
    rw [ea, nI_clamp (by omega), hv a (by omega)]
    split
    · exact sp_pp8 hn m (i + 1) _ _ (by rw [show i + 1 + m = i + (m + 1) by omega]; exact hf) (sp_pl8 hv n K P (by omega))
    · rfl
/-! the class's -/
theorem xb_take (X : sp_X) (g : sp_G) {s o t p : Nat} {v : Nat → Int32} (hs : sp_sd s o) (ht : sp_sd t p) (ha : sp_ap s o t p) (hv : sp_h8 g t p v) : sp_Ct X 1 39 [.ref s, .ref t] g (sp_Rv (fun g' => sp_sx s o g g' ∧ sp_h8 g' s o v ∧ g'.1 s 3 = g.1 t 3)) :=
  (xa_take X g hs ht ha hv.up).mono (fun r g' q => ⟨q.1, q.2.1, fun j hj => by rw [q.2.2 j (by omega), sp_u8 j hj], by have := q.2.2 8 (by omega); rw [pk_us] at this; exact this⟩)
theorem xb_sound (X : sp_X) (g : sp_G) {s o i n A B : Nat} {K T P v : Nat → Int32} (hs : sp_sd s o) (hK : sp_KX n K T P g) (hi : i < n) (hv : sp_h8 g s o v) (hB : sp_oB n A B v) (hBb : B < 2 ^ 29) : sp_Ct X 2 55 [.ref 18, .int (nI i), .ref s] g (sp_Rv (fun g' => sp_sx s o g g' ∧ sp_h8 g' s o (sp_pl n K P v i) ∧ g'.1 s 3 = g.1 s 3 + P i)) :=
  (xa_sound X g hs hK hi hv.up (hB.c8 sp_u8) hBb).mono (fun r g' q => ⟨q.1, q.2.1, fun j hj => by rw [q.2.2 j (by omega)]; exact sp_pl8 sp_u8 n K P (by have := hK.2.1; omega) j hj, by have := q.2.2 8 (by omega); rw [sp_pl_8 (by have := hK.2.1; omega), pk_us] at this; exact this⟩)
theorem xb_bears1 (X : sp_X) (g : sp_G) {s o i n : Nat} {K T P v : Nat → Int32} (hs : sp_sd s o) (hK : sp_KX n K T P g) (hi : i < n) (hv : sp_h8 g s o v) (h : sp_cb (K i) (T i) (v i) = true) : sp_Ct X 0 45 [.ref 18, .int (nI i), .ref s] g (sp_Fi (nI 1) g) := xa_bears1 X g hs hK hi hv.up (by rw [sp_u8 i (by have := hK.2.1; omega)]; exact h)
theorem xb_bears0 (X : sp_X) (g : sp_G) {s o i n : Nat} {K T P v : Nat → Int32} (hs : sp_sd s o) (hK : sp_KX n K T P g) (hi : i < n) (hv : sp_h8 g s o v) (h : ¬ sp_cb (K i) (T i) (v i) = true) : sp_Ct X 0 45 [.ref 18, .int (nI i), .ref s] g (sp_Fi (nI 0) g) := xa_bears0 X g hs hK hi hv.up (by rw [sp_u8 i (by have := hK.2.1; omega)]; exact h)
theorem xb_playable (X : sp_X) (g : sp_G) {s o n : Nat} {K T P v : Nat → Int32} (hs : sp_sd s o) (hK : sp_KX n K T P g) (hv : sp_h8 g s o v) : sp_Ct X 2 50 [.ref 18, .ref s] g (sp_Fi (nI (sp_set n K T v)) g) := by
  have h := xa_playable X g hs hK hv.up
  rw [sp_set8 hK.2.1 sp_u8] at h
  exact h
theorem xb_scoop (X : sp_X) (g : sp_G) {s o i : Nat} {v : Nat → Int32} (hs : sp_sd s o) (hi : i < 6) (m : Int32) (hv : sp_h8 g s o v) : sp_Ct X 1 65 [.ref s, .int (nI i), .int m] g (sp_Ri (fun _ g' => sp_sx s o g g' ∧ sp_h8 g' s o (sp_mv v i 6 m))) :=
  (xa_scoop X g hs hi m hv.up).mono (fun r g' q => by
    obtain ⟨x, q1, q2, q3⟩ := q
    exact ⟨x, q1, q2, fun j hj => by rw [q3 j (by omega)]; exact sp_mv8 sp_u8 (by omega) (by omega) m j hj⟩)
theorem xb_piece (X : sp_X) (g : sp_G) {s o n r z A B : Nat} {K T P v f : Nat → Int32} (hs : sp_sd s o) (hK : sp_KX n K T P g) (hp : sp_PX r z f g) (hzb : z ≤ 12) (hks : sp_ks f n z) (hv : sp_h8 g s o v) (hB : sp_oB n A B v) (hAb : A < 2 ^ 20) (hBb : B < 2 ^ 20) : sp_Ct X 4 74 [.ref 18, .ref 1, .int (nI r), .ref s] g (sp_Ri (fun x g' => x = nI (sp_pp n K T P f z v 0).1 ∧ sp_sx s o g g')) := by
  have h := xa_piece X g hs hK hp hzb hks hv.up (hB.c8 sp_u8) hAb hBb
  rw [sp_pp8 hK.2.1 z 0 _ v (by rw [Nat.zero_add]; exact hks) sp_u8] at h
  exact h
/-! the reference's -/
theorem mb_copyTo (X : sp_X) (g : sp_G) {f t : Nat} {v : Nat → Int32} (hf : f < 15) (ht : t < 15) (hft : f ≠ t) (hv : sp_f8 g f v) : sp_Ct X 1 192 [.ref 64, .int (nI f), .int (nI t)] g (sp_Rv (fun g' => sp_fx t g g' ∧ sp_f8 g' t v ∧ g'.1 75 (9 * t + 8) = g.1 75 (9 * f + 8))) :=
  (ma_copyTo X g hf ht hft hv.up).mono (fun r g' q => ⟨q.1, q.2.1, fun j hj => by rw [q.2.2 j (by omega), sp_u8 j hj], by have := q.2.2 8 (by omega); rw [pk_us] at this; exact this⟩)
theorem mb_plays (X : sp_X) (g : sp_G) {f i n : Nat} {K T P v : Nat → Int32} (hf : f < 14) (hK : sp_KM n K T P g) (hi : i < n) (hv : sp_f8 g f v) : sp_Ct X 2 175 [.ref 64, .int (nI f), .int (nI i)] g (sp_Rv (fun g' => sp_fx f g g' ∧ sp_f8 g' f (sp_pl n K P v i) ∧ g'.1 75 (9 * f + 8) = g.1 75 (9 * f + 8) + P i)) :=
  (ma_plays X g hf hK hi hv.up).mono (fun r g' q => ⟨q.1, q.2.1, fun j hj => by rw [q.2.2 j (by omega)]; exact sp_pl8 sp_u8 n K P (by have := hK.2.1; omega) j hj, by have := q.2.2 8 (by omega); rw [sp_pl_8 (by have := hK.2.1; omega), pk_us] at this; exact this⟩)
theorem mb_can1 (X : sp_X) (g : sp_G) {f i n : Nat} {K T P v : Nat → Int32} (hf : f < 14) (hK : sp_KM n K T P g) (hi : i < n) (hv : sp_f8 g f v) (h : sp_cb (K i) (T i) (v i) = true) : sp_Ct X 1 165 [.ref 64, .int (nI f), .int (nI i)] g (sp_Fi (nI 1) g) := ma_can1 X g hf hK hi hv.up (by rw [sp_u8 i (by have := hK.2.1; omega)]; exact h)
theorem mb_can0 (X : sp_X) (g : sp_G) {f i n : Nat} {K T P v : Nat → Int32} (hf : f < 14) (hK : sp_KM n K T P g) (hi : i < n) (hv : sp_f8 g f v) (h : ¬ sp_cb (K i) (T i) (v i) = true) : sp_Ct X 1 165 [.ref 64, .int (nI f), .int (nI i)] g (sp_Fi (nI 0) g) := ma_can0 X g hf hK hi hv.up (by rw [sp_u8 i (by have := hK.2.1; omega)]; exact h)
theorem mb_canSet (X : sp_X) (g : sp_G) {f n : Nat} {K T P v : Nat → Int32} (hf : f < 14) (hK : sp_KM n K T P g) (hv : sp_f8 g f v) : sp_Ct X 2 170 [.ref 64, .int (nI f)] g (sp_Fi (nI (sp_set n K T v)) g) := by
  have h := ma_canSet X g hf hK hv.up
  rw [sp_set8 hK.2.1 sp_u8] at h
  exact h
theorem mb_scoop (X : sp_X) (g : sp_G) {f i : Nat} {v : Nat → Int32} (hf : f < 14) (hi : i < 6) (m : Int32) (hv : sp_f8 g f v) : sp_Ct X 1 177 [.ref 64, .int (nI f), .int (nI i), .int (nI 6), .int m] g (sp_Ri (fun _ g' => sp_fx f g g' ∧ sp_f8 g' f (sp_mv v i 6 m))) :=
  (ma_scoop X g hf hi m hv.up).mono (fun r g' q => by
    obtain ⟨x, q1, q2, q3⟩ := q
    exact ⟨x, q1, q2, fun j hj => by rw [q3 j (by omega)]; exact sp_mv8 sp_u8 (by omega) (by omega) m j hj⟩)
theorem mb_piece (X : sp_X) (g : sp_G) {q n r z A B : Nat} {K T P v f : Nat → Int32} (hq : q < 14) (hK : sp_KM n K T P g) (hp : sp_PM r z f g) (hzb : z ≤ 12) (hks : sp_ks f n z) (hv : sp_f8 g q v) (hB : sp_oB n A B v) (hAb : A < 2 ^ 20) (hBb : B < 2 ^ 20) : sp_Ct X 4 193 [.ref 64, .int (nI q), .int (nI r)] g (sp_Ri (fun x g' => x = nI (sp_pp n K T P f z v 0).1 ∧ sp_fx q g g')) := by
  have h := ma_piece X g hq hK hp hzb hks hv.up (hB.c8 sp_u8) hAb hBb
  rw [sp_pp8 hK.2.1 z 0 _ v (by rw [Nat.zero_add]; exact hks) sp_u8] at h
  exact h
/-! what a level of the class's search leaves as it was -/
def sp_lvx (d : Nat) (g g' : sp_G) : Prop := (∀ c, ¬ (c = 17 ∨ (23 + d < c ∧ c < 30) ∨ (30 + d < c ∧ c ≤ 40)) → g'.1 c = g.1 c) ∧ (∀ j, j < d → g'.1 37 j = g.1 37 j) ∧ ∀ c, c ≠ 40 → g'.2 c = g.2 c
theorem sp_lvx.rf {d : Nat} {g : sp_G} : sp_lvx d g g := ⟨fun _ _ => rfl, fun _ _ => rfl, fun _ _ => rfl⟩
theorem sp_lvx.tr {d : Nat} {g g1 g2 : sp_G} (h : sp_lvx d g g1) (k : sp_lvx d g1 g2) : sp_lvx d g g2 := ⟨fun c hc => (k.1 c hc).trans (h.1 c hc), fun j hj => (k.2.1 j hj).trans (h.2.1 j hj), fun c hc => (k.2.2 c hc).trans (h.2.2 c hc)⟩
theorem sp_lvx.lo {d e : Nat} {g g1 : sp_G} (h : sp_lvx e g g1) (hd : d ≤ e) : sp_lvx d g g1 := ⟨fun c hc => h.1 c (by omega), fun j hj => h.2.1 j (by omega), h.2.2⟩
theorem sp_lvx.xa {d : Nat} {g g1 : sp_G} (h : sp_lvx d g g1) : sp_xa g g1 := ⟨fun c hc => h.1 c (by unfold sp_xs at hc; omega), h.2.2⟩
theorem sp_h8.dx {d : Nat} {g g1 : sp_G} {v : Nat → Int32} (h : sp_h8 g (23 + d) (30 + d) v) (k : sp_lvx d g g1) (hd : d ≤ 6) : sp_h8 g1 (23 + d) (30 + d) v := fun j hj => by
  rw [← h j hj]
  unfold sp_sv
  rw [k.1 (23 + d) (by omega), k.1 (30 + d) (by omega)]
def sp_wy (g : sp_G) (d : Nat) (w : Nat → Nat) : Prop := ∀ j, j < d → g.1 37 j = nI (w j)
def sp_un (w : Nat → Nat) (d i : Nat) : Nat → Nat := fun j => if j = d then i else w j
theorem sp_wy.dx {d : Nat} {g g1 : sp_G} {w : Nat → Nat} (h : sp_wy g d w) (k : sp_lvx d g g1) : sp_wy g1 d w := fun j hj => (k.2.1 j hj).trans (h j hj)
/-- a step -/
def sp_stp (d : Nat) (g g' : sp_G) (i : Nat) (w : Nat → Int32) (p : Int32) : Prop := (∀ c, c ≠ 23 + (d + 1) → c ≠ 30 + (d + 1) → c ≠ 37 → g'.1 c = g.1 c) ∧ g'.2 = g.2 ∧ (∀ j, j ≠ d → g'.1 37 j = g.1 37 j) ∧ g'.1 37 d = nI i ∧ sp_h8 g' (23 + (d + 1)) (30 + (d + 1)) w ∧ g'.1 (23 + (d + 1)) 3 = g.1 (23 + d) 3 + p
theorem sp_stp.dx {d i : Nat} {g g1 : sp_G} {w : Nat → Int32} {p : Int32} (h : sp_stp d g g1 i w p) (hd : d < 6) : sp_lvx d g g1 := ⟨fun c hc => h.1 c (by omega) (by omega) (by omega), fun j hj => h.2.2.1 j (by omega), fun c _ => by rw [h.2.1]⟩
theorem sp_wy.stp {d i : Nat} {g g1 : sp_G} {w : Nat → Nat} {u : Nat → Int32} {p : Int32} (h : sp_wy g d w) (k : sp_stp d g g1 i u p) : sp_wy g1 (d + 1) (sp_un w d i) := fun j hj => by
  unfold sp_un
  by_cases e : j = d
  · subst e; rw [if_pos rfl]; exact k.2.2.2.1
  · rw [if_neg e, k.2.2.1 j e]; exact h j (by omega)
def sp_rmb (q : Nat) (g g' : sp_G) : Prop := (∀ c, c ≠ 17 → c ≠ 38 → g'.1 c = g.1 c) ∧ g'.2 = g.2 ∧ (∀ j, j ≠ 5 → g'.1 17 j = g.1 17 j) ∧ g'.1 17 5 = nI q ∧ ∀ j, j < q → g'.1 38 j = g.1 37 j
theorem sp_rmb.dx {q d : Nat} {g g1 : sp_G} (h : sp_rmb q g g1) (hd : d ≤ 6) : sp_lvx d g g1 := ⟨fun c hc => h.1 c (by omega) (by omega), fun j hj => by rw [h.1 37 (by omega) (by omega)], fun c _ => by rw [h.2.1]⟩
theorem sp_rmbEq {q : Nat} {g : sp_G} {x : Nat → Int32} (hx : ∀ j, j < q → x j = g.1 37 j) : sp_rmb q g (sp_wA (sp_wI g 17 5 (nI q)) 38 x) :=
  ⟨fun c h1 h2 => funext fun j => by rw [sp_rdW, if_neg h2, sp_rd, if_neg (fun q => h1 q.1)], rfl, fun j hj => by rw [sp_rdW, if_neg (by decide), sp_rd, if_neg (fun q => hj q.2)], rfl, fun j hj => hx j hj⟩
def sp_bg (v : Nat → Int32) (g g' : sp_G) : Prop := (∀ c, c ≠ 17 → c ≠ 23 → c ≠ 30 → g'.1 c = g.1 c) ∧ g'.2 = g.2 ∧ sp_h8 g' 23 30 v ∧ g'.1 23 3 = nI 0 ∧ g'.1 17 5 = -1 ∧ ∀ j, j ≠ 5 → g'.1 17 j = g.1 17 j
theorem sp_bg.xa {v : Nat → Int32} {g g1 : sp_G} (h : sp_bg v g g1) : sp_xa g g1 := ⟨fun c hc => h.1 c (by unfold sp_xs at hc; omega) (by unfold sp_xs at hc; omega) (by unfold sp_xs at hc; omega), fun c _ => by rw [h.2.1]⟩
theorem sp_bgEq {v : Nat → Int32} {g g1 : sp_G} (h : sp_sx 23 30 g g1) (hv : sp_h8 g1 23 30 v) : sp_bg v g (sp_wI (sp_wI g1 23 3 (nI 0)) 17 5 (-1)) :=
  ⟨fun c h1 h2 h3 => by rw [sp_wI_ne h1, sp_wI_ne h2, h.1 c h2 h3], h.2, fun j hj => by
    rw [← hv j hj]
    unfold sp_sv
    by_cases e : j < 6
    · rw [if_pos e, if_pos e]; rfl
    · rw [if_neg e, if_neg e, sp_rd, if_neg (by omega), sp_rd, if_neg (by omega)], rfl, rfl, fun j hj => by rw [sp_rd, if_neg (by omega), sp_wI_ne (by decide), h.1 17 (by decide) (by decide)]⟩
set_option maxRecDepth 20000 in
theorem xb_begin (X : sp_X) (g : sp_G) {t p : Nat} {v : Nat → Int32} (ht : sp_sd t p) (ha : sp_ap 23 30 t p) (hv : sp_h8 g t p v) : sp_Ct X 2 78 [.ref 17, .ref t] g (sp_Rv (fun g' => sp_bg v g g')) := by
  refine sp_walkN (n := 2) sq_p_78 sq_l_78 (Nat.le_of_ble_eq_true rfl) (fun a hA => ?_)
  show sp_Ev X a 78 0 [.ref 17, .ref t] [] g
  refine sr_aload_n hA si_78_0 rfl ?_
  refine sr_getR (r := 22) hA si_78_1 sf_78_20 (by decide) (by decide) rfl rfl rfl ?_
  refine sr_iconst (v := nI 0) hA si_78_4 (by decide) ?_
  refine sr_aaldN (r := 23) (n := 7) hA si_78_5 (by decide) (by decide) rfl (by omega) (by decide) rfl ?_
  refine sr_aload_n hA si_78_6 rfl ?_
  refine sr_VRv (c := 23) (ci := 2) (as := [.ref t]) (st := []) hA si_78_7 sv_39 sk_78_56 (xb_take X g (sp_bh (r := 0) (by omega)) ht ha hv) (by omega) rfl (by decide) (by decide) rfl sq_c_39 rfl (Nat.le_of_ble_eq_true rfl) (fun g1 q1 => ?_)
  refine sr_aload_n hA si_78_10 rfl ?_
  refine sr_getR (r := 22) hA si_78_11 sf_78_20 (by decide) (by decide) rfl rfl rfl ?_
  refine sr_iconst (v := nI 0) hA si_78_14 (by decide) ?_
  refine sr_aaldN (r := 23) (n := 7) hA si_78_15 (by decide) (by decide) rfl (by omega) (by decide) rfl ?_
  refine sr_iconst (v := nI 0) hA si_78_16 (by decide) ?_
  refine sr_putI hA si_78_17 sf_78_60 rfl rfl (by decide) (by decide) rfl rfl ?_
  refine sr_aload_n hA si_78_20 rfl ?_
  refine sr_iconst (v := (-1)) hA si_78_21 (by decide) ?_
  refine sr_putI hA si_78_22 sf_78_38 rfl rfl (by decide) (by decide) rfl rfl ?_
  exact sr_vretR hA si_78_25 sq_r_78 (sp_bgEq q1.1 q1.2.1)
set_option maxRecDepth 20000 in
theorem xb_rmb (X : sp_X) (g : sp_G) {q : Nat} (hq : q ≤ 6) : sp_Ct X 1 80 [.ref 17, .int (nI q)] g (sp_Rv (fun g' => sp_rmb q g g')) := by
  refine sp_walkN (n := 2) sq_p_80 sq_l_80 (Nat.le_of_ble_eq_true rfl) (fun a hA => ?_)
  show sp_Ev X a 80 0 [.ref 17, .int (nI q)] [] g
  refine sr_aload_n hA si_80_0 rfl ?_
  refine sr_iload_n hA si_80_1 rfl ?_
  refine sr_putI hA si_80_2 sf_80_38 rfl rfl (by decide) (by decide) rfl rfl ?_
  refine sr_aload_n hA si_80_5 rfl ?_
  refine sr_getR (r := 37) hA si_80_6 sf_80_24 (by decide) (by decide) rfl rfl rfl ?_
  refine sr_iconst (v := nI 0) hA si_80_9 (by decide) ?_
  refine sr_aload_n hA si_80_10 rfl ?_
  refine sr_getR (r := 38) hA si_80_11 sf_80_28 (by decide) (by decide) rfl rfl rfl ?_
  refine sr_iconst (v := nI 0) hA si_80_14 (by decide) ?_
  refine sr_iload_n hA si_80_15 rfl ?_
  refine sr_copyN (n0 := 6) (n1 := 6) hA si_80_16 sk_80_63 sn_1 sn_2 sn_3 (by omega) (by decide) (by decide) rfl rfl rfl rfl (by omega) (by omega) (by decide) (by decide) (Nat.le_of_ble_eq_true rfl) ?_
  exact sr_vretR hA si_80_19 sq_r_80 (sp_rmbEq (fun j hj => by rw [pk_cpy_in (by omega) (by omega), show 0 + (j - 0) = j by omega]; rfl))
theorem sp_stpEq {d i n : Nat} {g g1 g2 : sp_G} {K P v : Nat → Int32} (hd : d < 6) (q1 : sp_sx (23 + (d + 1)) (30 + (d + 1)) (sp_wI g 37 d (nI i)) g1 ∧ sp_h8 g1 (23 + (d + 1)) (30 + (d + 1)) v ∧ g1.1 (23 + (d + 1)) 3 = (sp_wI g 37 d (nI i)).1 (23 + d) 3) (q2 : sp_sx (23 + (d + 1)) (30 + (d + 1)) g1 g2 ∧ sp_h8 g2 (23 + (d + 1)) (30 + (d + 1)) (sp_pl n K P v i) ∧ g2.1 (23 + (d + 1)) 3 = g1.1 (23 + (d + 1)) 3 + P i) : sp_stp d g g2 i (sp_pl n K P v i) (P i) :=
  ⟨fun c h1 h2 h3 => by rw [q2.1.1 c h1 h2, q1.1.1 c h1 h2, sp_wI_ne h3], q2.1.2.trans q1.1.2, fun j hj => by rw [q2.1.1 37 (by omega) (by omega), q1.1.1 37 (by omega) (by omega), sp_rd, if_neg (fun e => hj e.2)], by rw [q2.1.1 37 (by omega) (by omega), q1.1.1 37 (by omega) (by omega), sp_rd, if_pos ⟨rfl, rfl⟩], q2.2.1, by rw [q2.2.2, q1.2.2, sp_wI_ne (by omega)]⟩
set_option maxRecDepth 20000 in
theorem xb_step1 (X : sp_X) (g : sp_G) {d i n A Bq : Nat} {K T P v : Nat → Int32} (hd : d < 6) (hK : sp_KX n K T P g) (hi : i < n) (hv : sp_h8 g (23 + d) (30 + d) v) (hB : sp_oB n A Bq v) (hBb : Bq < 2 ^ 29) (hcb : sp_cb (K i) (T i) (v i) = true) : sp_Ct X 3 88 [.ref 17, .int (nI d), .int (nI i)] g (sp_Ri (fun x g' => x = nI 1 ∧ sp_stp d g g' i (sp_pl n K P v i) (P i))) := by
  have hn6 := hK.2.1
  have hv1 : sp_h8 (sp_wI g 37 d (nI i)) (23 + d) (30 + d) v := fun j hj => by
    rw [← hv j hj]
    unfold sp_sv
    rw [sp_wI_ne (by omega), sp_wI_ne (by omega)]
  refine sp_walkN (n := 3) sq_p_88 sq_l_88 (Nat.le_of_ble_eq_true rfl) (fun a hA => ?_)
  show sp_Ev X a 88 0 [.ref 17, .int (nI d), .int (nI i)] [] g
  refine sr_iload_n hA si_88_0 rfl ?_
  refine sr_bipush (v := nI 6) hA si_88_1 (by decide) ?_
  refine sr_icmp_geN (tgt := 23) hA si_88_3 (by decide) (by omega) (by omega) (fun c1 => absurd c1 (by omega)) (fun c1 => ?_)
  refine sr_aload_n hA si_88_6 rfl ?_
  refine sr_getR (r := 18) hA si_88_7 sf_88_12 (by decide) (by decide) rfl rfl rfl ?_
  refine sr_iload_n hA si_88_10 rfl ?_
  refine sr_aload_n hA si_88_11 rfl ?_
  refine sr_getR (r := 22) hA si_88_12 sf_88_20 (by decide) (by decide) rfl rfl rfl ?_
  refine sr_iload_n hA si_88_15 rfl ?_
  refine sr_aaldN (r := (23 + d)) (n := 7) hA si_88_16 (by decide) (by decide) rfl (by omega) (by decide) (sp_bhr (by omega)) ?_
  refine sr_VFi (c := 18) (ci := 0) (as := [.int (nI i), .ref (23 + d)]) (st := []) hA si_88_17 sv_45 sk_88_69 (xb_bears1 X g (s := 23 + d) (o := 30 + d) (sp_bh (by omega)) hK hi hv hcb) (by omega) rfl (by decide) (by decide) rfl sq_c_45 rfl (Nat.le_of_ble_eq_true rfl) ?_
  refine sr_if_neN (tgt := 25) hA si_88_20 (by decide) (by omega) (fun c2 => ?_) (fun c2 => absurd c2 (by omega))
  refine sr_aload_n hA si_88_25 rfl ?_
  refine sr_getR (r := 37) hA si_88_26 sf_88_24 (by decide) (by decide) rfl rfl rfl ?_
  refine sr_iload_n hA si_88_29 rfl ?_
  refine sr_iload_n hA si_88_30 rfl ?_
  refine sr_iastN (n := 6) hA si_88_31 (by decide) rfl rfl (by omega) (by decide) ?_
  refine sr_aload_n hA si_88_32 rfl ?_
  refine sr_getR (r := 22) hA si_88_33 sf_88_20 (by decide) (by decide) rfl rfl rfl ?_
  refine sr_iload_n hA si_88_36 rfl ?_
  refine sr_iconst (v := nI 1) hA si_88_37 (by decide) ?_
  refine sr_iaddN hA si_88_38 ?_
  refine sr_aaldN (r := (23 + (d + 1))) (n := 7) hA si_88_39 (by decide) (by decide) rfl (by omega) (by decide) (sp_bhr (by omega)) ?_
  refine sr_aload_n hA si_88_40 rfl ?_
  refine sr_getR (r := 22) hA si_88_41 sf_88_20 (by decide) (by decide) rfl rfl rfl ?_
  refine sr_iload_n hA si_88_44 rfl ?_
  refine sr_aaldN (r := (23 + d)) (n := 7) hA si_88_45 (by decide) (by decide) rfl (by omega) (by decide) (sp_bhr (by omega)) ?_
  refine sr_VRv (c := (23 + (d + 1))) (ci := 2) (as := [.ref (23 + d)]) (st := []) hA si_88_46 sv_39 sk_88_56 (xb_take X (sp_wI g 37 d (nI i)) (s := 23 + (d + 1)) (o := 30 + (d + 1)) (t := 23 + d) (p := 30 + d) (v := v) (sp_bh (by omega)) (sp_bh (by omega)) (by unfold sp_ap; omega) hv1) (by omega) rfl (by decide) (sp_bh (by omega)).1 (sp_bh (by omega)).2.1 sq_c_39 rfl (Nat.le_of_ble_eq_true rfl) (fun g1 q1 => ?_)
  refine sr_aload_n hA si_88_49 rfl ?_
  refine sr_getR (r := 18) hA si_88_50 sf_88_12 (by decide) (by decide) rfl rfl rfl ?_
  refine sr_iload_n hA si_88_53 rfl ?_
  refine sr_aload_n hA si_88_54 rfl ?_
  refine sr_getR (r := 22) hA si_88_55 sf_88_20 (by decide) (by decide) rfl rfl rfl ?_
  refine sr_iload_n hA si_88_58 rfl ?_
  refine sr_iconst (v := nI 1) hA si_88_59 (by decide) ?_
  refine sr_iaddN hA si_88_60 ?_
  refine sr_aaldN (r := (23 + (d + 1))) (n := 7) hA si_88_61 (by decide) (by decide) rfl (by omega) (by decide) (sp_bhr (by omega)) ?_
  have hK1 : sp_KX n K T P g1 := (hK.xa ((sp_xa.rf.wI (c := 37) (by unfold sp_xs; omega)).sx q1.1 (by unfold sp_xs; omega) (by unfold sp_xs; omega)))
  refine sr_VRv (c := 18) (ci := 0) (as := [.int (nI i), .ref (23 + (d + 1))]) (st := []) hA si_88_62 sv_55 sk_88_73 (xb_sound X g1 (s := 23 + (d + 1)) (o := 30 + (d + 1)) (sp_bh (by omega)) hK1 hi q1.2.1 hB hBb) (by omega) rfl (by decide) (by decide) rfl sq_c_55 rfl (Nat.le_of_ble_eq_true rfl) (fun g2 q2 => ?_)
  refine sr_iconst (v := nI 1) hA si_88_65 (by decide) ?_
  exact sr_zretR hA si_88_66 sq_r_88 (by decide) ⟨rfl, sp_stpEq hd q1 q2⟩
set_option maxRecDepth 20000 in
theorem xb_step0 (X : sp_X) (g : sp_G) {d i n : Nat} {K T P v : Nat → Int32} (hd : d < 6) (hK : sp_KX n K T P g) (hi : i < n) (hv : sp_h8 g (23 + d) (30 + d) v) (hcb : ¬ sp_cb (K i) (T i) (v i) = true) : sp_Ct X 3 88 [.ref 17, .int (nI d), .int (nI i)] g (sp_Fi (nI 0) g) := by
  have hn6 := hK.2.1
  refine sp_walkN (n := 3) sq_p_88 sq_l_88 (Nat.le_of_ble_eq_true rfl) (fun a hA => ?_)
  show sp_Ev X a 88 0 [.ref 17, .int (nI d), .int (nI i)] [] g
  refine sr_iload_n hA si_88_0 rfl ?_
  refine sr_bipush (v := nI 6) hA si_88_1 (by decide) ?_
  refine sr_icmp_geN (tgt := 23) hA si_88_3 (by decide) (by omega) (by omega) (fun c1 => absurd c1 (by omega)) (fun c1 => ?_)
  refine sr_aload_n hA si_88_6 rfl ?_
  refine sr_getR (r := 18) hA si_88_7 sf_88_12 (by decide) (by decide) rfl rfl rfl ?_
  refine sr_iload_n hA si_88_10 rfl ?_
  refine sr_aload_n hA si_88_11 rfl ?_
  refine sr_getR (r := 22) hA si_88_12 sf_88_20 (by decide) (by decide) rfl rfl rfl ?_
  refine sr_iload_n hA si_88_15 rfl ?_
  refine sr_aaldN (r := (23 + d)) (n := 7) hA si_88_16 (by decide) (by decide) rfl (by omega) (by decide) (sp_bhr (by omega)) ?_
  refine sr_VFi (c := 18) (ci := 0) (as := [.int (nI i), .ref (23 + d)]) (st := []) hA si_88_17 sv_45 sk_88_69 (xb_bears0 X g (s := 23 + d) (o := 30 + d) (sp_bh (by omega)) hK hi hv hcb) (by omega) rfl (by decide) (by decide) rfl sq_c_45 rfl (Nat.le_of_ble_eq_true rfl) ?_
  refine sr_if_neN (tgt := 25) hA si_88_20 (by decide) (by omega) (fun c2 => absurd c2 (by omega)) (fun c2 => ?_)
  refine sr_iconst (v := nI 0) hA si_88_23 (by decide) ?_
  exact sr_zretF hA si_88_24 sq_r_88 (by decide) rfl rfl
def sp_lx (g gg : sp_G) (r q i : Nat) : Prop := (∀ c, c ≠ 9 → c ≠ 3 + r → gg.1 c = g.1 c) ∧ gg.2 = g.2 ∧ (∀ j, j ≠ r → gg.1 9 j = g.1 9 j) ∧ gg.1 9 r = nI q ∧ ∀ x, x < 40 → gg.1 (3 + r) x = if x < i then g.1 38 x else 0
theorem sp_lx.step {g gg : sp_G} {r q i : Nat} (h : sp_lx g gg r q i) (hr : r < 6) : sp_lx g (sp_wI gg (3 + r) i (g.1 38 i)) r q (i + 1) := by
  obtain ⟨h1, h2, h3, h4, h5⟩ := h
  refine ⟨fun c c1 c2 => by rw [sp_wI_ne c2]; exact h1 c c1 c2, h2, fun j hj => by rw [sp_rd, if_neg (by omega)]; exact h3 j hj, by rw [sp_rd, if_neg (by omega)]; exact h4, fun x hx => ?_⟩
  rw [sp_rd]
  by_cases e : x = i
  · subst e; rw [if_pos ⟨rfl, rfl⟩, if_pos (by omega)]
  · rw [if_neg (fun q => e q.2), h5 x hx]
    by_cases e2 : x < i
    · rw [if_pos e2, if_pos (by omega)]
    · rw [if_neg e2, if_neg (by omega)]
theorem sp_lx.z {g : sp_G} {r q : Nat} (hr : r < 6) : sp_lx g (sp_fill (sp_wI g 9 r (nI q)) (3 + r) 40 (nI 0)) r q 0 :=
  ⟨fun c h1 h2 => funext fun j => by rw [sp_rdF, if_neg (fun q => h2 q.1), sp_rd, if_neg (fun q => h1 q.1)], rfl, fun j hj => by rw [sp_rdF, if_neg (by omega), sp_rd, if_neg (fun q => hj q.2)], by rw [sp_rdF, if_neg (by omega), sp_rd, if_pos ⟨rfl, rfl⟩], fun x hx => by rw [sp_rdF, if_pos ⟨rfl, hx⟩, if_neg (by omega)]; rfl⟩
set_option maxRecDepth 20000 in
theorem xb_has0 (X : sp_X) (g : sp_G) (h5 : g.1 17 5 = -1) : sp_Ct X 0 82 [.ref 17] g (sp_Fi (nI 0) g) := by
  refine sp_walkN (n := 1) sq_p_82 sq_l_82 (Nat.le_of_ble_eq_true rfl) (fun a hA => ?_)
  show sp_Ev X a 82 0 [.ref 17] [] g
  refine sr_aload_n hA si_82_0 rfl ?_
  refine sr_getIv (v := (-1)) hA si_82_1 sf_82_38 (by decide) (by decide) rfl (by decide) h5 ?_
  refine sr_if_lt (tgt := 11) hA si_82_4 (by decide) (fun c1 => ?_) (fun c1 => absurd (by decide) c1)
  refine sr_iconst (v := nI 0) hA si_82_11 (by decide) ?_
  exact sr_zretF hA si_82_12 sq_r_82 (by decide) rfl rfl
set_option maxRecDepth 20000 in
theorem xb_has1 (X : sp_X) (g : sp_G) {q : Nat} (hq : q ≤ 6) (h5 : g.1 17 5 = nI q) : sp_Ct X 0 82 [.ref 17] g (sp_Fi (nI 1) g) := by
  refine sp_walkN (n := 1) sq_p_82 sq_l_82 (Nat.le_of_ble_eq_true rfl) (fun a hA => ?_)
  show sp_Ev X a 82 0 [.ref 17] [] g
  refine sr_aload_n hA si_82_0 rfl ?_
  refine sr_getIv (v := nI q) hA si_82_1 sf_82_38 (by decide) (by decide) rfl (by decide) h5 ?_
  refine sr_if_ltN (tgt := 11) hA si_82_4 (by decide) (by omega) ?_
  refine sr_iconst (v := nI 1) hA si_82_7 (by decide) ?_
  refine sr_goto (tgt := 12) hA si_82_8 (by decide) ?_
  exact sr_zretF hA si_82_12 sq_r_82 (by decide) rfl rfl
set_option maxRecDepth 20000 in
theorem xb_lay0 (X : sp_X) (g : sp_G) (r : Int32) (h5 : g.1 17 5 = -1) : sp_Ct X 1 81 [.ref 17, .ref 1, .int r] g (sp_Fv g) := by
  refine sp_walkN (n := 4) sq_p_81 sq_l_81 (Nat.le_of_ble_eq_true rfl) (fun a hA => ?_)
  show sp_Ev X a 81 0 [.ref 17, .ref 1, .int r, .null] [] g
  refine sr_aload_n hA si_81_0 rfl ?_
  refine sr_VFi (c := 17) (ci := 4) (as := []) (st := []) hA si_81_1 sv_82 sk_81_43 (xb_has0 X g h5) (by omega) rfl (by decide) (by decide) rfl sq_c_82 rfl (Nat.le_of_ble_eq_true rfl) ?_
  refine sr_if_neN (tgt := 8) hA si_81_4 (by decide) (by omega) (fun c1 => absurd c1 (by omega)) (fun c1 => ?_)
  exact sr_vretF hA si_81_7 sq_r_81 rfl
set_option maxRecDepth 20000 in
theorem xl_lay {X : sp_X} {ac : sp_Ac} {g : sp_G} {r q : Nat} (hr : r < 6) (hq : q ≤ 6) (h5 : g.1 17 5 = nI q) (hA : sp_Act X 81 2 (sp_Rv (fun g' => sp_lx g g' r q q)) ac) : ∀ (m : Nat) (i : Nat) (gg : sp_G), i + m = q → sp_lx g gg r q i → sp_Ev X ac 81 20 [.ref 17, .ref 1, .int (nI r), .int (nI i)] [] gg := by
  intro m
  induction m with
  | zero =>
    intro i gg h0_ h1_
    refine sr_iload_n hA si_81_20 rfl ?_
    refine sr_aload_n hA si_81_21 rfl ?_
    refine sr_getIv (v := nI q) hA si_81_22 sf_81_38 (by decide) (by decide) rfl (by decide) ((congrFun (h1_.1 17 (by omega) (by omega)) 5).trans h5) ?_
    refine sr_icmp_geN (tgt := 46) hA si_81_25 (by decide) (by omega) (by omega) (fun c1 => ?_) (fun c1 => absurd c1 (by omega))
    exact sr_vretR hA si_81_46 sq_r_81 (by rw [show q = i by omega] at h1_ ⊢; exact h1_)
  | succ m ih =>
    intro i gg h0_ h1_
    refine sr_iload_n hA si_81_20 rfl ?_
    refine sr_aload_n hA si_81_21 rfl ?_
    refine sr_getIv (v := nI q) hA si_81_22 sf_81_38 (by decide) (by decide) rfl (by decide) ((congrFun (h1_.1 17 (by omega) (by omega)) 5).trans h5) ?_
    refine sr_icmp_geN (tgt := 46) hA si_81_25 (by decide) (by omega) (by omega) (fun c1 => absurd c1 (by omega)) (fun c1 => ?_)
    refine sr_aload_n hA si_81_28 rfl ?_
    refine sr_iload_n hA si_81_29 rfl ?_
    refine sr_iload_n hA si_81_30 rfl ?_
    refine sr_aload_n hA si_81_31 rfl ?_
    refine sr_getR (r := 38) hA si_81_32 sf_81_28 (by decide) (by decide) rfl rfl rfl ?_
    refine sr_iload_n hA si_81_35 rfl ?_
    refine sr_ialdNv (v := g.1 38 i) (n := 6) hA si_81_36 (by decide) rfl rfl (by omega) (by decide) (congrFun (h1_.1 38 (by omega) (by omega)) i) ?_
    refine sr_VFv (c := 1) (ci := 5) (as := [.int (nI r), .int (nI i), .int (g.1 38 i)]) (st := []) hA si_81_37 sv_19 sk_81_53 (xc_setR X gg (by omega) (by omega) (g.1 38 i)) (by omega) rfl (by decide) (by decide) rfl sq_c_19 rfl (Nat.le_of_ble_eq_true rfl) ?_
    refine sr_iincN (x := i) (y := 1) (ls1 := [.ref 17, .ref 1, .int (nI r), .int (nI (i + 1))]) hA si_81_40 rfl rfl (by rw [sq_l_81]; decide) rfl ?_
    refine sr_goto (tgt := 20) hA si_81_43 (by decide) ?_
    exact ih (i + 1) _ (by omega) (h1_.step hr)
set_option maxRecDepth 20000 in
theorem xb_lay1 (X : sp_X) (g : sp_G) {r q : Nat} (hr : r < 6) (hq : q ≤ 6) (h5 : g.1 17 5 = nI q) : sp_Ct X 2 81 [.ref 17, .ref 1, .int (nI r)] g (sp_Rv (fun g' => sp_lx g g' r q q)) := by
  refine sp_walkN (n := 4) sq_p_81 sq_l_81 (Nat.le_of_ble_eq_true rfl) (fun ac hA => ?_)
  show sp_Ev X ac 81 0 [.ref 17, .ref 1, .int (nI r), .null] [] g
  refine sr_aload_n hA si_81_0 rfl ?_
  refine sr_VFi (c := 17) (ci := 4) (as := []) (st := []) hA si_81_1 sv_82 sk_81_43 (xb_has1 X g hq h5) (by omega) rfl (by decide) (by decide) rfl sq_c_82 rfl (Nat.le_of_ble_eq_true rfl) ?_
  refine sr_if_neN (tgt := 8) hA si_81_4 (by decide) (by omega) (fun c1 => ?_) (fun c1 => absurd c1 (by omega))
  refine sr_aload_n hA si_81_8 rfl ?_
  refine sr_iload_n hA si_81_9 rfl ?_
  refine sr_aload_n hA si_81_10 rfl ?_
  refine sr_getIv (v := nI q) hA si_81_11 sf_81_38 (by decide) (by decide) rfl (by decide) h5 ?_
  refine sr_iconst (v := nI 0) hA si_81_14 (by decide) ?_
  refine sr_VFv (c := 1) (ci := 5) (as := [.int (nI r), .int (nI q), .int (nI 0)]) (st := []) hA si_81_15 sv_13 sk_81_47 (xc_makeR X g hr (nI q) (nI 0)) (by omega) rfl (by decide) (by decide) rfl sq_c_13 rfl (Nat.le_of_ble_eq_true rfl) ?_
  refine sr_iconst (v := nI 0) hA si_81_18 (by decide) ?_
  refine sr_istore_n (ls1 := [.ref 17, .ref 1, .int (nI r), .int (nI 0)]) hA si_81_19 rfl (by rw [sq_l_81]; decide) rfl ?_
  exact xl_lay hr hq h5 hA q 0 _ (by omega) (sp_lx.z hr)
/-! what a level of the reference's search leaves as it was: the frames up to F, d of what was tried -/
def sp_dm (F d : Nat) (g g' : sp_G) : Prop := (∀ c, c ≠ 64 → c ≠ 75 → ¬ (82 ≤ c) → g'.1 c = g.1 c) ∧ (∀ j, j < 9 * (F + 1) → g'.1 75 j = g.1 75 j) ∧ (∀ j, j < 30 → g'.1 64 j = g.1 64 j) ∧ (∀ j, j < d → g'.1 82 j = g.1 82 j) ∧ ∀ c j, (c ≠ 64 ∨ j < 30) → g'.2 c j = g.2 c j
theorem sp_dm.rf {F d : Nat} {g : sp_G} : sp_dm F d g g := ⟨fun _ _ _ _ => rfl, fun _ _ => rfl, fun _ _ => rfl, fun _ _ => rfl, fun _ _ _ => rfl⟩
theorem sp_dm.tr {F d : Nat} {g g1 g2 : sp_G} (h : sp_dm F d g g1) (k : sp_dm F d g1 g2) : sp_dm F d g g2 := ⟨fun c h1 h2 h3 => (k.1 c h1 h2 h3).trans (h.1 c h1 h2 h3), fun j hj => (k.2.1 j hj).trans (h.2.1 j hj), fun j hj => (k.2.2.1 j hj).trans (h.2.2.1 j hj), fun j hj => (k.2.2.2.1 j hj).trans (h.2.2.2.1 j hj), fun c j hc => (k.2.2.2.2 c j hc).trans (h.2.2.2.2 c j hc)⟩
theorem sp_dm.lo {F d F' d' : Nat} {g g1 : sp_G} (h : sp_dm F' d' g g1) (hF : F ≤ F') (hd : d ≤ d') : sp_dm F d g g1 := ⟨h.1, fun j hj => h.2.1 j (by omega), h.2.2.1, fun j hj => h.2.2.2.1 j (by omega), h.2.2.2.2⟩
theorem sp_dm.ma {F d : Nat} {g g1 : sp_G} (h : sp_dm F d g g1) : sp_ma g g1 := ⟨h.1, fun j hj => h.2.1 j (by omega), h.2.2.1, h.2.2.2.2⟩
theorem sp_f8.dm {F d f : Nat} {g g1 : sp_G} {v : Nat → Int32} (h : sp_f8 g f v) (k : sp_dm F d g g1) (hf : f ≤ F) : sp_f8 g1 f v := fun j hj => by
  rw [← h j hj]
  unfold sp_pv
  rw [k.2.1 (9 * f + j) (by omega)]
def sp_tw (g : sp_G) (d : Nat) (w : Nat → Nat) : Prop := ∀ j, j < d → g.1 82 j = nI (w j)
theorem sp_tw.dm {F d : Nat} {g g1 : sp_G} {w : Nat → Nat} (h : sp_tw g d w) (k : sp_dm F d g g1) : sp_tw g1 d w := fun j hj => (k.2.2.2.1 j hj).trans (h j hj)
/-- a frame is copied to the next, a key is played there -/
def sp_sm2 (F F' : Nat) (g g' : sp_G) (w : Nat → Int32) (p : Int32) : Prop := (∀ c, c ≠ 75 → g'.1 c = g.1 c) ∧ g'.2 = g.2 ∧ (∀ j, ¬ (9 * F' ≤ j ∧ j < 9 * F' + 9) → g'.1 75 j = g.1 75 j) ∧ sp_f8 g' F' w ∧ g'.1 75 (9 * F' + 8) = g.1 75 (9 * F + 8) + p
theorem sp_sm2.mk {F F' : Nat} {g g1 g2 : sp_G} {v w : Nat → Int32} {p : Int32} (q1 : sp_fx F' g g1 ∧ sp_f8 g1 F' v ∧ g1.1 75 (9 * F' + 8) = g.1 75 (9 * F + 8)) (q2 : sp_fx F' g1 g2 ∧ sp_f8 g2 F' w ∧ g2.1 75 (9 * F' + 8) = g1.1 75 (9 * F' + 8) + p) : sp_sm2 F F' g g2 w p :=
  ⟨fun c hc => funext fun j => by rw [q2.1.1 c j (fun e => hc e.1), q1.1.1 c j (fun e => hc e.1)], q2.1.2.trans q1.1.2, fun j hj => by rw [q2.1.1 75 j (fun e => hj e.2), q1.1.1 75 j (fun e => hj e.2)], q2.2.1, by rw [q2.2.2, q1.2.2]⟩
theorem sp_sm2.dm {F F' d : Nat} {g g1 : sp_G} {w : Nat → Int32} {p : Int32} (h : sp_sm2 F F' g g1 w p) (hF : F < F') : sp_dm F d g g1 := ⟨fun c _ h2 _ => h.1 c h2, fun j hj => h.2.2.1 j (by omega), fun j _ => by rw [h.1 64 (by decide)], fun j _ => by rw [h.1 82 (by decide)], fun c j _ => by rw [h.2.1]⟩
theorem sp_dm.wt {F d : Nat} {g g1 : sp_G} (h : sp_dm F d g g1) {i : Nat} {x : Int32} (hi : d ≤ i) : sp_dm F d g (sp_wI g1 82 i x) := ⟨fun c h1 h2 h3 => by rw [sp_wI_ne (by omega)]; exact h.1 c h1 h2 h3, h.2.1, h.2.2.1, fun j hj => by rw [sp_rd, if_neg (by omega)]; exact h.2.2.2.1 j hj, h.2.2.2.2⟩
theorem sp_dm.wf {F d : Nat} {g g1 : sp_G} (h : sp_dm F d g g1) {i : Nat} {x : Int32} (hi : 30 ≤ i) : sp_dm F d g (sp_wI g1 64 i x) := ⟨fun c h1 h2 h3 => by rw [sp_wI_ne h1]; exact h.1 c h1 h2 h3, h.2.1, fun j hj => by rw [sp_rd, if_neg (by omega)]; exact h.2.2.1 j hj, h.2.2.2.1, h.2.2.2.2⟩
theorem sp_tw.un {F F' d i : Nat} {g g1 : sp_G} {w : Nat → Nat} {u : Nat → Int32} {p : Int32} (h : sp_tw g d w) (k : sp_sm2 F F' g g1 u p) : sp_tw (sp_wI g1 82 d (nI i)) (d + 1) (sp_un w d i) := fun j hj => by
  unfold sp_un
  by_cases e : j = d
  · subst e; rw [if_pos rfl, sp_rd, if_pos ⟨rfl, rfl⟩]
  · rw [if_neg e, sp_rd, if_neg (fun q => e q.2), k.1 82 (by decide)]; exact h j (by omega)
def sp_tt (g gg : sp_G) (i : Nat) : Prop := (∀ c, c ≠ 83 → gg.1 c = g.1 c) ∧ gg.2 = g.2 ∧ ∀ x, x < i → gg.1 83 x = g.1 82 x
theorem sp_tt.step {g gg : sp_G} {i : Nat} (h : sp_tt g gg i) : sp_tt g (sp_wI gg 83 i (g.1 82 i)) (i + 1) := by
  obtain ⟨h1, h2, h3⟩ := h
  refine ⟨fun c hc => by rw [sp_wI_ne hc]; exact h1 c hc, h2, fun x hx => ?_⟩
  rw [sp_rd]
  by_cases e : x = i
  · subst e; rw [if_pos ⟨rfl, rfl⟩]
  · rw [if_neg (fun q => e q.2)]; exact h3 x (by omega)
theorem sp_tt.dm {F d i : Nat} {g gg : sp_G} (h : sp_tt g gg i) : sp_dm F d g gg := ⟨fun c _ _ h3 => h.1 c (by omega), fun j _ => by rw [h.1 75 (by decide)], fun j _ => by rw [h.1 64 (by decide)], fun j _ => by rw [h.1 82 (by decide)], fun c j _ => by rw [h.2.1]⟩
set_option maxRecDepth 20000 in
theorem ml_tt {X : sp_X} {ac : sp_Ac} {g : sp_G} {q : Nat} (hq : q ≤ 12) (hA : sp_Act X 202 0 (sp_Rv (fun g' => sp_tt g g' q)) ac) : ∀ (m : Nat) (i : Nat) (gg : sp_G), i + m = q → sp_tt g gg i → sp_Ev X ac 202 2 [.ref 64, .int (nI q), .int (nI i)] [] gg := by
  intro m
  induction m with
  | zero =>
    intro i gg h0_ h1_
    refine sr_iload_n hA si_202_2 rfl ?_
    refine sr_iload_n hA si_202_3 rfl ?_
    refine sr_icmp_geN (tgt := 25) hA si_202_4 (by decide) (by omega) (by omega) (fun c1 => ?_) (fun c1 => absurd c1 (by omega))
    exact sr_vretR hA si_202_25 sq_r_202 (by rw [show q = i by omega]; exact h1_)
  | succ m ih =>
    intro i gg h0_ h1_
    refine sr_iload_n hA si_202_2 rfl ?_
    refine sr_iload_n hA si_202_3 rfl ?_
    refine sr_icmp_geN (tgt := 25) hA si_202_4 (by decide) (by omega) (by omega) (fun c1 => absurd c1 (by omega)) (fun c1 => ?_)
    refine sr_aload_n hA si_202_7 rfl ?_
    refine sr_getR (r := 83) hA si_202_8 sf_202_70 (by decide) (by decide) rfl rfl rfl ?_
    refine sr_iload_n hA si_202_11 rfl ?_
    refine sr_aload_n hA si_202_12 rfl ?_
    refine sr_getR (r := 82) hA si_202_13 sf_202_67 (by decide) (by decide) rfl rfl rfl ?_
    refine sr_iload_n hA si_202_16 rfl ?_
    refine sr_ialdNv (v := g.1 82 i) (n := 12) hA si_202_17 (by decide) rfl rfl (by omega) (by decide) (congrFun (h1_.1 82 (by decide)) i) ?_
    refine sr_iastN (n := 12) hA si_202_18 (by decide) rfl rfl (by omega) (by decide) ?_
    refine sr_iincN (x := i) (y := 1) (ls1 := [.ref 64, .int (nI q), .int (nI (i + 1))]) hA si_202_19 rfl rfl (by rw [sq_l_202]; decide) rfl ?_
    refine sr_goto (tgt := 2) hA si_202_22 (by decide) ?_
    exact ih (i + 1) _ (by omega) h1_.step
set_option maxRecDepth 20000 in
theorem mb_tt (X : sp_X) (g : sp_G) {q : Nat} (hq : q ≤ 12) : sp_Ct X 0 202 [.ref 64, .int (nI q)] g (sp_Rv (fun g' => sp_tt g g' q)) := by
  refine sp_walkN (n := 3) sq_p_202 sq_l_202 (Nat.le_of_ble_eq_true rfl) (fun ac hA => ?_)
  show sp_Ev X ac 202 0 [.ref 64, .int (nI q), .null] [] g
  refine sr_iconst (v := nI 0) hA si_202_0 (by decide) ?_
  refine sr_istore_n (ls1 := [.ref 64, .int (nI q), .int (nI 0)]) hA si_202_1 rfl (by rw [sq_l_202]; decide) rfl ?_
  exact ml_tt hq hA q 0 g (by omega) ⟨fun _ _ => rfl, rfl, fun x hx => absurd hx (by omega)⟩
def sp_lm (ce : Nat) (g gg : sp_G) (r q i : Nat) : Prop := (∀ c, c ≠ 66 → c ≠ 67 → gg.1 c = g.1 c) ∧ gg.2 = g.2 ∧ (∀ j, j ≠ r → gg.1 66 j = g.1 66 j) ∧ gg.1 66 r = nI q ∧ (∀ x, ¬ (40 * r ≤ x ∧ x < 40 * r + 40) → gg.1 67 x = g.1 67 x) ∧ ∀ x, x < i → gg.1 67 (40 * r + x) = if x < q then g.1 ce x else 0
theorem sp_lm.step {ce : Nat} {g gg : sp_G} {r q i : Nat} {y : Int32} (h : sp_lm ce g gg r q i) (hi : i < 40) (hy : y = if i < q then g.1 ce i else 0) : sp_lm ce g (sp_wI gg 67 (40 * r + i) y) r q (i + 1) := by
  obtain ⟨h1, h2, h3, h4, h5, h6⟩ := h
  refine ⟨fun c c1 c2 => by rw [sp_wI_ne c2]; exact h1 c c1 c2, h2, fun j hj => by rw [sp_rd, if_neg (by omega)]; exact h3 j hj, by rw [sp_rd, if_neg (by omega)]; exact h4, fun x hx => by rw [sp_rd, if_neg (by omega)]; exact h5 x hx, fun x hx => ?_⟩
  rw [sp_rd]
  by_cases e : x = i
  · subst e; rw [if_pos ⟨rfl, rfl⟩]; exact hy
  · rw [if_neg (by omega)]; exact h6 x (by omega)
set_option maxRecDepth 20000 in
theorem ml_lay82 {X : sp_X} {ac : sp_Ac} {g : sp_G} {r q : Nat} (hr : r < 6) (hq : q ≤ 6) (hA : sp_Act X 197 0 (sp_Rv (fun g' => sp_lm 82 g g' r q 40)) ac) : ∀ (m : Nat) (i : Nat) (gg : sp_G), i + m = 40 → sp_lm 82 g gg r q i → sp_Ev X ac 197 10 [.ref 64, .int (nI r), .ref 82, .int (nI q), .int (nI i)] [] gg := by
  intro m
  induction m with
  | zero =>
    intro i gg h0_ h1_
    refine sr_iload hA si_197_10 rfl ?_
    refine sr_bipush (v := nI 40) hA si_197_12 (by decide) ?_
    refine sr_icmp_geN (tgt := 49) hA si_197_14 (by decide) (by omega) (by omega) (fun c1 => ?_) (fun c1 => absurd c1 (by omega))
    exact sr_vretR hA si_197_49 sq_r_197 (by rw [show i = 40 by omega] at h1_; exact h1_)
  | succ m ih =>
    intro i gg h0_ h1_
    by_cases hiq : i < q
    · refine sr_iload hA si_197_10 rfl ?_
      refine sr_bipush (v := nI 40) hA si_197_12 (by decide) ?_
      refine sr_icmp_geN (tgt := 49) hA si_197_14 (by decide) (by omega) (by omega) (fun c1 => absurd c1 (by omega)) (fun c1 => ?_)
      refine sr_aload_n hA si_197_17 rfl ?_
      refine sr_getR (r := 67) hA si_197_18 sf_197_20 (by decide) (by decide) rfl rfl rfl ?_
      refine sr_bipush (v := nI 40) hA si_197_21 (by decide) ?_
      refine sr_iload_n hA si_197_23 rfl ?_
      refine sr_imulN hA si_197_24 ?_
      refine sr_iload hA si_197_25 rfl ?_
      refine sr_iaddN hA si_197_27 ?_
      refine sr_iload hA si_197_28 rfl ?_
      refine sr_iload_n hA si_197_30 rfl ?_
      refine sr_icmp_geN (tgt := 41) hA si_197_31 (by decide) (by omega) (by omega) (fun c2 => absurd c2 (by omega)) (fun c2 => ?_)
      refine sr_aload_n hA si_197_34 rfl ?_
      refine sr_iload hA si_197_35 rfl ?_
      refine sr_ialdNv (v := g.1 82 i) (n := 12) hA si_197_37 (by decide) rfl rfl (by omega) (by decide) (congrFun (h1_.1 82 (by decide) (by decide)) i) ?_
      refine sr_goto (tgt := 42) hA si_197_38 (by decide) ?_
      refine sr_iastN (n := 240) hA si_197_42 (by decide) rfl rfl (by omega) (by decide) ?_
      refine sr_iincN (x := i) (y := 1) (ls1 := [.ref 64, .int (nI r), .ref 82, .int (nI q), .int (nI (i + 1))]) hA si_197_43 rfl rfl (by rw [sq_l_197]; decide) rfl ?_
      refine sr_goto (tgt := 10) hA si_197_46 (by decide) ?_
      exact ih (i + 1) _ (by omega) (h1_.step (by omega) (by rw [if_pos hiq]))
    · refine sr_iload hA si_197_10 rfl ?_
      refine sr_bipush (v := nI 40) hA si_197_12 (by decide) ?_
      refine sr_icmp_geN (tgt := 49) hA si_197_14 (by decide) (by omega) (by omega) (fun c1 => absurd c1 (by omega)) (fun c1 => ?_)
      refine sr_aload_n hA si_197_17 rfl ?_
      refine sr_getR (r := 67) hA si_197_18 sf_197_20 (by decide) (by decide) rfl rfl rfl ?_
      refine sr_bipush (v := nI 40) hA si_197_21 (by decide) ?_
      refine sr_iload_n hA si_197_23 rfl ?_
      refine sr_imulN hA si_197_24 ?_
      refine sr_iload hA si_197_25 rfl ?_
      refine sr_iaddN hA si_197_27 ?_
      refine sr_iload hA si_197_28 rfl ?_
      refine sr_iload_n hA si_197_30 rfl ?_
      refine sr_icmp_geN (tgt := 41) hA si_197_31 (by decide) (by omega) (by omega) (fun c2 => ?_) (fun c2 => absurd c2 (by omega))
      refine sr_iconst (v := nI 0) hA si_197_41 (by decide) ?_
      refine sr_iastN (n := 240) hA si_197_42 (by decide) rfl rfl (by omega) (by decide) ?_
      refine sr_iincN (x := i) (y := 1) (ls1 := [.ref 64, .int (nI r), .ref 82, .int (nI q), .int (nI (i + 1))]) hA si_197_43 rfl rfl (by rw [sq_l_197]; decide) rfl ?_
      refine sr_goto (tgt := 10) hA si_197_46 (by decide) ?_
      exact ih (i + 1) _ (by omega) (h1_.step (by omega) (by rw [if_neg hiq]; rfl))
set_option maxRecDepth 20000 in
theorem mb_lay82 (X : sp_X) (g : sp_G) {r q : Nat} (hr : r < 6) (hq : q ≤ 6) : sp_Ct X 0 197 [.ref 64, .int (nI r), .ref 82, .int (nI q)] g (sp_Rv (fun g' => sp_lm 82 g g' r q 40)) := by
  refine sp_walkN (n := 5) sq_p_197 sq_l_197 (Nat.le_of_ble_eq_true rfl) (fun ac hA => ?_)
  show sp_Ev X ac 197 0 [.ref 64, .int (nI r), .ref 82, .int (nI q), .null] [] g
  refine sr_aload_n hA si_197_0 rfl ?_
  refine sr_getR (r := 66) hA si_197_1 sf_197_17 (by decide) (by decide) rfl rfl rfl ?_
  refine sr_iload_n hA si_197_4 rfl ?_
  refine sr_iload_n hA si_197_5 rfl ?_
  refine sr_iastN (n := 6) hA si_197_6 (by decide) rfl rfl (by omega) (by decide) ?_
  refine sr_iconst (v := nI 0) hA si_197_7 (by decide) ?_
  refine sr_istore (ls1 := [.ref 64, .int (nI r), .ref 82, .int (nI q), .int (nI 0)]) hA si_197_8 (by rw [sq_l_197]; decide) rfl ?_
  exact ml_lay82 hr hq hA 40 0 _ (by omega) ⟨fun c c1 c2 => sp_wI_ne c1, rfl, fun j hj => by rw [sp_rd, if_neg (fun e => hj e.2)], by rw [sp_rd, if_pos ⟨rfl, rfl⟩], fun x hx => rfl, fun x hx => absurd hx (by omega)⟩
set_option maxRecDepth 20000 in
theorem ml_lay83 {X : sp_X} {ac : sp_Ac} {g : sp_G} {r q : Nat} (hr : r < 6) (hq : q ≤ 6) (hA : sp_Act X 197 0 (sp_Rv (fun g' => sp_lm 83 g g' r q 40)) ac) : ∀ (m : Nat) (i : Nat) (gg : sp_G), i + m = 40 → sp_lm 83 g gg r q i → sp_Ev X ac 197 10 [.ref 64, .int (nI r), .ref 83, .int (nI q), .int (nI i)] [] gg := by
  intro m
  induction m with
  | zero =>
    intro i gg h0_ h1_
    refine sr_iload hA si_197_10 rfl ?_
    refine sr_bipush (v := nI 40) hA si_197_12 (by decide) ?_
    refine sr_icmp_geN (tgt := 49) hA si_197_14 (by decide) (by omega) (by omega) (fun c1 => ?_) (fun c1 => absurd c1 (by omega))
    exact sr_vretR hA si_197_49 sq_r_197 (by rw [show i = 40 by omega] at h1_; exact h1_)
  | succ m ih =>
    intro i gg h0_ h1_
    by_cases hiq : i < q
    · refine sr_iload hA si_197_10 rfl ?_
      refine sr_bipush (v := nI 40) hA si_197_12 (by decide) ?_
      refine sr_icmp_geN (tgt := 49) hA si_197_14 (by decide) (by omega) (by omega) (fun c1 => absurd c1 (by omega)) (fun c1 => ?_)
      refine sr_aload_n hA si_197_17 rfl ?_
      refine sr_getR (r := 67) hA si_197_18 sf_197_20 (by decide) (by decide) rfl rfl rfl ?_
      refine sr_bipush (v := nI 40) hA si_197_21 (by decide) ?_
      refine sr_iload_n hA si_197_23 rfl ?_
      refine sr_imulN hA si_197_24 ?_
      refine sr_iload hA si_197_25 rfl ?_
      refine sr_iaddN hA si_197_27 ?_
      refine sr_iload hA si_197_28 rfl ?_
      refine sr_iload_n hA si_197_30 rfl ?_
      refine sr_icmp_geN (tgt := 41) hA si_197_31 (by decide) (by omega) (by omega) (fun c2 => absurd c2 (by omega)) (fun c2 => ?_)
      refine sr_aload_n hA si_197_34 rfl ?_
      refine sr_iload hA si_197_35 rfl ?_
      refine sr_ialdNv (v := g.1 83 i) (n := 12) hA si_197_37 (by decide) rfl rfl (by omega) (by decide) (congrFun (h1_.1 83 (by decide) (by decide)) i) ?_
      refine sr_goto (tgt := 42) hA si_197_38 (by decide) ?_
      refine sr_iastN (n := 240) hA si_197_42 (by decide) rfl rfl (by omega) (by decide) ?_
      refine sr_iincN (x := i) (y := 1) (ls1 := [.ref 64, .int (nI r), .ref 83, .int (nI q), .int (nI (i + 1))]) hA si_197_43 rfl rfl (by rw [sq_l_197]; decide) rfl ?_
      refine sr_goto (tgt := 10) hA si_197_46 (by decide) ?_
      exact ih (i + 1) _ (by omega) (h1_.step (by omega) (by rw [if_pos hiq]))
    · refine sr_iload hA si_197_10 rfl ?_
      refine sr_bipush (v := nI 40) hA si_197_12 (by decide) ?_
      refine sr_icmp_geN (tgt := 49) hA si_197_14 (by decide) (by omega) (by omega) (fun c1 => absurd c1 (by omega)) (fun c1 => ?_)
      refine sr_aload_n hA si_197_17 rfl ?_
      refine sr_getR (r := 67) hA si_197_18 sf_197_20 (by decide) (by decide) rfl rfl rfl ?_
      refine sr_bipush (v := nI 40) hA si_197_21 (by decide) ?_
      refine sr_iload_n hA si_197_23 rfl ?_
      refine sr_imulN hA si_197_24 ?_
      refine sr_iload hA si_197_25 rfl ?_
      refine sr_iaddN hA si_197_27 ?_
      refine sr_iload hA si_197_28 rfl ?_
      refine sr_iload_n hA si_197_30 rfl ?_
      refine sr_icmp_geN (tgt := 41) hA si_197_31 (by decide) (by omega) (by omega) (fun c2 => ?_) (fun c2 => absurd c2 (by omega))
      refine sr_iconst (v := nI 0) hA si_197_41 (by decide) ?_
      refine sr_iastN (n := 240) hA si_197_42 (by decide) rfl rfl (by omega) (by decide) ?_
      refine sr_iincN (x := i) (y := 1) (ls1 := [.ref 64, .int (nI r), .ref 83, .int (nI q), .int (nI (i + 1))]) hA si_197_43 rfl rfl (by rw [sq_l_197]; decide) rfl ?_
      refine sr_goto (tgt := 10) hA si_197_46 (by decide) ?_
      exact ih (i + 1) _ (by omega) (h1_.step (by omega) (by rw [if_neg hiq]; rfl))
set_option maxRecDepth 20000 in
theorem mb_lay83 (X : sp_X) (g : sp_G) {r q : Nat} (hr : r < 6) (hq : q ≤ 6) : sp_Ct X 0 197 [.ref 64, .int (nI r), .ref 83, .int (nI q)] g (sp_Rv (fun g' => sp_lm 83 g g' r q 40)) := by
  refine sp_walkN (n := 5) sq_p_197 sq_l_197 (Nat.le_of_ble_eq_true rfl) (fun ac hA => ?_)
  show sp_Ev X ac 197 0 [.ref 64, .int (nI r), .ref 83, .int (nI q), .null] [] g
  refine sr_aload_n hA si_197_0 rfl ?_
  refine sr_getR (r := 66) hA si_197_1 sf_197_17 (by decide) (by decide) rfl rfl rfl ?_
  refine sr_iload_n hA si_197_4 rfl ?_
  refine sr_iload_n hA si_197_5 rfl ?_
  refine sr_iastN (n := 6) hA si_197_6 (by decide) rfl rfl (by omega) (by decide) ?_
  refine sr_iconst (v := nI 0) hA si_197_7 (by decide) ?_
  refine sr_istore (ls1 := [.ref 64, .int (nI r), .ref 83, .int (nI q), .int (nI 0)]) hA si_197_8 (by rw [sq_l_197]; decide) rfl ?_
  exact ml_lay83 hr hq hA 40 0 _ (by omega) ⟨fun c c1 c2 => sp_wI_ne c1, rfl, fun j hj => by rw [sp_rd, if_neg (fun e => hj e.2)], by rw [sp_rd, if_pos ⟨rfl, rfl⟩], fun x hx => rfl, fun x hx => absurd hx (by omega)⟩
/-! a fold over the keys; what is found goes to a row on both sides -/
def sp_kfo {σ : Type} (F : Nat → σ → σ) (s : σ) : Nat → σ
  | 0 => s
  | i + 1 => F i (sp_kfo F s i)
theorem sp_Rel.lay {g g0 g1 g2 g3 : sp_G} {r q ce : Nat} {w : Nat → Nat} (h : sp_Rel g) (hr : r < 6) (hq : q ≤ 6) (ax : sp_xa g g0) (hx : sp_lx g0 g1 r q q) (hw : ∀ j, j < q → g0.1 38 j = nI (w j)) (am : sp_ma g1 g2) (hm : sp_lm ce g2 g3 r q 40) (hw2 : ∀ j, j < q → g2.1 ce j = nI (w j)) : sp_Rel g3 := by
  obtain ⟨x1, x2, x3, x4, x5⟩ := hx
  obtain ⟨m1, m2, m3, m4, m5, m6⟩ := hm
  have kk : ∀ p, p ≠ 0 → p ≠ 2 → sp_kp p g g3 := fun p hp h2 c j hcj => by
    have c1 : c ≠ 66 := fun e => h2 (by rw [← hcj, e]; rfl)
    have c2 : c ≠ 67 := fun e => h2 (by rw [← hcj, e]; rfl)
    have c3 : c ≠ 9 := fun e => h2 (by rw [← hcj, e]; rfl)
    have c4 : c ≠ 3 + r := fun e => h2 (by rw [← hcj, e]; exact sp_cl3 hr j)
    rw [m1 c c1 c2, am.kp hp c j hcj, x1 c c3 c4, ax.kp hp c j hcj]
  have hl : g3.2 0 = g.2 0 := by
    rw [m2]
    funext j
    rw [am.l 0 j (by omega), x2, ax.l 0 (by decide)]
  have hl2 : ∀ j, j < 30 → g3.2 64 j = g.2 64 j := fun j hj => by rw [m2, am.l 64 j (by omega), x2, ax.l 64 (by decide)]
  have o : ∀ c, sp_xs c ∨ ¬ sp_xs c := fun c => Classical.em _
  have nx : ∀ c, 47 ≤ c ∨ c < 17 → ¬ sp_xs c := fun c hc => by unfold sp_xs; omega
  refine h.R (fun r' hr' => ?_) (kk 3 (by decide) (by decide)) (kk 4 (by decide) (by decide)) (kk 5 (by decide) (by decide)) (kk 6 (by decide) (by decide)) (h.1.kp (kk 1 (by decide) (by decide)) hl ⟨hl2 3 (by omega), hl2 4 (by omega)⟩)
  obtain ⟨h1, h2, h3⟩ := h.2.1 r' hr'
  have e9 : ∀ j, g3.1 9 j = g1.1 9 j := fun j => by rw [m1 9 (by decide) (by decide), am.i 9 (by decide) (by decide) (by decide)]
  have e3 : ∀ j, g3.1 (3 + r') j = g1.1 (3 + r') j := fun j => by rw [m1 (3 + r') (by omega) (by omega), am.i (3 + r') (by omega) (by omega) (by omega)]
  have e66 : ∀ j, g2.1 66 j = g.1 66 j := fun j => by rw [am.i 66 (by decide) (by decide) (by decide), x1 66 (by decide) (by omega), ax.i 66 (nx 66 (by omega))]
  have e67 : ∀ j, g2.1 67 j = g.1 67 j := fun j => by rw [am.i 67 (by decide) (by decide) (by decide), x1 67 (by decide) (by omega), ax.i 67 (nx 67 (by omega))]
  by_cases e : r' = r
  · subst e
    refine ⟨by rw [e9, x4, m4], Or.inr ⟨q, by omega, m4⟩, fun i hi => ?_⟩
    rw [e3, x5 i hi, m6 i hi]
    by_cases hiq : i < q
    · rw [if_pos hiq, if_pos hiq, hw i hiq, hw2 i hiq]
    · rw [if_neg hiq, if_neg hiq]
  · refine ⟨by rw [e9, x3 r' e, ax.i 9 (nx 9 (by omega)), m3 r' e, e66]; exact h1, by rw [m3 r' e, e66]; exact h2, fun i hi => ?_⟩
    rw [e3, x1 (3 + r') (by omega) (by omega), ax.i (3 + r') (nx _ (by omega)), m5 (40 * r' + i) (by omega), e67]
    exact h3 i hi
