/-! contracts that name the memory anew: what has changed, and what lies where -/
def sp_sx (s o : Nat) (g g' : sp_G) : Prop := (∀ c, c ≠ s → c ≠ o → g'.1 c = g.1 c) ∧ g'.2 = g.2
def sp_fx (f : Nat) (g g' : sp_G) : Prop := (∀ c j, ¬ (c = 75 ∧ 9 * f ≤ j ∧ j < 9 * f + 9) → g'.1 c j = g.1 c j) ∧ g'.2 = g.2
def sp_KX (n : Nat) (K T P : Nat → Int32) (g : sp_G) : Prop := g.1 18 3 = nI n ∧ n ≤ 6 ∧ ∀ i, i < n → g.1 19 i = K i ∧ g.1 20 i = T i ∧ g.1 21 i = P i ∧ ∃ k, k ≤ 5 ∧ K i = nI k
def sp_KM (n : Nat) (K T P : Nat → Int32) (g : sp_G) : Prop := g.1 64 11 = nI n ∧ n ≤ 6 ∧ ∀ i, i < n → g.1 71 i = K i ∧ g.1 72 i = T i ∧ g.1 73 i = P i ∧ ∃ k, k ≤ 5 ∧ K i = nI k
def sp_PX (r z : Nat) (f : Nat → Int32) (g : sp_G) : Prop := r < 6 ∧ z ≤ 40 ∧ g.1 9 r = nI z ∧ ∀ i, i < z → g.1 (3 + r) i = f i
def sp_PM (r z : Nat) (f : Nat → Int32) (g : sp_G) : Prop := r < 6 ∧ z ≤ 40 ∧ g.1 66 r = nI z ∧ ∀ i, i < z → g.1 67 (40 * r + i) = f i
theorem sp_sx.S {g : sp_G} {s o : Nat} {v : Nat → Int32} : sp_sx s o g (sp_sS g s o v) := ⟨fun c h1 h2 => sp_sS_o h1 h2, rfl⟩
theorem sp_fx.P {g : sp_G} {f : Nat} {v : Nat → Int32} : sp_fx f g (sp_sP g f v) := ⟨fun c j h => by rw [sp_sP_rd, if_neg h], rfl⟩
theorem sp_xa.sx {g g1 g2 : sp_G} (h : sp_xa g g1) {s o : Nat} (k : sp_sx s o g1 g2) (h1 : sp_xs s) (h2 : sp_xs o) : sp_xa g g2 := ⟨fun c hc => by rw [k.1 c (sp_xs_ne h1 hc) (sp_xs_ne h2 hc)]; exact h.i c hc, fun c hc => by rw [k.2]; exact h.l c hc⟩
theorem sp_ma.fx {g g1 g2 : sp_G} (h : sp_ma g g1) {f : Nat} (k : sp_fx f g1 g2) (hf : 0 < f) : sp_ma g g2 := ⟨fun c h5 h6 h7 => by funext j; rw [k.1 c j (by omega), h.i c h5 h6 h7], fun j hj => by rw [k.1 75 j (by omega)]; exact h.f j hj, fun j hj => by rw [k.1 64 j (by omega)]; exact h.o j hj, fun c j hc => by rw [k.2]; exact h.l c j hc⟩
theorem sp_hS.sx {g g1 : sp_G} {s o s' o' : Nat} {w : Nat → Int32} (h : sp_hS g s' o' w) (k : sp_sx s o g g1) (ha : sp_ap s' o' s o) : sp_hS g1 s' o' w := fun j hj => by
  rw [← h j hj]
  unfold sp_sv
  rw [k.1 s' ha.1 ha.2.1, k.1 o' ha.2.2.1 ha.2.2.2]
theorem sp_hS.xa {g g1 : sp_G} {s o : Nat} {w : Nat → Int32} (h : sp_hS g s o w) (k : sp_xa g g1) (h1 : ¬ sp_xs s) (h2 : ¬ sp_xs o) : sp_hS g1 s o w := fun j hj => by
  rw [← h j hj]
  unfold sp_sv
  rw [k.i s h1, k.i o h2]
theorem sp_hP.fx {g g1 : sp_G} {f f' : Nat} {w : Nat → Int32} (h : sp_hP g f' w) (k : sp_fx f g g1) (hf : f' ≠ f) : sp_hP g1 f' w := fun j hj => by
  rw [← h j hj]
  exact k.1 75 (9 * f' + j) (by omega)
theorem sp_hP.ma {g g1 : sp_G} {w : Nat → Int32} (h : sp_hP g 0 w) (k : sp_ma g g1) : sp_hP g1 0 w := fun j hj => by
  rw [← h j hj]
  exact k.f (9 * 0 + j) (by omega)
theorem sp_KX.xa {n : Nat} {K T P : Nat → Int32} {g g1 : sp_G} (h : sp_KX n K T P g) (k : sp_xa g g1) : sp_KX n K T P g1 := by
  unfold sp_KX
  rw [k.i 18 (by unfold sp_xs; omega), k.i 19 (by unfold sp_xs; omega), k.i 20 (by unfold sp_xs; omega), k.i 21 (by unfold sp_xs; omega)]
  exact h
theorem sp_KM.ma {n : Nat} {K T P : Nat → Int32} {g g1 : sp_G} (h : sp_KM n K T P g) (k : sp_ma g g1) : sp_KM n K T P g1 := by
  unfold sp_KM
  rw [k.o 11 (by omega), k.i 71 (by omega) (by omega) (by omega), k.i 72 (by omega) (by omega) (by omega), k.i 73 (by omega) (by omega) (by omega)]
  exact h
theorem sp_PX.xa {r z : Nat} {f : Nat → Int32} {g g1 : sp_G} (h : sp_PX r z f g) (k : sp_xa g g1) : sp_PX r z f g1 := by
  obtain ⟨h1, h2, h3, h4⟩ := h
  exact ⟨h1, h2, by rw [k.i 9 (by unfold sp_xs; omega)]; exact h3, fun i hi => by rw [k.i (3 + r) (by unfold sp_xs; omega)]; exact h4 i hi⟩
theorem sp_PM.ma {r z : Nat} {f : Nat → Int32} {g g1 : sp_G} (h : sp_PM r z f g) (k : sp_ma g g1) : sp_PM r z f g1 := by
  obtain ⟨h1, h2, h3, h4⟩ := h
  exact ⟨h1, h2, by rw [k.i 66 (by omega) (by omega) (by omega)]; exact h3, fun i hi => by rw [k.i 67 (by omega) (by omega) (by omega)]; exact h4 i hi⟩
theorem sp_Rel.KX {n : Nat} {g : sp_G} (hK : sp_RK n g) : sp_KX n (g.1 71) (g.1 72) (g.1 73) g := ⟨hK.2.1, hK.1, fun i hi => ⟨(hK.2.2.2 i hi).1.1, (hK.2.2.2 i hi).2.1.1, (hK.2.2.2 i hi).2.2.1, (hK.2.2.2 i hi).1.2⟩⟩
theorem sp_Rel.KM {n : Nat} {g : sp_G} (hK : sp_RK n g) : sp_KM n (g.1 71) (g.1 72) (g.1 73) g := ⟨hK.2.2.1, hK.1, fun i hi => ⟨rfl, rfl, rfl, (hK.2.2.2 i hi).1.2⟩⟩
theorem sp_KX.kk {n : Nat} {K T P : Nat → Int32} {g : sp_G} (h : sp_KX n K T P g) : sp_kk g 19 n := fun i hi => by
  obtain ⟨e1, -, -, k, h1, h2⟩ := h.2.2 i hi
  exact ⟨k, h1, e1.trans h2⟩
theorem sp_KM.kk {n : Nat} {K T P : Nat → Int32} {g : sp_G} (h : sp_KM n K T P g) : sp_kk g 71 n := fun i hi => by
  obtain ⟨e1, -, -, k, h1, h2⟩ := h.2.2 i hi
  exact ⟨k, h1, e1.trans h2⟩
theorem sp_Ct.V {X : sp_X} {d N : Nat} {as : List Value} {g g1 : sp_G} {Q : sp_G → Prop} (h : sp_Ct X d N as g (sp_Fv g1)) (hQ : Q g1) : sp_Ct X d N as g (sp_Rv Q) := h.mono (fun r g' q => by obtain ⟨q1, rfl⟩ := q; exact ⟨q1, hQ⟩)
theorem sp_Ct.I {X : sp_X} {d N : Nat} {as : List Value} {g g1 : sp_G} {v : Int32} {Q : Int32 → sp_G → Prop} (h : sp_Ct X d N as g (sp_Fi v g1)) (hQ : Q v g1) : sp_Ct X d N as g (sp_Ri Q) := h.mono (fun r g' q => by obtain ⟨q1, rfl⟩ := q; exact ⟨v, q1, hQ⟩)
/-! the class's -/
theorem xa_take (X : sp_X) (g : sp_G) {s o t p : Nat} {v : Nat → Int32} (hs : sp_sd s o) (ht : sp_sd t p) (ha : sp_ap s o t p) (hv : sp_hS g t p v) : sp_Ct X 1 39 [.ref s, .ref t] g (sp_Rv (fun g' => sp_sx s o g g' ∧ sp_hS g' s o v)) :=
  (xc_take X g hs ht ha).V ⟨sp_sx.S, fun j hj => by rw [sp_sv_s hs.2.2.2.2.2.2.1 hj]; exact hv j hj⟩
theorem xa_sound (X : sp_X) (g : sp_G) {s o i n A B : Nat} {K T P v : Nat → Int32} (hs : sp_sd s o) (hK : sp_KX n K T P g) (hi : i < n) (hv : sp_hS g s o v) (hB : sp_oB n A B v) (hBb : B < 2 ^ 29) : sp_Ct X 2 55 [.ref 18, .int (nI i), .ref s] g (sp_Rv (fun g' => sp_sx s o g g' ∧ sp_hS g' s o (sp_pl n K P v i))) := by
  obtain ⟨h1, h2, h3⟩ := hK
  obtain ⟨e1, e2, e3, k, k1, k2⟩ := h3 i hi
  obtain ⟨b, b1, b2⟩ := hB.2.1
  refine (xc_sound X g hs h1 h2 hi (e1.trans k2) k1 (b := b) (by rw [← b2, ← hv 6 (by omega)]; rfl) (by omega)).V ⟨sp_sx.S, fun j hj => ?_⟩
  rw [sp_sv_s hs.2.2.2.2.2.2.1 hj]
  exact sp_pl_c hv n (by omega) e1 e3 j hj
theorem xa_bears1 (X : sp_X) (g : sp_G) {s o i n : Nat} {K T P v : Nat → Int32} (hs : sp_sd s o) (hK : sp_KX n K T P g) (hi : i < n) (hv : sp_hS g s o v) (h : sp_cb (K i) (T i) (v i) = true) : sp_Ct X 0 45 [.ref 18, .int (nI i), .ref s] g (sp_Fi (nI 1) g) := by
  obtain ⟨h1, h2, h3⟩ := hK
  obtain ⟨e1, e2, e3, k, k1, k2⟩ := h3 i hi
  refine xc_bears1 X g hs (by omega) (e1.trans k2) k1 ?_
  have e := hv i (by omega)
  rw [show sp_sv g s o i = g.1 o i from if_pos (by omega)] at e
  rw [e1, e2, e]; exact h
theorem xa_bears0 (X : sp_X) (g : sp_G) {s o i n : Nat} {K T P v : Nat → Int32} (hs : sp_sd s o) (hK : sp_KX n K T P g) (hi : i < n) (hv : sp_hS g s o v) (h : ¬ sp_cb (K i) (T i) (v i) = true) : sp_Ct X 0 45 [.ref 18, .int (nI i), .ref s] g (sp_Fi (nI 0) g) := by
  obtain ⟨h1, h2, h3⟩ := hK
  obtain ⟨e1, e2, e3, k, k1, k2⟩ := h3 i hi
  refine xc_bears0 X g hs (by omega) (e1.trans k2) k1 ?_
  have e := hv i (by omega)
  rw [show sp_sv g s o i = g.1 o i from if_pos (by omega)] at e
  rw [e1, e2, e]; exact h
def sp_set (n : Nat) (K T v : Nat → Int32) : Nat := sp_st (fun i => sp_cb (K i) (T i) (v i)) n
theorem sp_set64 {n : Nat} {K T v : Nat → Int32} (h : n ≤ 6) : sp_set n K T v < 64 := sp_st_64 _ h
theorem xa_playable (X : sp_X) (g : sp_G) {s o n : Nat} {K T P v : Nat → Int32} (hs : sp_sd s o) (hK : sp_KX n K T P g) (hv : sp_hS g s o v) : sp_Ct X 2 50 [.ref 18, .ref s] g (sp_Fi (nI (sp_set n K T v)) g) := by
  have h := xc_playable X g hs hK.1 hK.2.1 hK.kk
  rw [show sp_st (fun i => sp_cb (g.1 19 i) (g.1 20 i) (g.1 o i)) n = sp_set n K T v from sp_st_c (fun i hi => by
    obtain ⟨e1, e2, -⟩ := hK.2.2 i hi
    have e := hv i (by have := hK.2.1; omega)
    rw [show sp_sv g s o i = g.1 o i from if_pos (by have := hK.2.1; omega)] at e
    rw [e1, e2, e])] at h
  exact h
theorem xa_flood (X : sp_X) (g : sp_G) {s o h n : Nat} {v : Nat → Int32} (hs : sp_sd s o) (hb : n ≤ 6) (hh : h ≤ 9) (hv : sp_hS g s o v) : sp_Ct X 1 60 [.ref s, .int (nI h), .int (nI n)] g (sp_Ri (fun _ g' => sp_sx s o g g' ∧ sp_hS g' s o (sp_td n h v))) :=
  (xc_flood X g hs hb hh).I ⟨sp_sx.S, fun j hj => by rw [sp_sv_s hs.2.2.2.2.2.2.1 hj]; exact sp_td_c hv hb j hj⟩
theorem xa_scoop (X : sp_X) (g : sp_G) {s o i : Nat} {v : Nat → Int32} (hs : sp_sd s o) (hi : i < 6) (m : Int32) (hv : sp_hS g s o v) : sp_Ct X 1 65 [.ref s, .int (nI i), .int m] g (sp_Ri (fun _ g' => sp_sx s o g g' ∧ sp_hS g' s o (sp_mv v i 6 m))) :=
  (xc_scoop X g hs hi m).I ⟨sp_sx.S, fun j hj => by rw [sp_sv_s hs.2.2.2.2.2.2.1 hj]; exact sp_mv_c hv (by omega) (by omega) m j hj⟩
theorem xa_piece (X : sp_X) (g : sp_G) {s o n r z A B : Nat} {K T P v f : Nat → Int32} (hs : sp_sd s o) (hK : sp_KX n K T P g) (hp : sp_PX r z f g) (hzb : z ≤ 12) (hks : sp_ks f n z) (hv : sp_hS g s o v) (hB : sp_oB n A B v) (hAb : A < 2 ^ 20) (hBb : B < 2 ^ 20) : sp_Ct X 4 74 [.ref 18, .ref 1, .int (nI r), .ref s] g (sp_Ri (fun x g' => x = nI (sp_pp n K T P f z v 0).1 ∧ sp_sx s o g g')) := by
  obtain ⟨h1, h2, h3⟩ := id hK
  obtain ⟨p1, p2, p3, p4⟩ := hp
  have hk2 : sp_ks (fun i => g.1 (3 + r) i) n z := fun i hi => by
    obtain ⟨a, a1, a2⟩ := hks i hi
    exact ⟨a, a1, (p4 i hi).trans a2⟩
  have h := xc_piece X g (v := sp_sv g s o) p1 p3 hzb hs h1 h2 hK.kk hk2 (hB.c hv) hAb hBb
  rw [sp_sS_0 hs.2.2.2.2.2.2.1, (sp_pp_c h2 (fun a ha => ⟨(h3 a ha).1, (h3 a ha).2.1, (h3 a ha).2.2.1⟩) z 0 (sp_sv g s o) v (by rw [Nat.zero_add]; exact hk2) (fun j hj => p4 j (by omega)) hv).1] at h
  exact h.I ⟨rfl, sp_sx.S⟩
/-! the reference's -/
theorem ma_copyTo (X : sp_X) (g : sp_G) {f t : Nat} {v : Nat → Int32} (hf : f < 15) (ht : t < 15) (hft : f ≠ t) (hv : sp_hP g f v) : sp_Ct X 1 192 [.ref 64, .int (nI f), .int (nI t)] g (sp_Rv (fun g' => sp_fx t g g' ∧ sp_hP g' t v)) :=
  (mc_copyTo X g hf ht hft).V ⟨sp_fx.P, fun j hj => by rw [sp_pv_s hj]; exact hv j hj⟩
theorem ma_plays (X : sp_X) (g : sp_G) {f i n : Nat} {K T P v : Nat → Int32} (hf : f < 14) (hK : sp_KM n K T P g) (hi : i < n) (hv : sp_hP g f v) : sp_Ct X 2 175 [.ref 64, .int (nI f), .int (nI i)] g (sp_Rv (fun g' => sp_fx f g g' ∧ sp_hP g' f (sp_pl n K P v i))) := by
  obtain ⟨h1, h2, h3⟩ := hK
  obtain ⟨e1, e2, e3, k, k1, k2⟩ := h3 i hi
  refine (mc_plays X g h1 h2 hi hf (e1.trans k2) k1).V ⟨sp_fx.P, fun j hj => ?_⟩
  rw [sp_pv_s hj]
  exact sp_pl_c hv n (by omega) e1 e3 j hj
theorem ma_can1 (X : sp_X) (g : sp_G) {f i n : Nat} {K T P v : Nat → Int32} (hf : f < 14) (hK : sp_KM n K T P g) (hi : i < n) (hv : sp_hP g f v) (h : sp_cb (K i) (T i) (v i) = true) : sp_Ct X 1 165 [.ref 64, .int (nI f), .int (nI i)] g (sp_Fi (nI 1) g) := by
  obtain ⟨h1, h2, h3⟩ := hK
  obtain ⟨e1, e2, e3, k, k1, k2⟩ := h3 i hi
  refine mc_canPlay1 X g hf (by omega) (e1.trans k2) k1 ?_
  rw [e1, e2, show g.1 75 (9 * f + i) = v i from hv i (by omega)]; exact h
theorem ma_can0 (X : sp_X) (g : sp_G) {f i n : Nat} {K T P v : Nat → Int32} (hf : f < 14) (hK : sp_KM n K T P g) (hi : i < n) (hv : sp_hP g f v) (h : ¬ sp_cb (K i) (T i) (v i) = true) : sp_Ct X 1 165 [.ref 64, .int (nI f), .int (nI i)] g (sp_Fi (nI 0) g) := by
  obtain ⟨h1, h2, h3⟩ := hK
  obtain ⟨e1, e2, e3, k, k1, k2⟩ := h3 i hi
  refine mc_canPlay0 X g hf (by omega) (e1.trans k2) k1 ?_
  rw [e1, e2, show g.1 75 (9 * f + i) = v i from hv i (by omega)]; exact h
theorem ma_canSet (X : sp_X) (g : sp_G) {f n : Nat} {K T P v : Nat → Int32} (hf : f < 14) (hK : sp_KM n K T P g) (hv : sp_hP g f v) : sp_Ct X 2 170 [.ref 64, .int (nI f)] g (sp_Fi (nI (sp_set n K T v)) g) := by
  have h := mc_canSet X g (f := f) hK.1 hK.2.1 hf hK.kk
  rw [show sp_st (fun i => sp_cb (g.1 71 i) (g.1 72 i) (g.1 75 (9 * f + i))) n = sp_set n K T v from sp_st_c (fun i hi => by
    obtain ⟨e1, e2, -⟩ := hK.2.2 i hi
    rw [e1, e2, show g.1 75 (9 * f + i) = v i from hv i (by have := hK.2.1; omega)])] at h
  exact h
theorem ma_tides (X : sp_X) (g : sp_G) {f h n : Nat} {v : Nat → Int32} (hn : g.1 64 11 = nI n) (hb : n ≤ 6) (hf : f < 14) (hh : h ≤ 9) (hv : sp_hP g f v) : sp_Ct X 1 181 [.ref 64, .int (nI f), .int (nI h)] g (sp_Ri (fun _ g' => sp_fx f g g' ∧ sp_hP g' f (sp_td n h v))) :=
  (mc_tides X g hn hb hf hh).I ⟨sp_fx.P, fun j hj => by rw [sp_pv_s hj]; exact sp_td_c hv hb j hj⟩
theorem ma_scoop (X : sp_X) (g : sp_G) {f i : Nat} {v : Nat → Int32} (hf : f < 14) (hi : i < 6) (m : Int32) (hv : sp_hP g f v) : sp_Ct X 1 177 [.ref 64, .int (nI f), .int (nI i), .int (nI 6), .int m] g (sp_Ri (fun _ g' => sp_fx f g g' ∧ sp_hP g' f (sp_mv v i 6 m))) :=
  (mc_moves X g (by omega) (by omega) (by omega) m).I ⟨sp_fx.P, fun j hj => by rw [sp_pv_s hj]; exact sp_mv_c hv (by omega) (by omega) m j hj⟩
theorem ma_piece (X : sp_X) (g : sp_G) {q n r z A B : Nat} {K T P v f : Nat → Int32} (hq : q < 14) (hK : sp_KM n K T P g) (hp : sp_PM r z f g) (hzb : z ≤ 12) (hks : sp_ks f n z) (hv : sp_hP g q v) (hB : sp_oB n A B v) (hAb : A < 2 ^ 20) (hBb : B < 2 ^ 20) : sp_Ct X 4 193 [.ref 64, .int (nI q), .int (nI r)] g (sp_Ri (fun x g' => x = nI (sp_pp n K T P f z v 0).1 ∧ sp_fx q g g')) := by
  obtain ⟨h1, h2, h3⟩ := id hK
  obtain ⟨p1, p2, p3, p4⟩ := hp
  have hk2 : sp_ks (fun i => g.1 67 (40 * r + i)) n z := fun i hi => by
    obtain ⟨a, a1, a2⟩ := hks i hi
    exact ⟨a, a1, (p4 i hi).trans a2⟩
  have h := mc_piece X g (v := sp_pv g q) p1 p3 hzb hq h1 h2 hK.kk hk2 (hB.c hv) hAb hBb
  rw [sp_sP_0, (sp_pp_c h2 (fun a ha => ⟨(h3 a ha).1, (h3 a ha).2.1, (h3 a ha).2.2.1⟩) z 0 (sp_pv g q) v (by rw [Nat.zero_add]; exact hk2) (fun j hj => p4 j (by omega)) hv).1] at h
  exact h.I ⟨rfl, sp_fx.P⟩
