/-! THE RELATION between the class's cells and the reference's -/
def sp_cl6 (c j : Nat) : Nat :=
  if c = 0 then (if j = 11 ∨ j = 12 then 1 else 0) else if c = 63 then 1 else if c = 65 then 1
  else if c = 64 then (if j = 0 ∨ j = 2 then 1 else if j = 11 then 4 else if j = 10 ∨ j = 21 then 5 else 0)
  else if 3 ≤ c ∧ c ≤ 9 then 2 else if c = 66 ∨ c = 67 then 2
  else if 12 ≤ c ∧ c ≤ 16 then 3 else if c = 69 ∨ c = 70 then 3
  else if c = 18 then (if j = 3 then 4 else 0) else if 19 ≤ c ∧ c ≤ 21 then 4 else if 71 ≤ c ∧ c ≤ 73 then 4
  else if c = 41 then 5 else if c = 42 then 5 else if c = 47 then (if j = 1 ∨ j = 2 then 5 else 0) else if c = 48 then 5 else if c = 75 then (if j < 9 then 5 else 0) else if c = 76 then 5
  else if 50 ≤ c ∧ c ≤ 55 then 6 else if 77 ≤ c ∧ c ≤ 81 then 6 else 0
def sp_kp (q : Nat) (g g' : sp_G) : Prop := ∀ c j, sp_cl6 c j = q → g'.1 c j = g.1 c j
theorem sp_kp.rf {q : Nat} {g : sp_G} : sp_kp q g g := fun _ _ _ => rfl
theorem sp_kp.tr {q : Nat} {g g1 g2 : sp_G} (h1 : sp_kp q g g1) (h2 : sp_kp q g1 g2) : sp_kp q g g2 := fun c j h => (h2 c j h).trans (h1 c j h)
theorem sp_kp.wI {q : Nat} {g g1 : sp_G} (h : sp_kp q g g1) {c j : Nat} {v : Int32} (hq : sp_cl6 c j ≠ q) : sp_kp q g (sp_wI g1 c j v) := fun c' j' h' => by
  show (if c' = c ∧ j' = j then v else g1.1 c' j') = _
  rw [if_neg (fun e => hq (by rw [← e.1, ← e.2]; exact h'))]
  exact h c' j' h'
theorem sp_kp.wL {q : Nat} {g g1 : sp_G} (h : sp_kp q g g1) {c j : Nat} {v : Int64} : sp_kp q g (sp_wL g1 c j v) := h
theorem sp_kp.wA {q : Nat} {g g1 : sp_G} (h : sp_kp q g g1) {c : Nat} {f : Nat → Int32} (hq : ∀ j, sp_cl6 c j ≠ q) : sp_kp q g (sp_wA g1 c f) := fun c' j' h' => by
  show (if c' = c then f else g1.1 c') j' = _
  rw [if_neg (fun e => hq j' (by rw [← e]; exact h'))]
  exact h c' j' h'
theorem sp_kp.fill {q : Nat} {g g1 : sp_G} (h : sp_kp q g g1) {c n : Nat} {v : Int32} (hq : ∀ j, sp_cl6 c j ≠ q) : sp_kp q g (sp_fill g1 c n v) := sp_kp.wA h hq
def sp_sz (x : Int32) (b : Nat) : Prop := x = -1 ∨ ∃ z, z ≤ b ∧ x = nI z
def sp_RF (g : sp_G) : Prop := g.1 0 11 = g.1 64 0 ∧ (∀ f, f < 6 → g.1 63 f = g.1 65 f) ∧ g.1 0 12 = g.1 64 2 ∧ g.2 0 13 = g.2 64 3 ∧ g.2 0 14 = g.2 64 4
def sp_RR (g : sp_G) : Prop := ∀ r, r < 6 → g.1 9 r = g.1 66 r ∧ sp_sz (g.1 66 r) 40 ∧ ∀ i, i < 40 → g.1 (3 + r) i = g.1 67 (40 * r + i)
def sp_RT (g : sp_G) : Prop := ∀ r, r < 4 → g.1 16 r = g.1 69 r ∧ sp_sz (g.1 69 r) 60 ∧ ∀ i, i < 60 → g.1 (12 + r) i = g.1 70 (60 * r + i)
def sp_RK (n : Nat) (g : sp_G) : Prop := n ≤ 6 ∧ g.1 18 3 = nI n ∧ g.1 64 11 = nI n ∧ ∀ i, i < n → (g.1 19 i = g.1 71 i ∧ ∃ k, k ≤ 5 ∧ g.1 71 i = nI k) ∧ (g.1 20 i = g.1 72 i ∧ ∃ s, s ≤ 9 ∧ g.1 72 i = nI s) ∧ (g.1 21 i = g.1 73 i ∧ ∃ p, p ≤ 9 ∧ g.1 73 i = nI p)
/-- a sand of n keys behind k deeds: what lies on each key, what lies on the beach -/
def sp_ok (n k : Nat) (v : Nat → Int32) : Prop := (∀ i, i < 6 → ∃ b, b ≤ 99 + 9 * k ∧ v i = nI b) ∧ (∃ b, b ≤ 700 * k ∧ v 6 = nI b) ∧ ∀ i, n ≤ i → i < 6 → v i = 0
/-- the nine figures of a Sand -/
def sp_sv (g : sp_G) (s o : Nat) : Nat → Int32 := fun j => if j < 6 then g.1 o j else g.1 s (j - 5)
def sp_RS (n dm : Nat) (g : sp_G) : Prop := dm ≤ 60 ∧ g.1 47 1 = nI dm ∧ g.1 64 21 = nI dm ∧ (∃ s, s ≤ 9 ∧ g.1 47 2 = nI s ∧ g.1 64 10 = nI s) ∧ (∀ j, j < 9 → sp_sv g 41 42 j = g.1 75 j) ∧ (∀ j, j < dm → ∀ i, i < 9 → g.1 48 (9 * j + i) = g.1 76 (9 * j + i)) ∧ (∀ i, i < 9 → g.1 48 (9 * dm + i) = g.1 75 i) ∧ ∀ j, j ≤ dm → sp_ok n j (fun i => g.1 48 (9 * j + i))
def sp_RP (n : Nat) (g : sp_G) : Prop := ∀ k, k < 3 → g.1 (50 + k) 3 = g.1 77 k ∧ (g.1 77 k = 0 ∨ (g.1 77 k = 1 ∧ ∃ m, m ≤ 60 ∧ g.1 (50 + k) 1 = nI m ∧ g.1 78 k = nI m ∧ (∃ s, s ≤ 9 ∧ g.1 (50 + k) 2 = nI s ∧ g.1 79 k = nI s) ∧ (∀ j, j < m → ∀ i, i < 9 → g.1 (53 + k) (9 * j + i) = g.1 81 (540 * k + (9 * j + i))) ∧ (∀ i, i < 9 → g.1 (53 + k) (9 * m + i) = g.1 80 (9 * k + i)) ∧ ∀ j, j ≤ m → sp_ok n j (fun i => g.1 (53 + k) (9 * j + i))))
def sp_Rel (g : sp_G) : Prop := sp_RF g ∧ sp_RR g ∧ sp_RT g ∧ ∃ n dm, sp_RK n g ∧ sp_RS n dm g ∧ sp_RP n g
theorem sp_RR.kp {g g' : sp_G} (h : sp_RR g) (k : sp_kp 2 g g') : sp_RR g' := fun r hr => by
  obtain ⟨h1, h2, h3⟩ := h r hr
  have c3 : ∀ j, sp_cl6 (3 + r) j = 2 := fun j => by
    unfold sp_cl6
    rw [if_neg (by omega), if_neg (by omega), if_neg (by omega), if_neg (by omega), if_pos (by omega)]
  rw [k 9 r rfl, k 66 r rfl]
  exact ⟨h1, h2, fun i hi => by rw [k (3 + r) i (c3 i), k 67 _ rfl]; exact h3 i hi⟩
theorem sp_RT.kp {g g' : sp_G} (h : sp_RT g) (k : sp_kp 3 g g') : sp_RT g' := fun r hr => by
  obtain ⟨h1, h2, h3⟩ := h r hr
  have c3 : ∀ j, sp_cl6 (12 + r) j = 3 := fun j => by
    unfold sp_cl6
    rw [if_neg (by omega), if_neg (by omega), if_neg (by omega), if_neg (by omega), if_neg (by omega), if_neg (by omega), if_pos (by omega)]
  rw [k 16 r rfl, k 69 r rfl]
  exact ⟨h1, h2, fun i hi => by rw [k (12 + r) i (c3 i), k 70 _ rfl]; exact h3 i hi⟩
theorem sp_RK.kp {n : Nat} {g g' : sp_G} (h : sp_RK n g) (k : sp_kp 4 g g') : sp_RK n g' := by
  obtain ⟨h1, h2, h3, h4⟩ := h
  refine ⟨h1, by rw [k 18 3 rfl]; exact h2, by rw [k 64 11 rfl]; exact h3, fun i hi => ?_⟩
  rw [k 19 i rfl, k 71 i rfl, k 20 i rfl, k 72 i rfl, k 21 i rfl, k 73 i rfl]
  exact h4 i hi
theorem sp_ok.congr {n k : Nat} {v w : Nat → Int32} (h : sp_ok n k v) (e : ∀ i, i < 9 → w i = v i) : sp_ok n k w := by
  obtain ⟨h1, h2, h3⟩ := h
  exact ⟨fun i hi => by rw [e i (by omega)]; exact h1 i hi, by rw [e 6 (by omega)]; exact h2, fun i h4 h5 => by rw [e i (by omega)]; exact h3 i h4 h5⟩
theorem sp_RS.kp {n dm : Nat} {g g' : sp_G} (h : sp_RS n dm g) (k : sp_kp 5 g g') : sp_RS n dm g' := by
  obtain ⟨h1, h2, h3, h4, h5, h6, h7, h8⟩ := h
  have e48 : ∀ j, g'.1 48 j = g.1 48 j := fun j => k 48 j rfl
  have e76 : ∀ j, g'.1 76 j = g.1 76 j := fun j => k 76 j rfl
  have e75 : ∀ j, j < 9 → g'.1 75 j = g.1 75 j := fun j hj => k 75 j (by unfold sp_cl6; simp [hj])
  refine ⟨h1, by rw [k 47 1 rfl]; exact h2, by rw [k 64 21 rfl]; exact h3, by rw [k 47 2 rfl, k 64 10 rfl]; exact h4, fun j hj => ?_, fun j hj i hi => ?_, fun i hi => ?_, fun j hj => ?_⟩
  · have := h5 j hj
    rw [e75 j hj, ← this]
    unfold sp_sv
    by_cases h : j < 6
    · rw [if_pos h, if_pos h]; exact k 42 j rfl
    · rw [if_neg h, if_neg h]; exact k 41 (j - 5) rfl
  · rw [e48, e76]; exact h6 j hj i hi
  · rw [e48, e75 i hi]; exact h7 i hi
  · exact (h8 j hj).congr (fun i _ => e48 _)
theorem sp_RP.kp {n : Nat} {g g' : sp_G} (h : sp_RP n g) (k : sp_kp 6 g g') : sp_RP n g' := fun q hq => by
  have c5 : ∀ j, sp_cl6 (50 + q) j = 6 := fun j => by
    unfold sp_cl6
    rw [if_neg (by omega), if_neg (by omega), if_neg (by omega), if_neg (by omega), if_neg (by omega), if_neg (by omega), if_neg (by omega), if_neg (by omega), if_neg (by omega), if_neg (by omega), if_neg (by omega), if_neg (by omega), if_neg (by omega), if_neg (by omega), if_neg (by omega), if_neg (by omega), if_neg (by omega), if_pos (by omega)]
  have c6 : ∀ j, sp_cl6 (53 + q) j = 6 := fun j => by
    unfold sp_cl6
    rw [if_neg (by omega), if_neg (by omega), if_neg (by omega), if_neg (by omega), if_neg (by omega), if_neg (by omega), if_neg (by omega), if_neg (by omega), if_neg (by omega), if_neg (by omega), if_neg (by omega), if_neg (by omega), if_neg (by omega), if_neg (by omega), if_neg (by omega), if_neg (by omega), if_neg (by omega), if_pos (by omega)]
  have e5 : ∀ j, g'.1 (50 + q) j = g.1 (50 + q) j := fun j => k _ j (c5 j)
  have e6 : ∀ j, g'.1 (53 + q) j = g.1 (53 + q) j := fun j => k _ j (c6 j)
  obtain ⟨h1, h2⟩ := h q hq
  rw [e5, k 77 q rfl]
  refine ⟨h1, h2.imp id ?_⟩
  rintro ⟨a1, m, a2, a3, a4, a5, a6, a7, a8⟩
  refine ⟨a1, m, a2, by rw [e5]; exact a3, by rw [k 78 q rfl]; exact a4, by rw [e5, k 79 q rfl]; exact a5, fun j hj i hi => by rw [e6, k 81 _ rfl]; exact a6 j hj i hi, fun i hi => by rw [e6, k 80 _ rfl]; exact a7 i hi, fun j hj => (a8 j hj).congr (fun i _ => e6 _)⟩
/-- only what is told of findings and answers changes, or what nobody asks for -/
theorem sp_Rel.F {g g' : sp_G} (h : sp_Rel g) (k2 : sp_kp 2 g g') (k3 : sp_kp 3 g g') (k4 : sp_kp 4 g g') (k5 : sp_kp 5 g g') (k6 : sp_kp 6 g g') (hF : sp_RF g') : sp_Rel g' := by
  obtain ⟨-, hR, hT, n, dm, hK, hS, hP⟩ := h
  exact ⟨hF, hR.kp k2, hT.kp k3, n, dm, hK.kp k4, hS.kp k5, hP.kp k6⟩
theorem sp_Rel.R {g g' : sp_G} (h : sp_Rel g) (hR : sp_RR g') (k3 : sp_kp 3 g g') (k4 : sp_kp 4 g g') (k5 : sp_kp 5 g g') (k6 : sp_kp 6 g g') (hF : sp_RF g') : sp_Rel g' := by
  obtain ⟨-, -, hT, n, dm, hK, hS, hP⟩ := h
  exact ⟨hF, hR, hT.kp k3, n, dm, hK.kp k4, hS.kp k5, hP.kp k6⟩
theorem sp_Rel.T {g g' : sp_G} (h : sp_Rel g) (k2 : sp_kp 2 g g') (hT : sp_RT g') (k4 : sp_kp 4 g g') (k5 : sp_kp 5 g g') (k6 : sp_kp 6 g g') (hF : sp_RF g') : sp_Rel g' := by
  obtain ⟨-, hR, -, n, dm, hK, hS, hP⟩ := h
  exact ⟨hF, hR.kp k2, hT, n, dm, hK.kp k4, hS.kp k5, hP.kp k6⟩
/-- the findings' part when nothing of it changes -/
theorem sp_RF.kp {g g' : sp_G} (h : sp_RF g) (k : sp_kp 1 g g') (hl : g'.2 0 = g.2 0) (hm : g'.2 64 3 = g.2 64 3 ∧ g'.2 64 4 = g.2 64 4) : sp_RF g' := by
  obtain ⟨h1, h2, h3, h4, h5⟩ := h
  exact ⟨by rw [k 0 11 rfl, k 64 0 rfl]; exact h1, fun f hf => by rw [k 63 f rfl, k 65 f rfl]; exact h2 f hf, by rw [k 0 12 rfl, k 64 2 rfl]; exact h3, by rw [hl, hm.1]; exact h4, by rw [hl, hm.2]; exact h5⟩
/-! a method of the class and the reference's, one behind the other: the same answer, and the relation holds again -/
def sp_Pi (X : sp_X) (M1 M2 : Nat) (as : List Value) (g : sp_G) : Prop :=
  ∃ (d1 : Nat) (Q : Int32 → sp_G → Prop), d1 ≤ 40 ∧ sp_Ct X d1 M1 (.ref 0 :: as) g (sp_Ri Q) ∧ ∀ v g1, Q v g1 → ∃ (d2 : Nat) (Q2 : Int32 → sp_G → Prop), d2 ≤ 40 ∧ sp_Ct X d2 M2 (.ref 64 :: as) g1 (sp_Ri Q2) ∧ ∀ v2 g2, Q2 v2 g2 → v2 = v ∧ sp_Rel g2
def sp_Pl (X : sp_X) (M1 M2 : Nat) (as : List Value) (g : sp_G) : Prop :=
  ∃ (d1 : Nat) (Q : Int64 → sp_G → Prop), d1 ≤ 40 ∧ sp_Ct X d1 M1 (.ref 0 :: as) g (sp_Rl Q) ∧ ∀ v g1, Q v g1 → ∃ (d2 : Nat) (Q2 : Int64 → sp_G → Prop), d2 ≤ 40 ∧ sp_Ct X d2 M2 (.ref 64 :: as) g1 (sp_Rl Q2) ∧ ∀ v2 g2, Q2 v2 g2 → v2 = v ∧ sp_Rel g2
theorem sp_Ct.R {X : sp_X} {d N : Nat} {as : List Value} {g : sp_G} {v : Int32} {g1 : sp_G} (h : sp_Ct X d N as g (sp_Fi v g1)) : sp_Ct X d N as g (sp_Ri (fun v' g' => v' = v ∧ g' = g1)) := h.mono (fun r g' q => ⟨v, q.1, rfl, q.2⟩)
theorem sp_Ct.RL {X : sp_X} {d N : Nat} {as : List Value} {g : sp_G} {v : Int64} {g1 : sp_G} (h : sp_Ct X d N as g (sp_Fl v g1)) : sp_Ct X d N as g (sp_Rl (fun v' g' => v' = v ∧ g' = g1)) := h.mono (fun r g' q => ⟨v, q.1, rfl, q.2⟩)
theorem sp_pF {X : sp_X} {M1 M2 d1 d2 : Nat} {as : List Value} {g g1 g2 : sp_G} {v : Int32} (hx : sp_Ct X d1 M1 (.ref 0 :: as) g (sp_Fi v g1)) (hm : sp_Ct X d2 M2 (.ref 64 :: as) g1 (sp_Fi v g2)) (h1 : d1 ≤ 40) (h2 : d2 ≤ 40) (hR : sp_Rel g2) : sp_Pi X M1 M2 as g :=
  ⟨d1, _, h1, hx.R, fun v' g' q => by obtain ⟨rfl, rfl⟩ := q; exact ⟨d2, _, h2, hm.R, fun v2 g3 q => by obtain ⟨rfl, rfl⟩ := q; exact ⟨rfl, hR⟩⟩⟩
theorem sp_pFl {X : sp_X} {M1 M2 d1 d2 : Nat} {as : List Value} {g g1 g2 : sp_G} {v : Int64} (hx : sp_Ct X d1 M1 (.ref 0 :: as) g (sp_Fl v g1)) (hm : sp_Ct X d2 M2 (.ref 64 :: as) g1 (sp_Fl v g2)) (h1 : d1 ≤ 40) (h2 : d2 ≤ 40) (hR : sp_Rel g2) : sp_Pl X M1 M2 as g :=
  ⟨d1, _, h1, hx.RL, fun v' g' q => by obtain ⟨rfl, rfl⟩ := q; exact ⟨d2, _, h2, hm.RL, fun v2 g3 q => by obtain ⟨rfl, rfl⟩ := q; exact ⟨rfl, hR⟩⟩⟩
/-- both refuse: a finding is noted on both sides -/
abbrev sp_rx (g : sp_G) (f : Nat) : sp_G := sp_wI (sp_wI g 0 11 (nI f)) 63 f (g.1 63 f + nI 1)
abbrev sp_rm6 (g : sp_G) (f : Nat) : sp_G := sp_wI (sp_wI g 64 0 (nI f)) 65 f (g.1 65 f + nI 1)
theorem sp_Rel.ref {g : sp_G} (h : sp_Rel g) {f : Nat} (hf : f < 6) : sp_Rel (sp_rm6 (sp_rx g f) f) := by
  have c0 : sp_cl6 0 11 = 1 := rfl
  have c1 : ∀ j, sp_cl6 63 j = 1 := fun _ => rfl
  have c2 : sp_cl6 64 0 = 1 := rfl
  have c3 : ∀ j, sp_cl6 65 j = 1 := fun _ => rfl
  have kk : ∀ q, q ≠ 1 → sp_kp q g (sp_rm6 (sp_rx g f) f) := fun q hq => (((sp_kp.rf.wI (by rw [c0]; exact hq.symm)).wI (by rw [c1]; exact hq.symm)).wI (by rw [c2]; exact hq.symm)).wI (by rw [c3]; exact hq.symm)
  refine h.F (kk 2 (by decide)) (kk 3 (by decide)) (kk 4 (by decide)) (kk 5 (by decide)) (kk 6 (by decide)) ?_
  obtain ⟨⟨h1, h2, h3, h4, h5⟩, -⟩ := h
  refine ⟨rfl, fun q hq => ?_, h3, h4, h5⟩
  show (sp_rm6 (sp_rx g f) f).1 63 q = (sp_rm6 (sp_rx g f) f).1 65 q
  have e1 : (sp_rm6 (sp_rx g f) f).1 63 q = if q = f then g.1 63 f + nI 1 else g.1 63 q := by
    by_cases e : q = f <;> simp [sp_rm6, sp_rx, sp_wI, sp_up, e]
  have e2 : (sp_rm6 (sp_rx g f) f).1 65 q = if q = f then g.1 65 f + nI 1 else g.1 65 q := by
    by_cases e : q = f <;> simp [sp_rm6, sp_rx, sp_wI, sp_up, e]
  rw [e1, e2, h2 q hq, h2 f hf]
