/-! THE CLAIM OUT OF ONE WALK OF THE LAW'S BODY. Your part is whole_start (and what it stands on); all else here is the same for every law, but numbers. -/
def R_law : String := "SandPianoLaw"
def lw_P (b : Addr) (xs : List Int32) (args : Array Value) (s : State) : Prop := args = #[.ref b] ∧ s.IntsAt b xs ∧ xs.length ≤ 384 ∧ (Jvm.Cond.and given_1 narrow_1).before args s = true
def lw_Q (_ : Array Value) (s : State) (o : Outcome) (t : State) : Prop := o = .returned (some (.int 1)) ∧ Framed s o t [] 600000 7302250
def lw_Z (below : List Frame) (a : Array Value) (s : State) : State → Prop := fun t => ∃ o, t.status = .running ∧ Ended t below o ∧ lw_Q a s o t
/-- the law's own end, with 1 on the stack, nothing written that was there before, its room as the claim has it -/
theorem lw_ret {p : Program} {l : Launch} {e : Env} {s : State} {m : MethodId} {below : List Frame} {meth : Method} {c : Code} {b : Nat} (hx : p.tables.exec = Jvm.exec) (hb : c.code = code) (hr : meth.sig.returnType = ret) (hlocks : meth.locks = false) {pc : Nat} {H : Heap} {ls : Array Slot} (hdg : decode code pc = .ok (.ireturn, 1)) : W p l e room_1 s m #[Value.ref b] below meth c H [] 600000 7302250 (lw_Z below #[Value.ref b] s) (F0 m pc ls [.int 1]) := by
  intro T hT X
  obtain ⟨fs, hret, hrun, hended, hW, hframe⟩ := X.leave (v := some (.int 1)) (hlocks := hlocks) (fun h => by rw [hr] at h; cases h)
  have hmeth' : T.vm.method? m = some meth := X.method'
  refine ⟨T.setFrames fs, ?_, .returned (some (.int 1)), hrun, hended, rfl, ⟨_, rfl⟩, hW, hframe⟩
  jvm_step X.here [X.here.top, hx, hb, hdg, hmeth', hr, ret, narrow_b1]
  (try refine ⟨rfl, ?_⟩); (try refine ⟨rfl, ?_⟩)
  first | (intro acts; rw [hret _ acts rfl rfl rfl]) | rw [hret _ _ rfl rfl rfl]
  exact Steps.refl _
/-- what holds at the law's entry: the machine, the code, the tables' words (any of lw_tbl by 'hts w (by decide +kernel)'), the script of L ints xs at the cell b, what the Statement gives of the start (any of its parts by flat_of_before) -/
def lw_At (p : Program) (s : State) (m : MethodId) (meth : Method) (c : Code) (b L : Nat) (xs : Nat → Int32) : Prop :=
  p.tables.exec = Jvm.exec ∧ c.code = code ∧ meth.sig.returnType = ret ∧ c.maxLocals = 4 ∧ s.vm.findClass R_law = some m.cls ∧ (∀ w ∈ lw_tbl, w.before #[Value.ref b] s = true) ∧ va_X b L xs s s.heap ∧ b < s.heap.size ∧ meth.locks = false ∧ (Jvm.Cond.and given_1 narrow_1).before #[Value.ref b] s = true
theorem sp_goodL {N1 i1 : Nat} (h : sp_has i1 (.code (sp_y N1) (sp_b N1) (sp_l N1) (sp_r N1)) = true) : GoodIn lw_tbl (sp_w N1) := fun w hw => ⟨sp_T_tbl w (sp_goodC h w hw).1, (sp_goodC h w hw).2⟩
theorem sy_227 : sp_y 227 = ⟨"SandPianoLaw", "law", "([I)Z"⟩ := by decide +kernel
theorem lw_tLETTERS {s : State} {b : Nat} {A : Nat → Prop} (hgv : (Jvm.Cond.and given_1 narrow_1).before #[Value.ref b] s = true) (hts : ∀ w ∈ lw_tbl, w.before #[Value.ref b] s = true) (hA : ∀ a : Nat, a < s.heap.size → ¬ A a) : ∃ t : Nat, va_Z "SandPiano" "LETTERS" "[I" (.ref t) A s s.heap ∧ va_T .int t 6 (fun j => .int ((sp_tb 1001).getD j 0)) A s s.heap := by
  have hs := flat_of_before _ hgv
  obtain ⟨t, h1, h2⟩ := va_Tof (args := #[Value.ref b]) (s := s) (tm := .static "SandPiano" "LETTERS" "[I") (ty := .int) (N := 6) (f := fun j => .int ((sp_tb 1001).getD j 0)) (A := A) (by decide) (hs (.arrayOf (.static "SandPiano" "LETTERS" "[I") .int) (by decide +kernel)) (va_eqt (hs (.eq (.length (.static "SandPiano" "LETTERS" "[I")) (.int 6)) (by decide +kernel))) (fun j hj => by
    rcases (show j = 0 ∨ j = 1 ∨ j = 2 ∨ j = 3 ∨ j = 4 ∨ j = 5 by omega) with rfl | rfl | rfl | rfl | rfl | rfl
    · exact va_eqt (hs (.eq (.elem (.static "SandPiano" "LETTERS" "[I") (.int 0)) (.int 107)) (by decide +kernel))
    · exact va_eqt (hs (.eq (.elem (.static "SandPiano" "LETTERS" "[I") (.int 1)) (.int 98)) (by decide +kernel))
    · exact va_eqt (hs (.eq (.elem (.static "SandPiano" "LETTERS" "[I") (.int 2)) (.int 115)) (by decide +kernel))
    · exact va_eqt (hs (.eq (.elem (.static "SandPiano" "LETTERS" "[I") (.int 3)) (.int 99)) (by decide +kernel))
    · exact va_eqt (hs (.eq (.elem (.static "SandPiano" "LETTERS" "[I") (.int 4)) (.int 100)) (by decide +kernel))
    · exact va_eqt (hs (.eq (.elem (.static "SandPiano" "LETTERS" "[I") (.int 5)) (.int 114)) (by decide +kernel))) hA
  exact ⟨t, va_Zof (hts (.laysStatic "SandPiano" "LETTERS" "[I") (List.mem_of_getElem? (i := 419) (by decide +kernel))) (hts (.initialized "SandPiano") (List.mem_of_getElem? (i := 66) (by decide +kernel))) h1 hA, h2⟩
theorem lw_tPARENTS {s : State} {b : Nat} {A : Nat → Prop} (hgv : (Jvm.Cond.and given_1 narrow_1).before #[Value.ref b] s = true) (hts : ∀ w ∈ lw_tbl, w.before #[Value.ref b] s = true) (hA : ∀ a : Nat, a < s.heap.size → ¬ A a) : ∃ t : Nat, va_Z "SandPiano" "PARENTS" "[I" (.ref t) A s s.heap ∧ va_T .int t 6 (fun j => .int ((sp_tb 1002).getD j 0)) A s s.heap := by
  have hs := flat_of_before _ hgv
  obtain ⟨t, h1, h2⟩ := va_Tof (args := #[Value.ref b]) (s := s) (tm := .static "SandPiano" "PARENTS" "[I") (ty := .int) (N := 6) (f := fun j => .int ((sp_tb 1002).getD j 0)) (A := A) (by decide) (hs (.arrayOf (.static "SandPiano" "PARENTS" "[I") .int) (by decide +kernel)) (va_eqt (hs (.eq (.length (.static "SandPiano" "PARENTS" "[I")) (.int 6)) (by decide +kernel))) (fun j hj => by
    rcases (show j = 0 ∨ j = 1 ∨ j = 2 ∨ j = 3 ∨ j = 4 ∨ j = 5 by omega) with rfl | rfl | rfl | rfl | rfl | rfl
    · exact va_eqt (hs (.eq (.elem (.static "SandPiano" "PARENTS" "[I") (.int 0)) (.int 0)) (by decide +kernel))
    · exact va_eqt (hs (.eq (.elem (.static "SandPiano" "PARENTS" "[I") (.int 1)) (.int 0)) (by decide +kernel))
    · exact va_eqt (hs (.eq (.elem (.static "SandPiano" "PARENTS" "[I") (.int 2)) (.int 0)) (by decide +kernel))
    · exact va_eqt (hs (.eq (.elem (.static "SandPiano" "PARENTS" "[I") (.int 3)) (.int 0)) (by decide +kernel))
    · exact va_eqt (hs (.eq (.elem (.static "SandPiano" "PARENTS" "[I") (.int 4)) (.int 1)) (by decide +kernel))
    · exact va_eqt (hs (.eq (.elem (.static "SandPiano" "PARENTS" "[I") (.int 5)) (.int 2)) (by decide +kernel))) hA
  exact ⟨t, va_Zof (hts (.laysStatic "SandPiano" "PARENTS" "[I") (List.mem_of_getElem? (i := 468) (by decide +kernel))) (hts (.initialized "SandPiano") (List.mem_of_getElem? (i := 66) (by decide +kernel))) h1 hA, h2⟩
theorem lw_Act {p : Program} {e : Env} {s : State} {m : MethodId} {below : List Frame} {meth : Method} {c : Code} {b L : Nat} {xs : Nat → Int32} {X : sp_X} (C0 : lw_At p s m meth c b L xs) (hK : va_K X.2.1 vwCl (sp_ty X) s) (hSt : sp_St X s s.heap) (hf : ∀ q, sp_A X q → s.heap.size ≤ q) {ce sl : Nat} (h1 : ce ≤ 600000) (h2 : sl ≤ 7302250) : sp_Act X 227 60 (fun r _ => r = some (.int 1)) (p, e, room_1, s, m, #[Value.ref b], below, meth, c, ce, sl, lw_Z below #[Value.ref b] s) := by
  obtain ⟨hx, hb, hr, hml, hown, hts, hX, hbl, hlocks, hgv⟩ := id C0
  refine ⟨hx, hb, hml.trans sq_l_227.symm, by rw [sy_227]; exact hown, fun w hw => hts w (sp_T_tbl w hw), hK, hSt, (show 60 ≤ room_1.frames by decide), (show 64 * 60 ≤ room_1.locals by decide), h1, h2, ?_, ?_, ?_⟩
  · intro pc v g H locs sl2 hd ht hq hw
    have hq2 : some (Value.int v) = some (Value.int 1) := hq
    have ev : v = 1 := Value.int.inj (Option.some.inj hq2)
    subst ev
    show W p X.1 e room_1 s m #[Value.ref b] below meth c H locs ce sl (lw_Z below #[Value.ref b] s) (F0 m pc sl2 [.int 1])
    refine va_forget (fun q hq => hf _ (hw.2.2.2.2 q hq)) ?_
    refine W.widen (k := 600000) (n := 7302250) h1 h2 ?_
    exact lw_ret hx hb hr hlocks hd
  · intro pc v g H locs sl2 hd ht hq hw
    rw [sq_r_227] at ht
    cases ht
  · intro pc g H locs sl2 hd ht hq hw
    rw [sq_r_227] at ht
    cases ht
set_option maxRecDepth 20000 in
theorem lw_last {p : Program} {e : Env} {s : State} {m : MethodId} {below : List Frame} {meth : Method} {c : Code} {b L : Nat} {xs : Nat → Int32} {X : sp_X} {ws : va_W} {H : Heap} {ls : Array Slot} {locs : List Loc} (hL : L ≤ 384) (C0 : lw_At p s m meth c b L xs) (hall : ∀ k, k < 85 → sk_ok X ws H k) (hKT : va_K X.2.1 vwCl (sp_ty X) s) (hP : va_P X.2.1 vwCl ws H) (hD : va_D (fun q => s.heap.size ≤ q) ws) (hS : va_S (fun q => s.heap.size ≤ q) s.heap H locs) (hl : lv_has ls 4 [(3, .int 0), (2, .ref (sp_ad X 64)), (1, .ref (sp_ad X 0)), (0, .ref b)]) (hx1000 : sp_ad X 1000 = b) (z1 : va_Z "SandPiano" "LETTERS" "[I" (.ref (sp_ad X 1001)) (fun q => s.heap.size ≤ q) s s.heap) (z2 : va_T .int (sp_ad X 1001) 6 (fun j => .int ((sp_tb 1001).getD j 0)) (fun q => s.heap.size ≤ q) s s.heap) (z3 : va_Z "SandPiano" "PARENTS" "[I" (.ref (sp_ad X 1002)) (fun q => s.heap.size ≤ q) s s.heap) (z4 : va_T .int (sp_ad X 1002) 6 (fun j => .int ((sp_tb 1002).getD j 0)) (fun q => s.heap.size ≤ q) s s.heap) : W p X.1 e room_1 s m #[Value.ref b] below meth c H locs 85 15719 (lw_Z below #[Value.ref b] s) (F0 m 18 ls []) := by
  obtain ⟨hx, hb, hr, hmlN, hown, hts, hX, hbl, hlocks, hgv⟩ := id C0
  obtain ⟨hPW, hDW, hfr⟩ := sk_W hall hP hD
  have hSt : sp_St X s s.heap := by
    refine ⟨z1.narrow hfr, z2.narrow hfr, z3.narrow hfr, z4.narrow hfr, va_Nw.of rfl (hts (.fieldLinkNest "SandPiano$Reader" 75 "SandPiano" "LETTERS" "[I" "SandPiano") (List.mem_of_getElem? (i := 418) (by decide +kernel))), va_Nw.of rfl (hts (.fieldLinkNest "SandPiano$Keys" 31 "SandPiano" "PARENTS" "[I" "SandPiano") (List.mem_of_getElem? (i := 467) (by decide +kernel)))⟩
  have hAct := lw_Act (e := e) (below := below) (ce := 85) (sl := 15719) C0 hKT hSt hfr (by decide) (by decide)
  have hSc : sp_Sc X (p, e, room_1, s, m, #[Value.ref b], below, meth, c, 85, 15719, lw_Z below #[Value.ref b] s) L xs := ⟨by rw [hx1000]; exact hX, by rw [hx1000]; exact hbl, fun h => by rw [hx1000] at h; exact absurd (hfr _ h) (Nat.not_le.mpr hbl), hL⟩
  refine va_forget (fun q hq => hS.2.2 q hq) ?_
  refine lw_loop hSc hAct (fun _ => rfl) 65 0 sk_g0 ⟨by omega, by omega⟩ sk_Rel H [] ls ⟨hPW, hDW, hS.1, fun q h1 h2 => hS.2.1 q h1 (fun h => absurd h (Nat.not_le.mpr h1)), fun q hq => absurd hq List.not_mem_nil⟩ ⟨hl.1.trans sq_l_227.symm, hl.2.1, fun i v hi hv => ?_⟩
  match i, hi with
  | 0, hi => cases hi; rw [show sp_rv X (.ref 1000) = .ref (sp_ad X 1000) from rfl, hx1000]; exact lv_at hl 3 rfl
  | 1, hi => cases hi; rw [show sp_rv X (.ref 0) = .ref (sp_ad X 0) from rfl]; exact lv_at hl 2 rfl
  | 2, hi => cases hi; rw [show sp_rv X (.ref 64) = .ref (sp_ad X 64) from rfl]; exact lv_at hl 1 rfl
  | 3, hi => cases hi; exact lv_at hl 0 rfl
  | i + 4, hi => cases hi
