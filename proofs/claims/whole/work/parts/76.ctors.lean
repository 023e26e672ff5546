/-! the constructors -/
abbrev sk_Wd : Type := va_W × List (ClassId × FieldType)
def sm_AO (U : State) : Prop := (Cond.arrayOver (.array .int)).before #[] U = true
theorem sm_AO.use {A : Array Value} {U : State} (h : sm_AO U) : (Cond.arrayOver (.array .int)).before A U = true := h
theorem sm_AO.of {A : Array Value} {U : State} (h : (Cond.arrayOver (.array .int)).before A U = true) : sm_AO U := h
theorem sm_AO.moved {u U : State} (hvm : u.vm.Alike U.vm) (h : sm_AO u) : sm_AO U := by
  have h' : (Cond.arrayOver (.array .int)).holds #[] u none u [] = true := h
  simp only [Cond.holds, Cond.value, beq_iff_eq] at h'
  cases hc : u.vm.findClass (FieldType.array .int).toString with
  | none => simp [hc] at h'
  | some cI =>
    simp only [hc, Option.bind_some, Option.bind_eq_some_iff, Option.map_eq_some_iff] at h'
    obtain ⟨cA, hi, k, hk, hb⟩ := h'
    obtain ⟨k', hk', he⟩ := hvm.2.2 _ _ hk
    have hi2 : (U.vm.classes.findIdx? fun (x : Class) => match x.kind with | .array component _ => component == cI | _ => false) = some cA := by
      have e1 := va_idx_bare U.vm cI
      have e2 := va_idx_bare u.vm cI
      have e3 : U.vm.bare = u.vm.bare := by first | exact hvm.bare_eq | exact hvm.bare_eq.symm
      rw [e3] at e1
      exact e1.symm.trans (e2.trans hi)
    have f1 : U.vm.findClass (FieldType.array .int).toString = some cI := by rw [hvm.findClass]; exact hc
    have f2 : ∀ n, U.vm.findClass n = u.vm.findClass n := fun n => by rw [hvm.findClass]
    unfold sm_AO Cond.before Cond.holds
    simp only [Cond.value]
    rw [f1, Option.bind_some]
    refine (congrArg (fun o : Option Nat => (o.bind (fun c => (U.vm.classes[c]?).map fun (k : Class) => match k.kind with | .array _ ty => decide (ty = FieldType.array .int) && decide (U.vm.findClass ("[" ++ (FieldType.array .int).toString) = some c) | _ => false) == some true)) hi2).trans ?_
    have hkind : k'.kind = k.kind := by rw [he]
    simp only [Option.bind_some, hk', Option.map_some, hkind, f2, beq_iff_eq, Option.some.injEq]
    exact hb
def sk_L (U : State) : Prop := va_Nw (.methodLinkNest "SandPiano$Search" 11 ⟨"SandPiano$Keys", "<init>", "()V"⟩ "SandPiano") U ∧ va_Nw (.methodLinkNest "SandPiano$Search" 33 ⟨"SandPiano$SandSet", "<init>", "()V"⟩ "SandPiano") U ∧ va_Nw (.methodLinkNest "SandPiano$Search" 42 ⟨"SandPiano$Sand", "<init>", "()V"⟩ "SandPiano") U ∧ va_Nw (.methodLinkNest "SandPiano" 35 ⟨"SandPiano$Sand", "<init>", "()V"⟩ "SandPiano") U ∧ va_Nw (.methodLinkNest "SandPiano" 48 ⟨"SandPiano$Story", "<init>", "()V"⟩ "SandPiano") U ∧ va_Nw (.methodLinkNest "SandPiano" 59 ⟨"SandPiano$Reader", "<init>", "()V"⟩ "SandPiano") U ∧ va_Nw (.methodLinkNest "SandPiano$Reader" 11 ⟨"SandPiano$Keys", "<init>", "()V"⟩ "SandPiano") U ∧ va_Nw (.methodLinkNest "SandPiano$Reader" 20 ⟨"SandPiano$Sand", "<init>", "()V"⟩ "SandPiano") U
def sk_X (U : State) : Prop := sk_L U ∧ va_AO "SandPiano$Sand" U ∧ va_AO "SandPiano$Story" U ∧ sm_AO U
theorem sk_X.warm {s U : State} (h : sk_X s) (hW : s.WarmedH U.vm) : sk_X U := by
  obtain ⟨⟨h1, h2, h3, h4, h5, h6, h7, h8⟩, h9, h10, h11⟩ := h
  exact ⟨⟨va_Nw.warmM hW h1, va_Nw.warmM hW h2, va_Nw.warmM hW h3, va_Nw.warmM hW h4, va_Nw.warmM hW h5, va_Nw.warmM hW h6, va_Nw.warmM hW h7, va_Nw.warmM hW h8⟩, va_AO.moved hW.alike h9, va_AO.moved hW.alike h10, sm_AO.moved hW.alike h11⟩
theorem sk_X.call {U : State} {g : JFrame} {mk : MethodId} {a : Array Value} (h : sk_X U) : sk_X (U.calling g mk a) := by
  obtain ⟨⟨h1, h2, h3, h4, h5, h6, h7, h8⟩, h9, h10, h11⟩ := h
  exact ⟨⟨va_Nw.same (u := U) rfl rfl h1, va_Nw.same (u := U) rfl rfl h2, va_Nw.same (u := U) rfl rfl h3, va_Nw.same (u := U) rfl rfl h4, va_Nw.same (u := U) rfl rfl h5, va_Nw.same (u := U) rfl rfl h6, va_Nw.same (u := U) rfl rfl h7, va_Nw.same (u := U) rfl rfl h8⟩, va_AO.moved (u := U) (Vm.Alike.refl U.vm) h9, va_AO.moved (u := U) (Vm.Alike.refl U.vm) h10, sm_AO.moved (u := U) (Vm.Alike.refl U.vm) h11⟩
theorem sp_goodW {N N1 i1 : Nat} (h : sp_has i1 (.code (sp_y N1) (sp_b N1) (sp_l N1) (sp_r N1)) = true) : GoodIn (sp_w N) (sp_w N1) := fun w hw => ⟨List.mem_cons_of_mem _ (sp_goodC h w hw).1, (sp_goodC h w hw).2⟩
theorem sy_3 : sp_y 3 = ⟨"java/util/Arrays", "fill", "([II)V"⟩ := by decide +kernel
theorem sl_3 : sp_l 3 = 4 := by decide +kernel
theorem sr_3 : sp_r 3 = none := by decide +kernel
set_option maxHeartbeats 4000000 in
set_option maxRecDepth 100000 in
theorem kc_fill_6 (l : Launch) (D : va_G) (h0 sz : Nat) (cA : ClassId) : Met l (sp_y 3) (sp_w 3) ({ frames := 0, cells := 0, slots := 0, locals := 0 }) (va_Pc [.ref h0, .int (-1)] (fun U => U.heap.size = sz ∧ va_P D vwCl [(h0, .inl (cA, 6, .inl (fun _ => 0)))] U.heap ∧ va_K D vwCl [(cA, .int)] U ∧ va_D (fun _ => True) [(h0, .inl (cA, 6, .inl (fun _ => 0)))] ∧ sk_X U)) (va_Qv (fun u : sk_Wd => u = ([(h0, .inl (cA, 6, .inl (upd (upd (upd (upd (upd (upd (fun _ => 0) 0 (-1)) 1 (-1)) 2 (-1)) 3 (-1)) 4 (-1)) 5 (-1))))], [(cA, .int)])) (fun u t => va_P D vwCl u.1 t.heap ∧ va_K D vwCl u.2 t ∧ va_D (va_A [(h0, .inl (cA, 6, .inl (fun _ => 0)))] sz) u.1) (va_A [(h0, .inl (cA, 6, .inl (fun _ => 0)))] sz)) 0 0 (va_A [(h0, .inl (cA, 6, .inl (fun _ => 0)))] sz) := by
  refine Met.ofW (cc := sp_b 3) (maxL := sp_l 3) (ret := sp_r 3) (by rw [sy_3]; decide) rfl ?_
  intro p e s m args below meth c s₁ B hml hv
  obtain ⟨rfl, hsz, hP, hK, hD0, hE⟩ := hv
  have hx := B.exec
  have hb := B.bytes
  have hrN : meth.sig.returnType = none := B.returns.trans sr_3
  have hmlN : c.maxLocals = 4 := hml.trans sl_3
  have hts := atoms_spec (ws := sp_w 3) B.pre
  have hown : s.vm.findClass "java/util/Arrays" = some m.cls := by
    have h := findClass_of_methodNamed B.named
    rw [sy_3] at h
    exact h
  have hlocks := B.notSynchronized
  have hin : meth.name = "fill" := by
    have h := (name_of_methodNamed B.named B.method).1
    rw [sy_3] at h
    exact h
  subst hsz
  have hD := hD0.self (sz := s.heap.size)
  generalize hAe : va_A [(h0, .inl (cA, 6, .inl (fun _ => 0)))] s.heap.size = A at hD ⊢
  have hA : ∀ q : Nat, s.heap.size ≤ q → A q := fun q h => by rw [← hAe]; exact Or.inr h
  have hS : va_S A s.heap s.heap [] := va_S.rf
  have hP : va_P D vwCl [(h0, .inl (cA, 6, .inl (fun _ => 0)))] s.heap := hP
  have hl := lv_entry ([.ref h0, .int (-1)]) (n := 4) (Nat.le_of_ble_eq_true rfl)
  rw [sl_3, lg_entry_eq]
  generalize (lg_sl ([.ref h0, .int (-1)]) ++ List.replicate (4 - (lg_sl ([.ref h0, .int (-1)])).length) Slot.unset).toArray = ls at hl ⊢
  have hl : lv_has ls 4 [(0, .ref h0), (1, .int (-1))] := hl
  refine lv_iconst (v := 0) hx hb si_3_0 (by decide) ?_
  refine lv_istore_n (lv' := [(2, .int 0), (0, .ref h0), (1, .int (-1))]) hx hb si_3_1 rfl hl (by decide) rfl (fun ls hl => ?_)
  refine lv_aload_n hx hb si_3_2 rfl (lv_at hl 1 rfl) ?_
  refine va_alen (v := 6) hx hb hK hP 0 0 rfl rfl (by decide) si_3_3 ?_
  refine lv_istore_n (lv' := [(3, .int 6), (2, .int 0), (0, .ref h0), (1, .int (-1))]) hx hb si_3_4 rfl hl (by decide) rfl (fun ls hl => ?_)
  refine lv_iload_n hx hb si_3_5 rfl (lv_at hl 1 rfl) ?_
  refine lv_iload_n hx hb si_3_6 rfl (lv_at hl 0 rfl) ?_
  refine lv_icmp_ge (tgt := 20) hx hb si_3_7 (by decide) (fun h => absurd h (by decide)) (fun _ => ?_)
  refine lv_aload_n hx hb si_3_10 rfl (lv_at hl 2 rfl) ?_
  refine lv_iload_n hx hb si_3_11 rfl (lv_at hl 1 rfl) ?_
  refine lv_iload_n hx hb si_3_12 rfl (lv_at hl 3 rfl) ?_
  refine va_iast hx hb hK hP hD hS 0 0 rfl rfl (by unfold vp_in; decide) si_3_13 (fun H locs hP hD hS => ?_)
  have hP : va_P D vwCl [(h0, .inl (cA, 6, .inl (upd (fun _ => 0) 0 (-1))))] H := hP
  have hD : va_D A [(h0, .inl (cA, 6, .inl (upd (fun _ => 0) 0 (-1))))] := hD
  refine lv_iinc (k := 1) (v := 1) (lv' := [(2, .int 1), (3, .int 6), (0, .ref h0), (1, .int (-1))]) hx hb si_3_14 hl rfl (by decide) (by decide) rfl (fun ls hl => ?_)
  refine lv_goto (tgt := 5) hx hb si_3_17 (by decide) ?_
  refine lv_iload_n hx hb si_3_5 rfl (lv_at hl 0 rfl) ?_
  refine lv_iload_n hx hb si_3_6 rfl (lv_at hl 1 rfl) ?_
  refine lv_icmp_ge (tgt := 20) hx hb si_3_7 (by decide) (fun h => absurd h (by decide)) (fun _ => ?_)
  refine lv_aload_n hx hb si_3_10 rfl (lv_at hl 2 rfl) ?_
  refine lv_iload_n hx hb si_3_11 rfl (lv_at hl 0 rfl) ?_
  refine lv_iload_n hx hb si_3_12 rfl (lv_at hl 3 rfl) ?_
  refine va_iast hx hb hK hP hD hS 0 0 rfl rfl (by unfold vp_in; decide) si_3_13 (fun H locs hP hD hS => ?_)
  have hP : va_P D vwCl [(h0, .inl (cA, 6, .inl (upd (upd (fun _ => 0) 0 (-1)) 1 (-1))))] H := hP
  have hD : va_D A [(h0, .inl (cA, 6, .inl (upd (upd (fun _ => 0) 0 (-1)) 1 (-1))))] := hD
  refine lv_iinc (k := 0) (v := 2) (lv' := [(2, .int 2), (3, .int 6), (0, .ref h0), (1, .int (-1))]) hx hb si_3_14 hl rfl (by decide) (by decide) rfl (fun ls hl => ?_)
  refine lv_goto (tgt := 5) hx hb si_3_17 (by decide) ?_
  refine lv_iload_n hx hb si_3_5 rfl (lv_at hl 0 rfl) ?_
  refine lv_iload_n hx hb si_3_6 rfl (lv_at hl 1 rfl) ?_
  refine lv_icmp_ge (tgt := 20) hx hb si_3_7 (by decide) (fun h => absurd h (by decide)) (fun _ => ?_)
  refine lv_aload_n hx hb si_3_10 rfl (lv_at hl 2 rfl) ?_
  refine lv_iload_n hx hb si_3_11 rfl (lv_at hl 0 rfl) ?_
  refine lv_iload_n hx hb si_3_12 rfl (lv_at hl 3 rfl) ?_
  refine va_iast hx hb hK hP hD hS 0 0 rfl rfl (by unfold vp_in; decide) si_3_13 (fun H locs hP hD hS => ?_)
  have hP : va_P D vwCl [(h0, .inl (cA, 6, .inl (upd (upd (upd (fun _ => 0) 0 (-1)) 1 (-1)) 2 (-1))))] H := hP
  have hD : va_D A [(h0, .inl (cA, 6, .inl (upd (upd (upd (fun _ => 0) 0 (-1)) 1 (-1)) 2 (-1))))] := hD
  refine lv_iinc (k := 0) (v := 3) (lv' := [(2, .int 3), (3, .int 6), (0, .ref h0), (1, .int (-1))]) hx hb si_3_14 hl rfl (by decide) (by decide) rfl (fun ls hl => ?_)
  refine lv_goto (tgt := 5) hx hb si_3_17 (by decide) ?_
  refine lv_iload_n hx hb si_3_5 rfl (lv_at hl 0 rfl) ?_
  refine lv_iload_n hx hb si_3_6 rfl (lv_at hl 1 rfl) ?_
  refine lv_icmp_ge (tgt := 20) hx hb si_3_7 (by decide) (fun h => absurd h (by decide)) (fun _ => ?_)
  refine lv_aload_n hx hb si_3_10 rfl (lv_at hl 2 rfl) ?_
  refine lv_iload_n hx hb si_3_11 rfl (lv_at hl 0 rfl) ?_
  refine lv_iload_n hx hb si_3_12 rfl (lv_at hl 3 rfl) ?_
  refine va_iast hx hb hK hP hD hS 0 0 rfl rfl (by unfold vp_in; decide) si_3_13 (fun H locs hP hD hS => ?_)
  have hP : va_P D vwCl [(h0, .inl (cA, 6, .inl (upd (upd (upd (upd (fun _ => 0) 0 (-1)) 1 (-1)) 2 (-1)) 3 (-1))))] H := hP
  have hD : va_D A [(h0, .inl (cA, 6, .inl (upd (upd (upd (upd (fun _ => 0) 0 (-1)) 1 (-1)) 2 (-1)) 3 (-1))))] := hD
  refine lv_iinc (k := 0) (v := 4) (lv' := [(2, .int 4), (3, .int 6), (0, .ref h0), (1, .int (-1))]) hx hb si_3_14 hl rfl (by decide) (by decide) rfl (fun ls hl => ?_)
  refine lv_goto (tgt := 5) hx hb si_3_17 (by decide) ?_
  refine lv_iload_n hx hb si_3_5 rfl (lv_at hl 0 rfl) ?_
  refine lv_iload_n hx hb si_3_6 rfl (lv_at hl 1 rfl) ?_
  refine lv_icmp_ge (tgt := 20) hx hb si_3_7 (by decide) (fun h => absurd h (by decide)) (fun _ => ?_)
  refine lv_aload_n hx hb si_3_10 rfl (lv_at hl 2 rfl) ?_
  refine lv_iload_n hx hb si_3_11 rfl (lv_at hl 0 rfl) ?_
  refine lv_iload_n hx hb si_3_12 rfl (lv_at hl 3 rfl) ?_
  refine va_iast hx hb hK hP hD hS 0 0 rfl rfl (by unfold vp_in; decide) si_3_13 (fun H locs hP hD hS => ?_)
  have hP : va_P D vwCl [(h0, .inl (cA, 6, .inl (upd (upd (upd (upd (upd (fun _ => 0) 0 (-1)) 1 (-1)) 2 (-1)) 3 (-1)) 4 (-1))))] H := hP
  have hD : va_D A [(h0, .inl (cA, 6, .inl (upd (upd (upd (upd (upd (fun _ => 0) 0 (-1)) 1 (-1)) 2 (-1)) 3 (-1)) 4 (-1))))] := hD
  refine lv_iinc (k := 0) (v := 5) (lv' := [(2, .int 5), (3, .int 6), (0, .ref h0), (1, .int (-1))]) hx hb si_3_14 hl rfl (by decide) (by decide) rfl (fun ls hl => ?_)
  refine lv_goto (tgt := 5) hx hb si_3_17 (by decide) ?_
  refine lv_iload_n hx hb si_3_5 rfl (lv_at hl 0 rfl) ?_
  refine lv_iload_n hx hb si_3_6 rfl (lv_at hl 1 rfl) ?_
  refine lv_icmp_ge (tgt := 20) hx hb si_3_7 (by decide) (fun h => absurd h (by decide)) (fun _ => ?_)
  refine lv_aload_n hx hb si_3_10 rfl (lv_at hl 2 rfl) ?_
  refine lv_iload_n hx hb si_3_11 rfl (lv_at hl 0 rfl) ?_
  refine lv_iload_n hx hb si_3_12 rfl (lv_at hl 3 rfl) ?_
  refine va_iast hx hb hK hP hD hS 0 0 rfl rfl (by unfold vp_in; decide) si_3_13 (fun H locs hP hD hS => ?_)
  have hP : va_P D vwCl [(h0, .inl (cA, 6, .inl (upd (upd (upd (upd (upd (upd (fun _ => 0) 0 (-1)) 1 (-1)) 2 (-1)) 3 (-1)) 4 (-1)) 5 (-1))))] H := hP
  have hD : va_D A [(h0, .inl (cA, 6, .inl (upd (upd (upd (upd (upd (upd (fun _ => 0) 0 (-1)) 1 (-1)) 2 (-1)) 3 (-1)) 4 (-1)) 5 (-1))))] := hD
  refine lv_iinc (k := 0) (v := 6) (lv' := [(2, .int 6), (3, .int 6), (0, .ref h0), (1, .int (-1))]) hx hb si_3_14 hl rfl (by decide) (by decide) rfl (fun ls hl => ?_)
  refine lv_goto (tgt := 5) hx hb si_3_17 (by decide) ?_
  refine lv_iload_n hx hb si_3_5 rfl (lv_at hl 0 rfl) ?_
  refine lv_iload_n hx hb si_3_6 rfl (lv_at hl 1 rfl) ?_
  refine lv_icmp_ge (tgt := 20) hx hb si_3_7 (by decide) (fun _ => ?_) (fun h => absurd (by decide) h)
  have hP9 := hP.sub (ws' := [(h0, .inl (cA, 6, .inl (upd (upd (upd (upd (upd (upd (fun _ => 0) 0 (-1)) 1 (-1)) 2 (-1)) 3 (-1)) 4 (-1)) 5 (-1))))]) [0] rfl
  have hD9 := hD.sub (ws' := [(h0, .inl (cA, 6, .inl (upd (upd (upd (upd (upd (upd (fun _ => 0) 0 (-1)) 1 (-1)) 2 (-1)) 3 (-1)) 4 (-1)) 5 (-1))))]) [0] (by decide) rfl
  have hK9 := hK.sub (tys' := [(cA, .int)]) [0] rfl
  exact W.vret hx hb hrN (fun t ht hW => ⟨⟨([(h0, .inl (cA, 6, .inl (upd (upd (upd (upd (upd (upd (fun _ => 0) 0 (-1)) 1 (-1)) 2 (-1)) 3 (-1)) 4 (-1)) 5 (-1))))], [(cA, .int)]), rfl, rfl, by rw [ht]; exact hP9, va_K.moved hW.alike hK9, hD9⟩, hS.F ht⟩) hS.2.2 si_3_20
set_option maxHeartbeats 4000000 in
set_option maxRecDepth 100000 in
theorem kc_fill_4 (l : Launch) (D : va_G) (h0 sz : Nat) (cA : ClassId) : Met l (sp_y 3) (sp_w 3) ({ frames := 0, cells := 0, slots := 0, locals := 0 }) (va_Pc [.ref h0, .int (-1)] (fun U => U.heap.size = sz ∧ va_P D vwCl [(h0, .inl (cA, 4, .inl (fun _ => 0)))] U.heap ∧ va_K D vwCl [(cA, .int)] U ∧ va_D (fun _ => True) [(h0, .inl (cA, 4, .inl (fun _ => 0)))] ∧ sk_X U)) (va_Qv (fun u : sk_Wd => u = ([(h0, .inl (cA, 4, .inl (upd (upd (upd (upd (fun _ => 0) 0 (-1)) 1 (-1)) 2 (-1)) 3 (-1))))], [(cA, .int)])) (fun u t => va_P D vwCl u.1 t.heap ∧ va_K D vwCl u.2 t ∧ va_D (va_A [(h0, .inl (cA, 4, .inl (fun _ => 0)))] sz) u.1) (va_A [(h0, .inl (cA, 4, .inl (fun _ => 0)))] sz)) 0 0 (va_A [(h0, .inl (cA, 4, .inl (fun _ => 0)))] sz) := by
  refine Met.ofW (cc := sp_b 3) (maxL := sp_l 3) (ret := sp_r 3) (by rw [sy_3]; decide) rfl ?_
  intro p e s m args below meth c s₁ B hml hv
  obtain ⟨rfl, hsz, hP, hK, hD0, hE⟩ := hv
  have hx := B.exec
  have hb := B.bytes
  have hrN : meth.sig.returnType = none := B.returns.trans sr_3
  have hmlN : c.maxLocals = 4 := hml.trans sl_3
  have hts := atoms_spec (ws := sp_w 3) B.pre
  have hown : s.vm.findClass "java/util/Arrays" = some m.cls := by
    have h := findClass_of_methodNamed B.named
    rw [sy_3] at h
    exact h
  have hlocks := B.notSynchronized
  have hin : meth.name = "fill" := by
    have h := (name_of_methodNamed B.named B.method).1
    rw [sy_3] at h
    exact h
  subst hsz
  have hD := hD0.self (sz := s.heap.size)
  generalize hAe : va_A [(h0, .inl (cA, 4, .inl (fun _ => 0)))] s.heap.size = A at hD ⊢
  have hA : ∀ q : Nat, s.heap.size ≤ q → A q := fun q h => by rw [← hAe]; exact Or.inr h
  have hS : va_S A s.heap s.heap [] := va_S.rf
  have hP : va_P D vwCl [(h0, .inl (cA, 4, .inl (fun _ => 0)))] s.heap := hP
  have hl := lv_entry ([.ref h0, .int (-1)]) (n := 4) (Nat.le_of_ble_eq_true rfl)
  rw [sl_3, lg_entry_eq]
  generalize (lg_sl ([.ref h0, .int (-1)]) ++ List.replicate (4 - (lg_sl ([.ref h0, .int (-1)])).length) Slot.unset).toArray = ls at hl ⊢
  have hl : lv_has ls 4 [(0, .ref h0), (1, .int (-1))] := hl
  refine lv_iconst (v := 0) hx hb si_3_0 (by decide) ?_
  refine lv_istore_n (lv' := [(2, .int 0), (0, .ref h0), (1, .int (-1))]) hx hb si_3_1 rfl hl (by decide) rfl (fun ls hl => ?_)
  refine lv_aload_n hx hb si_3_2 rfl (lv_at hl 1 rfl) ?_
  refine va_alen (v := 4) hx hb hK hP 0 0 rfl rfl (by decide) si_3_3 ?_
  refine lv_istore_n (lv' := [(3, .int 4), (2, .int 0), (0, .ref h0), (1, .int (-1))]) hx hb si_3_4 rfl hl (by decide) rfl (fun ls hl => ?_)
  refine lv_iload_n hx hb si_3_5 rfl (lv_at hl 1 rfl) ?_
  refine lv_iload_n hx hb si_3_6 rfl (lv_at hl 0 rfl) ?_
  refine lv_icmp_ge (tgt := 20) hx hb si_3_7 (by decide) (fun h => absurd h (by decide)) (fun _ => ?_)
  refine lv_aload_n hx hb si_3_10 rfl (lv_at hl 2 rfl) ?_
  refine lv_iload_n hx hb si_3_11 rfl (lv_at hl 1 rfl) ?_
  refine lv_iload_n hx hb si_3_12 rfl (lv_at hl 3 rfl) ?_
  refine va_iast hx hb hK hP hD hS 0 0 rfl rfl (by unfold vp_in; decide) si_3_13 (fun H locs hP hD hS => ?_)
  have hP : va_P D vwCl [(h0, .inl (cA, 4, .inl (upd (fun _ => 0) 0 (-1))))] H := hP
  have hD : va_D A [(h0, .inl (cA, 4, .inl (upd (fun _ => 0) 0 (-1))))] := hD
  refine lv_iinc (k := 1) (v := 1) (lv' := [(2, .int 1), (3, .int 4), (0, .ref h0), (1, .int (-1))]) hx hb si_3_14 hl rfl (by decide) (by decide) rfl (fun ls hl => ?_)
  refine lv_goto (tgt := 5) hx hb si_3_17 (by decide) ?_
  refine lv_iload_n hx hb si_3_5 rfl (lv_at hl 0 rfl) ?_
  refine lv_iload_n hx hb si_3_6 rfl (lv_at hl 1 rfl) ?_
  refine lv_icmp_ge (tgt := 20) hx hb si_3_7 (by decide) (fun h => absurd h (by decide)) (fun _ => ?_)
  refine lv_aload_n hx hb si_3_10 rfl (lv_at hl 2 rfl) ?_
  refine lv_iload_n hx hb si_3_11 rfl (lv_at hl 0 rfl) ?_
  refine lv_iload_n hx hb si_3_12 rfl (lv_at hl 3 rfl) ?_
  refine va_iast hx hb hK hP hD hS 0 0 rfl rfl (by unfold vp_in; decide) si_3_13 (fun H locs hP hD hS => ?_)
  have hP : va_P D vwCl [(h0, .inl (cA, 4, .inl (upd (upd (fun _ => 0) 0 (-1)) 1 (-1))))] H := hP
  have hD : va_D A [(h0, .inl (cA, 4, .inl (upd (upd (fun _ => 0) 0 (-1)) 1 (-1))))] := hD
  refine lv_iinc (k := 0) (v := 2) (lv' := [(2, .int 2), (3, .int 4), (0, .ref h0), (1, .int (-1))]) hx hb si_3_14 hl rfl (by decide) (by decide) rfl (fun ls hl => ?_)
  refine lv_goto (tgt := 5) hx hb si_3_17 (by decide) ?_
  refine lv_iload_n hx hb si_3_5 rfl (lv_at hl 0 rfl) ?_
  refine lv_iload_n hx hb si_3_6 rfl (lv_at hl 1 rfl) ?_
  refine lv_icmp_ge (tgt := 20) hx hb si_3_7 (by decide) (fun h => absurd h (by decide)) (fun _ => ?_)
  refine lv_aload_n hx hb si_3_10 rfl (lv_at hl 2 rfl) ?_
  refine lv_iload_n hx hb si_3_11 rfl (lv_at hl 0 rfl) ?_
  refine lv_iload_n hx hb si_3_12 rfl (lv_at hl 3 rfl) ?_
  refine va_iast hx hb hK hP hD hS 0 0 rfl rfl (by unfold vp_in; decide) si_3_13 (fun H locs hP hD hS => ?_)
  have hP : va_P D vwCl [(h0, .inl (cA, 4, .inl (upd (upd (upd (fun _ => 0) 0 (-1)) 1 (-1)) 2 (-1))))] H := hP
  have hD : va_D A [(h0, .inl (cA, 4, .inl (upd (upd (upd (fun _ => 0) 0 (-1)) 1 (-1)) 2 (-1))))] := hD
  refine lv_iinc (k := 0) (v := 3) (lv' := [(2, .int 3), (3, .int 4), (0, .ref h0), (1, .int (-1))]) hx hb si_3_14 hl rfl (by decide) (by decide) rfl (fun ls hl => ?_)
  refine lv_goto (tgt := 5) hx hb si_3_17 (by decide) ?_
  refine lv_iload_n hx hb si_3_5 rfl (lv_at hl 0 rfl) ?_
  refine lv_iload_n hx hb si_3_6 rfl (lv_at hl 1 rfl) ?_
  refine lv_icmp_ge (tgt := 20) hx hb si_3_7 (by decide) (fun h => absurd h (by decide)) (fun _ => ?_)
  refine lv_aload_n hx hb si_3_10 rfl (lv_at hl 2 rfl) ?_
  refine lv_iload_n hx hb si_3_11 rfl (lv_at hl 0 rfl) ?_
  refine lv_iload_n hx hb si_3_12 rfl (lv_at hl 3 rfl) ?_
  refine va_iast hx hb hK hP hD hS 0 0 rfl rfl (by unfold vp_in; decide) si_3_13 (fun H locs hP hD hS => ?_)
  have hP : va_P D vwCl [(h0, .inl (cA, 4, .inl (upd (upd (upd (upd (fun _ => 0) 0 (-1)) 1 (-1)) 2 (-1)) 3 (-1))))] H := hP
  have hD : va_D A [(h0, .inl (cA, 4, .inl (upd (upd (upd (upd (fun _ => 0) 0 (-1)) 1 (-1)) 2 (-1)) 3 (-1))))] := hD
  refine lv_iinc (k := 0) (v := 4) (lv' := [(2, .int 4), (3, .int 4), (0, .ref h0), (1, .int (-1))]) hx hb si_3_14 hl rfl (by decide) (by decide) rfl (fun ls hl => ?_)
  refine lv_goto (tgt := 5) hx hb si_3_17 (by decide) ?_
  refine lv_iload_n hx hb si_3_5 rfl (lv_at hl 0 rfl) ?_
  refine lv_iload_n hx hb si_3_6 rfl (lv_at hl 1 rfl) ?_
  refine lv_icmp_ge (tgt := 20) hx hb si_3_7 (by decide) (fun _ => ?_) (fun h => absurd (by decide) h)
  have hP9 := hP.sub (ws' := [(h0, .inl (cA, 4, .inl (upd (upd (upd (upd (fun _ => 0) 0 (-1)) 1 (-1)) 2 (-1)) 3 (-1))))]) [0] rfl
  have hD9 := hD.sub (ws' := [(h0, .inl (cA, 4, .inl (upd (upd (upd (upd (fun _ => 0) 0 (-1)) 1 (-1)) 2 (-1)) 3 (-1))))]) [0] (by decide) rfl
  have hK9 := hK.sub (tys' := [(cA, .int)]) [0] rfl
  exact W.vret hx hb hrN (fun t ht hW => ⟨⟨([(h0, .inl (cA, 4, .inl (upd (upd (upd (upd (fun _ => 0) 0 (-1)) 1 (-1)) 2 (-1)) 3 (-1))))], [(cA, .int)]), rfl, rfl, by rw [ht]; exact hP9, va_K.moved hW.alike hK9, hD9⟩, hS.F ht⟩) hS.2.2 si_3_20
set_option maxHeartbeats 4000000 in
set_option maxRecDepth 100000 in
theorem kc_sand (l : Launch) (D : va_G) (h0 sz : Nat) : Met l (sp_y 7) (sp_w 7) ({ frames := 1, cells := 1, slots := 6, locals := 12 }) (va_Pc [.ref h0] (fun U => U.heap.size = sz ∧ va_P D vwCl [(h0, .inr (2, [.null, .int 0, .int 0, .int 0]))] U.heap ∧ va_K D vwCl [] U ∧ va_D (fun _ => True) [(h0, .inr (2, [.null, .int 0, .int 0, .int 0]))] ∧ sk_X U)) (va_Qv (fun u : sk_Wd => ∃ (q1 : Nat), ∃ (c2 : ClassId), u = ([(h0, .inr (2, [.ref q1, .int 0, .int 0, .int 0])), (q1, .inl (c2, 6, .inl (fun _ => 0)))], [(c2, .int)])) (fun u t => va_P D vwCl u.1 t.heap ∧ va_K D vwCl u.2 t ∧ va_D (va_A [(h0, .inr (2, [.null, .int 0, .int 0, .int 0]))] sz) u.1) (va_A [(h0, .inr (2, [.null, .int 0, .int 0, .int 0]))] sz)) 1 6 (va_A [(h0, .inr (2, [.null, .int 0, .int 0, .int 0]))] sz) := by
  refine Met.ofW (cc := sp_b 7) (maxL := sp_l 7) (ret := sp_r 7) (by rw [sy_7]; decide) rfl ?_
  intro p e s m args below meth c s₁ B hml hv
  obtain ⟨rfl, hsz, hP, hK, hD0, hE⟩ := hv
  have hx := B.exec
  have hb := B.bytes
  have hrN : meth.sig.returnType = none := B.returns.trans sr_7
  have hmlN : c.maxLocals = 1 := hml.trans sl_7
  have hts := atoms_spec (ws := sp_w 7) B.pre
  have hown : s.vm.findClass "SandPiano$Sand" = some m.cls := by
    have h := findClass_of_methodNamed B.named
    rw [sy_7] at h
    exact h
  have hlocks := B.notSynchronized
  have hin : meth.name = "<init>" := by
    have h := (name_of_methodNamed B.named B.method).1
    rw [sy_7] at h
    exact h
  subst hsz
  have hD := hD0.self (sz := s.heap.size)
  generalize hAe : va_A [(h0, .inr (2, [.null, .int 0, .int 0, .int 0]))] s.heap.size = A at hD ⊢
  have hA : ∀ q : Nat, s.heap.size ≤ q → A q := fun q h => by rw [← hAe]; exact Or.inr h
  have hS : va_S A s.heap s.heap [] := va_S.rf
  have hP : va_P D vwCl [(h0, .inr (2, [.null, .int 0, .int 0, .int 0]))] s.heap := hP
  have hl := lv_entry ([.ref h0]) (n := 1) (Nat.le_of_ble_eq_true rfl)
  rw [sl_7, lg_entry_eq]
  generalize (lg_sl ([.ref h0]) ++ List.replicate (1 - (lg_sl ([.ref h0])).length) Slot.unset).toArray = ls at hl ⊢
  have hl : lv_has ls 1 [(0, .ref h0)] := hl
  refine lv_aload_n hx hb si_7_0 rfl (lv_at hl 0 rfl) ?_
  refine W.objInit hx hb hown (hts _ (List.mem_cons_of_mem _ (sp_in (i := 161) (w := .methodLink "SandPiano$Sand" 3 objectInit) (by decide +kernel)))) (hts _ (List.mem_cons_of_mem _ (sp_in (i := 85) (w := .instanceMethod objectInit) (by decide +kernel)))) (hts _ (List.mem_cons_of_mem _ (sp_in (i := 86) (w := .code objectInit ⟨#[0xb1]⟩ 1 none) (by decide +kernel)))) rfl (by rw [hmlN]; exact hl.1) rfl si_7_1 (Nat.le_of_ble_eq_true rfl) (Nat.le_of_ble_eq_true rfl) ?_
  refine W.eq (g2 := F0 m 4 ls []) rfl ?_
  refine lv_aload_n hx hb si_7_4 rfl (lv_at hl 0 rfl) ?_
  refine lv_bipush (v := 6) hx hb si_7_5 (by decide) ?_
  refine va_newa (atype := .int) (ty := .int) (a0 := (6, .inl (fun _ => 0))) hx hb (hts _ (List.mem_cons_of_mem _ (sp_in (i := 105) (w := .arrayClass .int) (by decide +kernel)))) rfl hK hP hD hS hA (fun _ => rfl) (by decide) (by decide) (by decide) (Nat.le_of_ble_eq_true rfl) (Nat.le_of_ble_eq_true rfl) si_7_7 (fun q1 c2 H hK hP hD hS => ?_)
  have hP : va_P D vwCl [(h0, .inr (2, [.null, .int 0, .int 0, .int 0])), (q1, .inl (c2, 6, .inl (fun _ => 0)))] H := hP
  have hD : va_D A [(h0, .inr (2, [.null, .int 0, .int 0, .int 0])), (q1, .inl (c2, 6, .inl (fun _ => 0)))] := hD
  have hK : va_K D vwCl [(c2, .int)] s := hK
  refine W.widen (k := 1) (n := 6) (by omega) (by omega) ?_
  refine va_putF (D := D) (ci := 2) (v := .ref q1) (ty := .array .int) (C := RX2) (T := TX2) (N := 4) hx hb hts (fun w h => List.mem_cons_of_mem _ (sp_lay2 w h)) tyX2 tyX2_ok nmX2 hown hK hP hD hS 0 rfl rfl 0 (by decide) (hts _ (List.mem_cons_of_mem _ (sp_in (i := 162) (w := .fieldLink "SandPiano$Sand" 9 "SandPiano$Sand" "on" "[I") (by decide +kernel)))) (fun _ h9 => h9) rfl hin rfl (by decide +kernel) rfl rfl (Nat.le_of_ble_eq_true rfl) si_7_9 (fun H locs hP hD hS => ?_)
  have hP : va_P D vwCl [(h0, .inr (2, [.ref q1, .int 0, .int 0, .int 0])), (q1, .inl (c2, 6, .inl (fun _ => 0)))] H := hP
  have hD : va_D A [(h0, .inr (2, [.ref q1, .int 0, .int 0, .int 0])), (q1, .inl (c2, 6, .inl (fun _ => 0)))] := hD
  have hP9 := hP.sub (ws' := [(h0, .inr (2, [.ref q1, .int 0, .int 0, .int 0])), (q1, .inl (c2, 6, .inl (fun _ => 0)))]) [0, 1] rfl
  have hD9 := hD.sub (ws' := [(h0, .inr (2, [.ref q1, .int 0, .int 0, .int 0])), (q1, .inl (c2, 6, .inl (fun _ => 0)))]) [0, 1] (by decide) rfl
  have hK9 := hK.sub (tys' := [(c2, .int)]) [0] rfl
  exact W.vret hx hb hrN (fun t ht hW => ⟨⟨([(h0, .inr (2, [.ref q1, .int 0, .int 0, .int 0])), (q1, .inl (c2, 6, .inl (fun _ => 0)))], [(c2, .int)]), rfl, ⟨q1, c2, rfl⟩, by rw [ht]; exact hP9, va_K.moved hW.alike hK9, hD9⟩, hS.F ht⟩) hS.2.2 si_7_12
set_option maxHeartbeats 4000000 in
set_option maxRecDepth 100000 in
theorem kc_keys (l : Launch) (D : va_G) (h0 sz : Nat) : Met l (sp_y 5) (sp_w 5) ({ frames := 1, cells := 3, slots := 18, locals := 12 }) (va_Pc [.ref h0] (fun U => U.heap.size = sz ∧ va_P D vwCl [(h0, .inr (0, [.null, .null, .null, .int 0]))] U.heap ∧ va_K D vwCl [] U ∧ va_D (fun _ => True) [(h0, .inr (0, [.null, .null, .null, .int 0]))] ∧ sk_X U)) (va_Qv (fun u : sk_Wd => ∃ (q1 : Nat), ∃ (c2 : ClassId), ∃ (q3 : Nat), ∃ (c4 : ClassId), ∃ (q5 : Nat), ∃ (c6 : ClassId), u = ([(h0, .inr (0, [.ref q1, .ref q3, .ref q5, .int 0])), (q1, .inl (c2, 6, .inl (fun _ => 0))), (q3, .inl (c4, 6, .inl (fun _ => 0))), (q5, .inl (c6, 6, .inl (fun _ => 0)))], [(c2, .int), (c4, .int), (c6, .int)])) (fun u t => va_P D vwCl u.1 t.heap ∧ va_K D vwCl u.2 t ∧ va_D (va_A [(h0, .inr (0, [.null, .null, .null, .int 0]))] sz) u.1) (va_A [(h0, .inr (0, [.null, .null, .null, .int 0]))] sz)) 3 18 (va_A [(h0, .inr (0, [.null, .null, .null, .int 0]))] sz) := by
  refine Met.ofW (cc := sp_b 5) (maxL := sp_l 5) (ret := sp_r 5) (by rw [sy_5]; decide) rfl ?_
  intro p e s m args below meth c s₁ B hml hv
  obtain ⟨rfl, hsz, hP, hK, hD0, hE⟩ := hv
  have hx := B.exec
  have hb := B.bytes
  have hrN : meth.sig.returnType = none := B.returns.trans sr_5
  have hmlN : c.maxLocals = 1 := hml.trans sl_5
  have hts := atoms_spec (ws := sp_w 5) B.pre
  have hown : s.vm.findClass "SandPiano$Keys" = some m.cls := by
    have h := findClass_of_methodNamed B.named
    rw [sy_5] at h
    exact h
  have hlocks := B.notSynchronized
  have hin : meth.name = "<init>" := by
    have h := (name_of_methodNamed B.named B.method).1
    rw [sy_5] at h
    exact h
  subst hsz
  have hD := hD0.self (sz := s.heap.size)
  generalize hAe : va_A [(h0, .inr (0, [.null, .null, .null, .int 0]))] s.heap.size = A at hD ⊢
  have hA : ∀ q : Nat, s.heap.size ≤ q → A q := fun q h => by rw [← hAe]; exact Or.inr h
  have hS : va_S A s.heap s.heap [] := va_S.rf
  have hP : va_P D vwCl [(h0, .inr (0, [.null, .null, .null, .int 0]))] s.heap := hP
  have hl := lv_entry ([.ref h0]) (n := 1) (Nat.le_of_ble_eq_true rfl)
  rw [sl_5, lg_entry_eq]
  generalize (lg_sl ([.ref h0]) ++ List.replicate (1 - (lg_sl ([.ref h0])).length) Slot.unset).toArray = ls at hl ⊢
  have hl : lv_has ls 1 [(0, .ref h0)] := hl
  refine lv_aload_n hx hb si_5_0 rfl (lv_at hl 0 rfl) ?_
  refine W.objInit hx hb hown (hts _ (List.mem_cons_of_mem _ (sp_in (i := 117) (w := .methodLink "SandPiano$Keys" 3 objectInit) (by decide +kernel)))) (hts _ (List.mem_cons_of_mem _ (sp_in (i := 85) (w := .instanceMethod objectInit) (by decide +kernel)))) (hts _ (List.mem_cons_of_mem _ (sp_in (i := 86) (w := .code objectInit ⟨#[0xb1]⟩ 1 none) (by decide +kernel)))) rfl (by rw [hmlN]; exact hl.1) rfl si_5_1 (Nat.le_of_ble_eq_true rfl) (Nat.le_of_ble_eq_true rfl) ?_
  refine W.eq (g2 := F0 m 4 ls []) rfl ?_
  refine lv_aload_n hx hb si_5_4 rfl (lv_at hl 0 rfl) ?_
  refine lv_bipush (v := 6) hx hb si_5_5 (by decide) ?_
  refine va_newa (atype := .int) (ty := .int) (a0 := (6, .inl (fun _ => 0))) hx hb (hts _ (List.mem_cons_of_mem _ (sp_in (i := 105) (w := .arrayClass .int) (by decide +kernel)))) rfl hK hP hD hS hA (fun _ => rfl) (by decide) (by decide) (by decide) (Nat.le_of_ble_eq_true rfl) (Nat.le_of_ble_eq_true rfl) si_5_7 (fun q1 c2 H hK hP hD hS => ?_)
  have hP : va_P D vwCl [(h0, .inr (0, [.null, .null, .null, .int 0])), (q1, .inl (c2, 6, .inl (fun _ => 0)))] H := hP
  have hD : va_D A [(h0, .inr (0, [.null, .null, .null, .int 0])), (q1, .inl (c2, 6, .inl (fun _ => 0)))] := hD
  have hK : va_K D vwCl [(c2, .int)] s := hK
  refine W.widen (k := 1) (n := 6) (by omega) (by omega) ?_
  refine va_putF (D := D) (ci := 0) (v := .ref q1) (ty := .array .int) (C := RX0) (T := TX0) (N := 4) hx hb hts (fun w h => List.mem_cons_of_mem _ (sp_lay0 w h)) tyX0 tyX0_ok nmX0 hown hK hP hD hS 0 rfl rfl 0 (by decide) (hts _ (List.mem_cons_of_mem _ (sp_in (i := 118) (w := .fieldLink "SandPiano$Keys" 9 "SandPiano$Keys" "kind" "[I") (by decide +kernel)))) (fun _ h9 => h9) rfl hin rfl (by decide +kernel) rfl rfl (Nat.le_of_ble_eq_true rfl) si_5_9 (fun H locs hP hD hS => ?_)
  have hP : va_P D vwCl [(h0, .inr (0, [.ref q1, .null, .null, .int 0])), (q1, .inl (c2, 6, .inl (fun _ => 0)))] H := hP
  have hD : va_D A [(h0, .inr (0, [.ref q1, .null, .null, .int 0])), (q1, .inl (c2, 6, .inl (fun _ => 0)))] := hD
  refine lv_aload_n hx hb si_5_12 rfl (lv_at hl 0 rfl) ?_
  refine lv_bipush (v := 6) hx hb si_5_13 (by decide) ?_
  refine va_newa (atype := .int) (ty := .int) (a0 := (6, .inl (fun _ => 0))) hx hb (hts _ (List.mem_cons_of_mem _ (sp_in (i := 105) (w := .arrayClass .int) (by decide +kernel)))) rfl hK hP hD hS hA (fun _ => rfl) (by decide) (by decide) (by decide) (Nat.le_of_ble_eq_true rfl) (Nat.le_of_ble_eq_true rfl) si_5_15 (fun q3 c4 H hK hP hD hS => ?_)
  have hP : va_P D vwCl [(h0, .inr (0, [.ref q1, .null, .null, .int 0])), (q1, .inl (c2, 6, .inl (fun _ => 0))), (q3, .inl (c4, 6, .inl (fun _ => 0)))] H := hP
  have hD : va_D A [(h0, .inr (0, [.ref q1, .null, .null, .int 0])), (q1, .inl (c2, 6, .inl (fun _ => 0))), (q3, .inl (c4, 6, .inl (fun _ => 0)))] := hD
  have hK : va_K D vwCl [(c2, .int), (c4, .int)] s := hK
  refine W.widen (k := 2) (n := 12) (by omega) (by omega) ?_
  refine va_putF (D := D) (ci := 0) (v := .ref q3) (ty := .array .int) (C := RX0) (T := TX0) (N := 4) hx hb hts (fun w h => List.mem_cons_of_mem _ (sp_lay0 w h)) tyX0 tyX0_ok nmX0 hown hK hP hD hS 0 rfl rfl 1 (by decide) (hts _ (List.mem_cons_of_mem _ (sp_in (i := 121) (w := .fieldLink "SandPiano$Keys" 15 "SandPiano$Keys" "strength" "[I") (by decide +kernel)))) (fun _ h9 => h9) rfl hin rfl (by decide +kernel) rfl rfl (Nat.le_of_ble_eq_true rfl) si_5_17 (fun H locs hP hD hS => ?_)
  have hP : va_P D vwCl [(h0, .inr (0, [.ref q1, .ref q3, .null, .int 0])), (q1, .inl (c2, 6, .inl (fun _ => 0))), (q3, .inl (c4, 6, .inl (fun _ => 0)))] H := hP
  have hD : va_D A [(h0, .inr (0, [.ref q1, .ref q3, .null, .int 0])), (q1, .inl (c2, 6, .inl (fun _ => 0))), (q3, .inl (c4, 6, .inl (fun _ => 0)))] := hD
  refine lv_aload_n hx hb si_5_20 rfl (lv_at hl 0 rfl) ?_
  refine lv_bipush (v := 6) hx hb si_5_21 (by decide) ?_
  refine va_newa (atype := .int) (ty := .int) (a0 := (6, .inl (fun _ => 0))) hx hb (hts _ (List.mem_cons_of_mem _ (sp_in (i := 105) (w := .arrayClass .int) (by decide +kernel)))) rfl hK hP hD hS hA (fun _ => rfl) (by decide) (by decide) (by decide) (Nat.le_of_ble_eq_true rfl) (Nat.le_of_ble_eq_true rfl) si_5_23 (fun q5 c6 H hK hP hD hS => ?_)
  have hP : va_P D vwCl [(h0, .inr (0, [.ref q1, .ref q3, .null, .int 0])), (q1, .inl (c2, 6, .inl (fun _ => 0))), (q3, .inl (c4, 6, .inl (fun _ => 0))), (q5, .inl (c6, 6, .inl (fun _ => 0)))] H := hP
  have hD : va_D A [(h0, .inr (0, [.ref q1, .ref q3, .null, .int 0])), (q1, .inl (c2, 6, .inl (fun _ => 0))), (q3, .inl (c4, 6, .inl (fun _ => 0))), (q5, .inl (c6, 6, .inl (fun _ => 0)))] := hD
  have hK : va_K D vwCl [(c2, .int), (c4, .int), (c6, .int)] s := hK
  refine W.widen (k := 3) (n := 18) (by omega) (by omega) ?_
  refine va_putF (D := D) (ci := 0) (v := .ref q5) (ty := .array .int) (C := RX0) (T := TX0) (N := 4) hx hb hts (fun w h => List.mem_cons_of_mem _ (sp_lay0 w h)) tyX0 tyX0_ok nmX0 hown hK hP hD hS 0 rfl rfl 2 (by decide) (hts _ (List.mem_cons_of_mem _ (sp_in (i := 124) (w := .fieldLink "SandPiano$Keys" 18 "SandPiano$Keys" "pay" "[I") (by decide +kernel)))) (fun _ h9 => h9) rfl hin rfl (by decide +kernel) rfl rfl (Nat.le_of_ble_eq_true rfl) si_5_25 (fun H locs hP hD hS => ?_)
  have hP : va_P D vwCl [(h0, .inr (0, [.ref q1, .ref q3, .ref q5, .int 0])), (q1, .inl (c2, 6, .inl (fun _ => 0))), (q3, .inl (c4, 6, .inl (fun _ => 0))), (q5, .inl (c6, 6, .inl (fun _ => 0)))] H := hP
  have hD : va_D A [(h0, .inr (0, [.ref q1, .ref q3, .ref q5, .int 0])), (q1, .inl (c2, 6, .inl (fun _ => 0))), (q3, .inl (c4, 6, .inl (fun _ => 0))), (q5, .inl (c6, 6, .inl (fun _ => 0)))] := hD
  have hP9 := hP.sub (ws' := [(h0, .inr (0, [.ref q1, .ref q3, .ref q5, .int 0])), (q1, .inl (c2, 6, .inl (fun _ => 0))), (q3, .inl (c4, 6, .inl (fun _ => 0))), (q5, .inl (c6, 6, .inl (fun _ => 0)))]) [0, 1, 2, 3] rfl
  have hD9 := hD.sub (ws' := [(h0, .inr (0, [.ref q1, .ref q3, .ref q5, .int 0])), (q1, .inl (c2, 6, .inl (fun _ => 0))), (q3, .inl (c4, 6, .inl (fun _ => 0))), (q5, .inl (c6, 6, .inl (fun _ => 0)))]) [0, 1, 2, 3] (by decide) rfl
  have hK9 := hK.sub (tys' := [(c2, .int), (c4, .int), (c6, .int)]) [0, 1, 2] rfl
  exact W.vret hx hb hrN (fun t ht hW => ⟨⟨([(h0, .inr (0, [.ref q1, .ref q3, .ref q5, .int 0])), (q1, .inl (c2, 6, .inl (fun _ => 0))), (q3, .inl (c4, 6, .inl (fun _ => 0))), (q5, .inl (c6, 6, .inl (fun _ => 0)))], [(c2, .int), (c4, .int), (c6, .int)]), rfl, ⟨q1, c2, q3, c4, q5, c6, rfl⟩, by rw [ht]; exact hP9, va_K.moved hW.alike hK9, hD9⟩, hS.F ht⟩) hS.2.2 si_5_28
set_option maxHeartbeats 4000000 in
set_option maxRecDepth 100000 in
theorem kc_set (l : Launch) (D : va_G) (h0 sz : Nat) : Met l (sp_y 6) (sp_w 6) ({ frames := 1, cells := 1, slots := 2048, locals := 12 }) (va_Pc [.ref h0] (fun U => U.heap.size = sz ∧ va_P D vwCl [(h0, .inr (3, [.null, .int 0]))] U.heap ∧ va_K D vwCl [] U ∧ va_D (fun _ => True) [(h0, .inr (3, [.null, .int 0]))] ∧ sk_X U)) (va_Qv (fun u : sk_Wd => ∃ (q1 : Nat), ∃ (c2 : ClassId), u = ([(h0, .inr (3, [.ref q1, .int 0])), (q1, .inl (c2, 2048, .inr (.inl (fun _ => 0))))], [(c2, .long)])) (fun u t => va_P D vwCl u.1 t.heap ∧ va_K D vwCl u.2 t ∧ va_D (va_A [(h0, .inr (3, [.null, .int 0]))] sz) u.1) (va_A [(h0, .inr (3, [.null, .int 0]))] sz)) 1 2048 (va_A [(h0, .inr (3, [.null, .int 0]))] sz) := by
  refine Met.ofW (cc := sp_b 6) (maxL := sp_l 6) (ret := sp_r 6) (by rw [sy_6]; decide) rfl ?_
  intro p e s m args below meth c s₁ B hml hv
  obtain ⟨rfl, hsz, hP, hK, hD0, hE⟩ := hv
  have hx := B.exec
  have hb := B.bytes
  have hrN : meth.sig.returnType = none := B.returns.trans sr_6
  have hmlN : c.maxLocals = 1 := hml.trans sl_6
  have hts := atoms_spec (ws := sp_w 6) B.pre
  have hown : s.vm.findClass "SandPiano$SandSet" = some m.cls := by
    have h := findClass_of_methodNamed B.named
    rw [sy_6] at h
    exact h
  have hlocks := B.notSynchronized
  have hin : meth.name = "<init>" := by
    have h := (name_of_methodNamed B.named B.method).1
    rw [sy_6] at h
    exact h
  subst hsz
  have hD := hD0.self (sz := s.heap.size)
  generalize hAe : va_A [(h0, .inr (3, [.null, .int 0]))] s.heap.size = A at hD ⊢
  have hA : ∀ q : Nat, s.heap.size ≤ q → A q := fun q h => by rw [← hAe]; exact Or.inr h
  have hS : va_S A s.heap s.heap [] := va_S.rf
  have hP : va_P D vwCl [(h0, .inr (3, [.null, .int 0]))] s.heap := hP
  have hl := lv_entry ([.ref h0]) (n := 1) (Nat.le_of_ble_eq_true rfl)
  rw [sl_6, lg_entry_eq]
  generalize (lg_sl ([.ref h0]) ++ List.replicate (1 - (lg_sl ([.ref h0])).length) Slot.unset).toArray = ls at hl ⊢
  have hl : lv_has ls 1 [(0, .ref h0)] := hl
  refine lv_aload_n hx hb si_6_0 rfl (lv_at hl 0 rfl) ?_
  refine W.objInit hx hb hown (hts _ (List.mem_cons_of_mem _ (sp_in (i := 147) (w := .methodLink "SandPiano$SandSet" 3 objectInit) (by decide +kernel)))) (hts _ (List.mem_cons_of_mem _ (sp_in (i := 85) (w := .instanceMethod objectInit) (by decide +kernel)))) (hts _ (List.mem_cons_of_mem _ (sp_in (i := 86) (w := .code objectInit ⟨#[0xb1]⟩ 1 none) (by decide +kernel)))) rfl (by rw [hmlN]; exact hl.1) rfl si_6_1 (Nat.le_of_ble_eq_true rfl) (Nat.le_of_ble_eq_true rfl) ?_
  refine W.eq (g2 := F0 m 4 ls []) rfl ?_
  refine lv_aload_n hx hb si_6_4 rfl (lv_at hl 0 rfl) ?_
  refine lv_sipush (v := 2048) hx hb si_6_5 (by decide) ?_
  refine va_newa (atype := .long) (ty := .long) (a0 := (2048, .inr (.inl (fun _ => 0)))) hx hb (hts _ (List.mem_cons_of_mem _ (sp_in (i := 156) (w := .arrayClass .long) (by decide +kernel)))) rfl hK hP hD hS hA (fun _ => rfl) (by decide) (by decide) (by decide) (Nat.le_of_ble_eq_true rfl) (Nat.le_of_ble_eq_true rfl) si_6_8 (fun q1 c2 H hK hP hD hS => ?_)
  have hP : va_P D vwCl [(h0, .inr (3, [.null, .int 0])), (q1, .inl (c2, 2048, .inr (.inl (fun _ => 0))))] H := hP
  have hD : va_D A [(h0, .inr (3, [.null, .int 0])), (q1, .inl (c2, 2048, .inr (.inl (fun _ => 0))))] := hD
  have hK : va_K D vwCl [(c2, .long)] s := hK
  refine W.widen (k := 1) (n := 2048) (by omega) (by omega) ?_
  refine va_putF (D := D) (ci := 3) (v := .ref q1) (ty := .array .long) (C := RX3) (T := TX3) (N := 2) hx hb hts (fun w h => List.mem_cons_of_mem _ (sp_lay3 w h)) tyX3 tyX3_ok nmX3 hown hK hP hD hS 0 rfl rfl 0 (by decide) (hts _ (List.mem_cons_of_mem _ (sp_in (i := 148) (w := .fieldLink "SandPiano$SandSet" 11 "SandPiano$SandSet" "slots" "[J") (by decide +kernel)))) (fun _ h9 => h9) rfl hin rfl (by decide +kernel) rfl rfl (Nat.le_of_ble_eq_true rfl) si_6_10 (fun H locs hP hD hS => ?_)
  have hP : va_P D vwCl [(h0, .inr (3, [.ref q1, .int 0])), (q1, .inl (c2, 2048, .inr (.inl (fun _ => 0))))] H := hP
  have hD : va_D A [(h0, .inr (3, [.ref q1, .int 0])), (q1, .inl (c2, 2048, .inr (.inl (fun _ => 0))))] := hD
  have hP9 := hP.sub (ws' := [(h0, .inr (3, [.ref q1, .int 0])), (q1, .inl (c2, 2048, .inr (.inl (fun _ => 0))))]) [0, 1] rfl
  have hD9 := hD.sub (ws' := [(h0, .inr (3, [.ref q1, .int 0])), (q1, .inl (c2, 2048, .inr (.inl (fun _ => 0))))]) [0, 1] (by decide) rfl
  have hK9 := hK.sub (tys' := [(c2, .long)]) [0] rfl
  exact W.vret hx hb hrN (fun t ht hW => ⟨⟨([(h0, .inr (3, [.ref q1, .int 0])), (q1, .inl (c2, 2048, .inr (.inl (fun _ => 0))))], [(c2, .long)]), rfl, ⟨q1, c2, rfl⟩, by rw [ht]; exact hP9, va_K.moved hW.alike hK9, hD9⟩, hS.F ht⟩) hS.2.2 si_6_13
set_option maxHeartbeats 4000000 in
set_option maxRecDepth 100000 in
theorem kc_story (l : Launch) (D : va_G) (h0 sz : Nat) : Met l (sp_y 8) (sp_w 8) ({ frames := 1, cells := 1, slots := 549, locals := 12 }) (va_Pc [.ref h0] (fun U => U.heap.size = sz ∧ va_P D vwCl [(h0, .inr (6, [.null, .int 0, .int 0, .int 0]))] U.heap ∧ va_K D vwCl [] U ∧ va_D (fun _ => True) [(h0, .inr (6, [.null, .int 0, .int 0, .int 0]))] ∧ sk_X U)) (va_Qv (fun u : sk_Wd => ∃ (q1 : Nat), ∃ (c2 : ClassId), u = ([(h0, .inr (6, [.ref q1, .int 0, .int 1, .int 0])), (q1, .inl (c2, 549, .inl (fun _ => 0)))], [(c2, .int)])) (fun u t => va_P D vwCl u.1 t.heap ∧ va_K D vwCl u.2 t ∧ va_D (va_A [(h0, .inr (6, [.null, .int 0, .int 0, .int 0]))] sz) u.1) (va_A [(h0, .inr (6, [.null, .int 0, .int 0, .int 0]))] sz)) 1 549 (va_A [(h0, .inr (6, [.null, .int 0, .int 0, .int 0]))] sz) := by
  refine Met.ofW (cc := sp_b 8) (maxL := sp_l 8) (ret := sp_r 8) (by rw [sy_8]; decide) rfl ?_
  intro p e s m args below meth c s₁ B hml hv
  obtain ⟨rfl, hsz, hP, hK, hD0, hE⟩ := hv
  have hx := B.exec
  have hb := B.bytes
  have hrN : meth.sig.returnType = none := B.returns.trans sr_8
  have hmlN : c.maxLocals = 1 := hml.trans sl_8
  have hts := atoms_spec (ws := sp_w 8) B.pre
  have hown : s.vm.findClass "SandPiano$Story" = some m.cls := by
    have h := findClass_of_methodNamed B.named
    rw [sy_8] at h
    exact h
  have hlocks := B.notSynchronized
  have hin : meth.name = "<init>" := by
    have h := (name_of_methodNamed B.named B.method).1
    rw [sy_8] at h
    exact h
  subst hsz
  have hD := hD0.self (sz := s.heap.size)
  generalize hAe : va_A [(h0, .inr (6, [.null, .int 0, .int 0, .int 0]))] s.heap.size = A at hD ⊢
  have hA : ∀ q : Nat, s.heap.size ≤ q → A q := fun q h => by rw [← hAe]; exact Or.inr h
  have hS : va_S A s.heap s.heap [] := va_S.rf
  have hP : va_P D vwCl [(h0, .inr (6, [.null, .int 0, .int 0, .int 0]))] s.heap := hP
  have hl := lv_entry ([.ref h0]) (n := 1) (Nat.le_of_ble_eq_true rfl)
  rw [sl_8, lg_entry_eq]
  generalize (lg_sl ([.ref h0]) ++ List.replicate (1 - (lg_sl ([.ref h0])).length) Slot.unset).toArray = ls at hl ⊢
  have hl : lv_has ls 1 [(0, .ref h0)] := hl
  refine lv_aload_n hx hb si_8_0 rfl (lv_at hl 0 rfl) ?_
  refine W.objInit hx hb hown (hts _ (List.mem_cons_of_mem _ (sp_in (i := 221) (w := .methodLink "SandPiano$Story" 3 objectInit) (by decide +kernel)))) (hts _ (List.mem_cons_of_mem _ (sp_in (i := 85) (w := .instanceMethod objectInit) (by decide +kernel)))) (hts _ (List.mem_cons_of_mem _ (sp_in (i := 86) (w := .code objectInit ⟨#[0xb1]⟩ 1 none) (by decide +kernel)))) rfl (by rw [hmlN]; exact hl.1) rfl si_8_1 (Nat.le_of_ble_eq_true rfl) (Nat.le_of_ble_eq_true rfl) ?_
  refine W.eq (g2 := F0 m 4 ls []) rfl ?_
  refine lv_aload_n hx hb si_8_4 rfl (lv_at hl 0 rfl) ?_
  refine lv_sipush (v := 549) hx hb si_8_5 (by decide) ?_
  refine va_newa (atype := .int) (ty := .int) (a0 := (549, .inl (fun _ => 0))) hx hb (hts _ (List.mem_cons_of_mem _ (sp_in (i := 105) (w := .arrayClass .int) (by decide +kernel)))) rfl hK hP hD hS hA (fun _ => rfl) (by decide) (by decide) (by decide) (Nat.le_of_ble_eq_true rfl) (Nat.le_of_ble_eq_true rfl) si_8_8 (fun q1 c2 H hK hP hD hS => ?_)
  have hP : va_P D vwCl [(h0, .inr (6, [.null, .int 0, .int 0, .int 0])), (q1, .inl (c2, 549, .inl (fun _ => 0)))] H := hP
  have hD : va_D A [(h0, .inr (6, [.null, .int 0, .int 0, .int 0])), (q1, .inl (c2, 549, .inl (fun _ => 0)))] := hD
  have hK : va_K D vwCl [(c2, .int)] s := hK
  refine W.widen (k := 1) (n := 549) (by omega) (by omega) ?_
  refine va_putF (D := D) (ci := 6) (v := .ref q1) (ty := .array .int) (C := RX6) (T := TX6) (N := 4) hx hb hts (fun w h => List.mem_cons_of_mem _ (sp_lay6 w h)) tyX6 tyX6_ok nmX6 hown hK hP hD hS 0 rfl rfl 0 (by decide) (hts _ (List.mem_cons_of_mem _ (sp_in (i := 222) (w := .fieldLink "SandPiano$Story" 11 "SandPiano$Story" "pages" "[I") (by decide +kernel)))) (fun _ h9 => h9) rfl hin rfl (by decide +kernel) rfl rfl (Nat.le_of_ble_eq_true rfl) si_8_10 (fun H locs hP hD hS => ?_)
  have hP : va_P D vwCl [(h0, .inr (6, [.ref q1, .int 0, .int 0, .int 0])), (q1, .inl (c2, 549, .inl (fun _ => 0)))] H := hP
  have hD : va_D A [(h0, .inr (6, [.ref q1, .int 0, .int 0, .int 0])), (q1, .inl (c2, 549, .inl (fun _ => 0)))] := hD
  refine lv_aload_n hx hb si_8_13 rfl (lv_at hl 0 rfl) ?_
  refine lv_iconst (v := 1) hx hb si_8_14 (by decide) ?_
  refine va_put (D := D) (ci := 6) (v := .int 1) (ty := .int) (C := RX6) (T := TX6) (N := 4) hx hb hts (fun w h => List.mem_cons_of_mem _ (sp_lay6 w h)) tyX6 tyX6_ok nmX6 hown hK hP hD hS 0 rfl rfl 2 (by decide) (hts _ (List.mem_cons_of_mem _ (sp_in (i := 225) (w := .fieldLink "SandPiano$Story" 17 "SandPiano$Story" "spade" "I") (by decide +kernel)))) (fun _ h9 => h9) rfl (by decide +kernel) rfl rfl (Nat.le_of_ble_eq_true rfl) si_8_15 (fun H locs hP hD hS => ?_)
  have hP : va_P D vwCl [(h0, .inr (6, [.ref q1, .int 0, .int 1, .int 0])), (q1, .inl (c2, 549, .inl (fun _ => 0)))] H := hP
  have hD : va_D A [(h0, .inr (6, [.ref q1, .int 0, .int 1, .int 0])), (q1, .inl (c2, 549, .inl (fun _ => 0)))] := hD
  have hP9 := hP.sub (ws' := [(h0, .inr (6, [.ref q1, .int 0, .int 1, .int 0])), (q1, .inl (c2, 549, .inl (fun _ => 0)))]) [0, 1] rfl
  have hD9 := hD.sub (ws' := [(h0, .inr (6, [.ref q1, .int 0, .int 1, .int 0])), (q1, .inl (c2, 549, .inl (fun _ => 0)))]) [0, 1] (by decide) rfl
  have hK9 := hK.sub (tys' := [(c2, .int)]) [0] rfl
  exact W.vret hx hb hrN (fun t ht hW => ⟨⟨([(h0, .inr (6, [.ref q1, .int 0, .int 1, .int 0])), (q1, .inl (c2, 549, .inl (fun _ => 0)))], [(c2, .int)]), rfl, ⟨q1, c2, rfl⟩, by rw [ht]; exact hP9, va_K.moved hW.alike hK9, hD9⟩, hS.F ht⟩) hS.2.2 si_8_18
set_option maxHeartbeats 4000000 in
set_option maxRecDepth 100000 in
theorem kc_rows (l : Launch) (D : va_G) (h0 sz : Nat) : Met l (sp_y 2) (sp_w 2) ({ frames := 1, cells := 8, slots := 252, locals := 23 }) (va_Pc [.ref h0, .int 6, .int 40] (fun U => U.heap.size = sz ∧ va_P D vwCl [(h0, .inr (5, [.null, .null]))] U.heap ∧ va_K D vwCl [] U ∧ va_D (fun _ => True) [(h0, .inr (5, [.null, .null]))] ∧ sk_X U)) (va_Qv (fun u : sk_Wd => ∃ (q1 : Nat), ∃ (c2 : ClassId), ∃ (c3 : ClassId), ∃ (q4 : Nat), ∃ (c5 : ClassId), u = ([(h0, .inr (5, [.ref q1, .ref q4])), (q1, .inl (c2, 6, .inr (.inr (.inr (.inr (sm_f q1 6)))))), ((q1 + 1 + 0), .inl (c3, 40, .inl (fun _ => 0))), ((q1 + 1 + 1), .inl (c3, 40, .inl (fun _ => 0))), ((q1 + 1 + 2), .inl (c3, 40, .inl (fun _ => 0))), ((q1 + 1 + 3), .inl (c3, 40, .inl (fun _ => 0))), ((q1 + 1 + 4), .inl (c3, 40, .inl (fun _ => 0))), ((q1 + 1 + 5), .inl (c3, 40, .inl (fun _ => 0))), (q4, .inl (c5, 6, .inl (upd (upd (upd (upd (upd (upd (fun _ => 0) 0 (-1)) 1 (-1)) 2 (-1)) 3 (-1)) 4 (-1)) 5 (-1))))], [(c2, .array .int), (c3, .int), (c5, .int)])) (fun u t => va_P D vwCl u.1 t.heap ∧ va_K D vwCl u.2 t ∧ va_D (va_A [(h0, .inr (5, [.null, .null]))] sz) u.1) (va_A [(h0, .inr (5, [.null, .null]))] sz)) 8 252 (va_A [(h0, .inr (5, [.null, .null]))] sz) := by
  refine Met.ofW (cc := sp_b 2) (maxL := sp_l 2) (ret := sp_r 2) (by rw [sy_2]; decide) rfl ?_
  intro p e s m args below meth c s₁ B hml hv
  obtain ⟨rfl, hsz, hP, hK, hD0, hE⟩ := hv
  have hx := B.exec
  have hb := B.bytes
  have hrN : meth.sig.returnType = none := B.returns.trans sr_2
  have hmlN : c.maxLocals = 3 := hml.trans sl_2
  have hts := atoms_spec (ws := sp_w 2) B.pre
  have hown : s.vm.findClass "SandPiano$Shelf" = some m.cls := by
    have h := findClass_of_methodNamed B.named
    rw [sy_2] at h
    exact h
  have hlocks := B.notSynchronized
  have hin : meth.name = "<init>" := by
    have h := (name_of_methodNamed B.named B.method).1
    rw [sy_2] at h
    exact h
  subst hsz
  have hD := hD0.self (sz := s.heap.size)
  generalize hAe : va_A [(h0, .inr (5, [.null, .null]))] s.heap.size = A at hD ⊢
  have hA : ∀ q : Nat, s.heap.size ≤ q → A q := fun q h => by rw [← hAe]; exact Or.inr h
  have hS : va_S A s.heap s.heap [] := va_S.rf
  have hP : va_P D vwCl [(h0, .inr (5, [.null, .null]))] s.heap := hP
  have hl := lv_entry ([.ref h0, .int 6, .int 40]) (n := 3) (Nat.le_of_ble_eq_true rfl)
  rw [sl_2, lg_entry_eq]
  generalize (lg_sl ([.ref h0, .int 6, .int 40]) ++ List.replicate (3 - (lg_sl ([.ref h0, .int 6, .int 40])).length) Slot.unset).toArray = ls at hl ⊢
  have hl : lv_has ls 3 [(0, .ref h0), (1, .int 6), (2, .int 40)] := hl
  refine lv_aload_n hx hb si_2_0 rfl (lv_at hl 0 rfl) ?_
  refine W.objInit hx hb hown (hts _ (List.mem_cons_of_mem _ (sp_in (i := 92) (w := .methodLink "SandPiano$Shelf" 1 objectInit) (by decide +kernel)))) (hts _ (List.mem_cons_of_mem _ (sp_in (i := 85) (w := .instanceMethod objectInit) (by decide +kernel)))) (hts _ (List.mem_cons_of_mem _ (sp_in (i := 86) (w := .code objectInit ⟨#[0xb1]⟩ 1 none) (by decide +kernel)))) rfl (by rw [hmlN]; exact hl.1) rfl si_2_1 (Nat.le_of_ble_eq_true rfl) (Nat.le_of_ble_eq_true rfl) ?_
  refine W.eq (g2 := F0 m 4 ls []) rfl ?_
  refine lv_aload_n hx hb si_2_4 rfl (lv_at hl 0 rfl) ?_
  refine lv_iload_n hx hb si_2_5 rfl (lv_at hl 1 rfl) ?_
  refine lv_iload_n hx hb si_2_6 rfl (lv_at hl 2 rfl) ?_
  refine sm_mna hx hb hown (hts _ (List.mem_cons_of_mem _ (sp_in (i := 93) (w := .classLink "SandPiano$Shelf" 7 ("[" ++ (FieldType.array .int).toString)) (by decide +kernel)))) (sm_AO.use hE.2.2.2) (hts _ (List.mem_cons_of_mem _ (sp_in (i := 105) (w := .arrayClass .int) (by decide +kernel)))) hK hP hD hS hA (N := 6) (K := 40) (by decide) (by decide) (by decide) (by decide) (by decide) (by decide) (Nat.le_of_ble_eq_true rfl) (Nat.le_of_ble_eq_true rfl) si_2_7 (fun q1 c2 c3 H hK hP hD hS => ?_)
  have hP : va_P D vwCl [(h0, .inr (5, [.null, .null])), (q1, .inl (c2, 6, .inr (.inr (.inr (.inr (sm_f q1 6)))))), ((q1 + 1 + 0), .inl (c3, 40, .inl (fun _ => 0))), ((q1 + 1 + 1), .inl (c3, 40, .inl (fun _ => 0))), ((q1 + 1 + 2), .inl (c3, 40, .inl (fun _ => 0))), ((q1 + 1 + 3), .inl (c3, 40, .inl (fun _ => 0))), ((q1 + 1 + 4), .inl (c3, 40, .inl (fun _ => 0))), ((q1 + 1 + 5), .inl (c3, 40, .inl (fun _ => 0)))] H := hP
  have hD : va_D A [(h0, .inr (5, [.null, .null])), (q1, .inl (c2, 6, .inr (.inr (.inr (.inr (sm_f q1 6)))))), ((q1 + 1 + 0), .inl (c3, 40, .inl (fun _ => 0))), ((q1 + 1 + 1), .inl (c3, 40, .inl (fun _ => 0))), ((q1 + 1 + 2), .inl (c3, 40, .inl (fun _ => 0))), ((q1 + 1 + 3), .inl (c3, 40, .inl (fun _ => 0))), ((q1 + 1 + 4), .inl (c3, 40, .inl (fun _ => 0))), ((q1 + 1 + 5), .inl (c3, 40, .inl (fun _ => 0)))] := hD
  have hK : va_K D vwCl [(c2, .array .int), (c3, .int)] s := hK
  refine W.widen (k := 7) (n := 246) (by omega) (by omega) ?_
  refine va_putF (D := D) (ci := 5) (v := .ref q1) (ty := .array (.array .int)) (C := RX5) (T := TX5) (N := 2) hx hb hts (fun w h => List.mem_cons_of_mem _ (sp_lay5 w h)) tyX5 tyX5_ok nmX5 hown hK hP hD hS 0 rfl rfl 0 (by decide) (hts _ (List.mem_cons_of_mem _ (sp_in (i := 98) (w := .fieldLink "SandPiano$Shelf" 9 "SandPiano$Shelf" "places" "[[I") (by decide +kernel)))) (fun _ h9 => h9) rfl hin rfl (by decide +kernel) rfl rfl (Nat.le_of_ble_eq_true rfl) si_2_11 (fun H locs hP hD hS => ?_)
  have hP : va_P D vwCl [(h0, .inr (5, [.ref q1, .null])), (q1, .inl (c2, 6, .inr (.inr (.inr (.inr (sm_f q1 6)))))), ((q1 + 1 + 0), .inl (c3, 40, .inl (fun _ => 0))), ((q1 + 1 + 1), .inl (c3, 40, .inl (fun _ => 0))), ((q1 + 1 + 2), .inl (c3, 40, .inl (fun _ => 0))), ((q1 + 1 + 3), .inl (c3, 40, .inl (fun _ => 0))), ((q1 + 1 + 4), .inl (c3, 40, .inl (fun _ => 0))), ((q1 + 1 + 5), .inl (c3, 40, .inl (fun _ => 0)))] H := hP
  have hD : va_D A [(h0, .inr (5, [.ref q1, .null])), (q1, .inl (c2, 6, .inr (.inr (.inr (.inr (sm_f q1 6)))))), ((q1 + 1 + 0), .inl (c3, 40, .inl (fun _ => 0))), ((q1 + 1 + 1), .inl (c3, 40, .inl (fun _ => 0))), ((q1 + 1 + 2), .inl (c3, 40, .inl (fun _ => 0))), ((q1 + 1 + 3), .inl (c3, 40, .inl (fun _ => 0))), ((q1 + 1 + 4), .inl (c3, 40, .inl (fun _ => 0))), ((q1 + 1 + 5), .inl (c3, 40, .inl (fun _ => 0)))] := hD
  refine lv_aload_n hx hb si_2_14 rfl (lv_at hl 0 rfl) ?_
  refine lv_iload_n hx hb si_2_15 rfl (lv_at hl 1 rfl) ?_
  refine va_newa (atype := .int) (ty := .int) (a0 := (6, .inl (fun _ => 0))) hx hb (hts _ (List.mem_cons_of_mem _ (sp_in (i := 105) (w := .arrayClass .int) (by decide +kernel)))) rfl hK hP hD hS hA (fun _ => rfl) (by decide) (by decide) (by decide) (Nat.le_of_ble_eq_true rfl) (Nat.le_of_ble_eq_true rfl) si_2_16 (fun q4 c5 H hK hP hD hS => ?_)
  have hP : va_P D vwCl [(h0, .inr (5, [.ref q1, .null])), (q1, .inl (c2, 6, .inr (.inr (.inr (.inr (sm_f q1 6)))))), ((q1 + 1 + 0), .inl (c3, 40, .inl (fun _ => 0))), ((q1 + 1 + 1), .inl (c3, 40, .inl (fun _ => 0))), ((q1 + 1 + 2), .inl (c3, 40, .inl (fun _ => 0))), ((q1 + 1 + 3), .inl (c3, 40, .inl (fun _ => 0))), ((q1 + 1 + 4), .inl (c3, 40, .inl (fun _ => 0))), ((q1 + 1 + 5), .inl (c3, 40, .inl (fun _ => 0))), (q4, .inl (c5, 6, .inl (fun _ => 0)))] H := hP
  have hD : va_D A [(h0, .inr (5, [.ref q1, .null])), (q1, .inl (c2, 6, .inr (.inr (.inr (.inr (sm_f q1 6)))))), ((q1 + 1 + 0), .inl (c3, 40, .inl (fun _ => 0))), ((q1 + 1 + 1), .inl (c3, 40, .inl (fun _ => 0))), ((q1 + 1 + 2), .inl (c3, 40, .inl (fun _ => 0))), ((q1 + 1 + 3), .inl (c3, 40, .inl (fun _ => 0))), ((q1 + 1 + 4), .inl (c3, 40, .inl (fun _ => 0))), ((q1 + 1 + 5), .inl (c3, 40, .inl (fun _ => 0))), (q4, .inl (c5, 6, .inl (fun _ => 0)))] := hD
  have hK : va_K D vwCl [(c2, .array .int), (c3, .int), (c5, .int)] s := hK
  refine W.widen (k := 8) (n := 252) (by omega) (by omega) ?_
  refine va_putF (D := D) (ci := 5) (v := .ref q4) (ty := .array .int) (C := RX5) (T := TX5) (N := 2) hx hb hts (fun w h => List.mem_cons_of_mem _ (sp_lay5 w h)) tyX5 tyX5_ok nmX5 hown hK hP hD hS 0 rfl rfl 1 (by decide) (hts _ (List.mem_cons_of_mem _ (sp_in (i := 99) (w := .fieldLink "SandPiano$Shelf" 14 "SandPiano$Shelf" "sizes" "[I") (by decide +kernel)))) (fun _ h9 => h9) rfl hin rfl (by decide +kernel) rfl rfl (Nat.le_of_ble_eq_true rfl) si_2_18 (fun H locs hP hD hS => ?_)
  have hP : va_P D vwCl [(h0, .inr (5, [.ref q1, .ref q4])), (q1, .inl (c2, 6, .inr (.inr (.inr (.inr (sm_f q1 6)))))), ((q1 + 1 + 0), .inl (c3, 40, .inl (fun _ => 0))), ((q1 + 1 + 1), .inl (c3, 40, .inl (fun _ => 0))), ((q1 + 1 + 2), .inl (c3, 40, .inl (fun _ => 0))), ((q1 + 1 + 3), .inl (c3, 40, .inl (fun _ => 0))), ((q1 + 1 + 4), .inl (c3, 40, .inl (fun _ => 0))), ((q1 + 1 + 5), .inl (c3, 40, .inl (fun _ => 0))), (q4, .inl (c5, 6, .inl (fun _ => 0)))] H := hP
  have hD : va_D A [(h0, .inr (5, [.ref q1, .ref q4])), (q1, .inl (c2, 6, .inr (.inr (.inr (.inr (sm_f q1 6)))))), ((q1 + 1 + 0), .inl (c3, 40, .inl (fun _ => 0))), ((q1 + 1 + 1), .inl (c3, 40, .inl (fun _ => 0))), ((q1 + 1 + 2), .inl (c3, 40, .inl (fun _ => 0))), ((q1 + 1 + 3), .inl (c3, 40, .inl (fun _ => 0))), ((q1 + 1 + 4), .inl (c3, 40, .inl (fun _ => 0))), ((q1 + 1 + 5), .inl (c3, 40, .inl (fun _ => 0))), (q4, .inl (c5, 6, .inl (fun _ => 0)))] := hD
  refine lv_aload_n hx hb si_2_21 rfl (lv_at hl 0 rfl) ?_
  refine va_get (D := D) (ci := 5) (v := .ref q4) (C := RX5) (T := TX5) (N := 2) hx hb hts (fun w h => List.mem_cons_of_mem _ (sp_lay5 w h)) hown hK hP 0 rfl rfl 1 (by decide) (hts _ (List.mem_cons_of_mem _ (sp_in (i := 99) (w := .fieldLink "SandPiano$Shelf" 14 "SandPiano$Shelf" "sizes" "[I") (by decide +kernel)))) (fun _ h9 => h9) rfl si_2_22 ?_
  refine lv_iconst (v := (-1)) hx hb si_2_25 (by decide) ?_
  have hPc := hP.sub (ws' := [(q4, .inl (c5, 6, .inl (fun _ => 0)))]) [8] rfl
  have hDc := hD.sub (ws' := [(q4, .inl (c5, 6, .inl (fun _ => 0)))]) [8] (by decide) rfl
  have hKc := hK.sub (tys' := [(c5, .int)]) [2] rfl
  have hFc := va_free (wc := [(q4, .inl (c5, 6, .inl (fun _ => 0)))]) hD hS hA [8] rfl
  refine va_callv (va_runS (As := [.ref q4, .int (-1)]) (rest := []) ⟨hx, hb, hmlN, hown, hts⟩ (kc_fill_6 l D q4 H.size c5) ⟨callB_of (bytes := sp_b 3) (maxL := 4) (own := "SandPiano$Shelf") (index := 18) 2 hts (sp_goodW (i1 := 97) (by decide +kernel)) (by unfold sp_w; rw [sl_3, sr_3]) rfl rfl (by rw [sy_3]; exact (hts _ (List.mem_cons_of_mem _ (sp_in (i := 68) (w := .initialized "java/util/Arrays") (by decide +kernel))))) (by rw [sy_3]; exact (hts _ (List.mem_cons_of_mem _ (sp_in (i := 95) (w := .methodLink "SandPiano$Shelf" 18 ⟨"java/util/Arrays", "fill", "([II)V"⟩) (by decide +kernel))))) (by rw [sy_3]; exact ⟨by decide +kernel, by decide +kernel, by decide +kernel⟩) ⟨Nat.le_of_ble_eq_true rfl, Nat.le_of_ble_eq_true rfl⟩, (by rw [sy_3]; exact (hts _ (List.mem_cons_of_mem _ (sp_in (i := 96) (w := .static ⟨"java/util/Arrays", "fill", "([II)V"⟩) (by decide +kernel)))))⟩ ⟨fun a U g mk q => by obtain ⟨q0, q1, qP, qK, qD, qE⟩ := q; exact ⟨q0, q1, qP, va_K.moved (u := U) (U := U.calling g mk a) (Vm.Alike.refl U.vm) qK, qD, qE.call⟩, fun U hU hW => ⟨rfl, by rw [hU], by rw [hU]; exact hPc, va_K.moved hW.alike hKc, hDc.weaken (fun _ _ _ _ => trivial), hE.warm hW⟩⟩ rfl rfl hl.1 rfl (lv_room (Nat.le_of_ble_eq_true rfl)) si_2_26 ⟨Nat.le_of_ble_eq_true rfl, Nat.le_of_ble_eq_true rfl⟩) hS (fun q _ h => hFc q h) hFc (fun u t H1 locs ht hvm hw hB hz1 hk1 hS => ?_)
  subst hw
  obtain ⟨hP1, hK1, hD1⟩ := hB
  rw [ht] at hP1
  have hK1 := va_K.moved hvm.symm hK1
  obtain ⟨hP, hD⟩ := va_join (wr := [(h0, .inr (5, [.ref q1, .ref q4])), (q1, .inl (c2, 6, .inr (.inr (.inr (.inr (sm_f q1 6)))))), ((q1 + 1 + 0), .inl (c3, 40, .inl (fun _ => 0))), ((q1 + 1 + 1), .inl (c3, 40, .inl (fun _ => 0))), ((q1 + 1 + 2), .inl (c3, 40, .inl (fun _ => 0))), ((q1 + 1 + 3), .inl (c3, 40, .inl (fun _ => 0))), ((q1 + 1 + 4), .inl (c3, 40, .inl (fun _ => 0))), ((q1 + 1 + 5), .inl (c3, 40, .inl (fun _ => 0)))]) (w1 := [(q4, .inl (c5, 6, .inl (upd (upd (upd (upd (upd (upd (fun _ => 0) 0 (-1)) 1 (-1)) 2 (-1)) 3 (-1)) 4 (-1)) 5 (-1))))]) hP hD [8] [0, 1, 2, 3, 4, 5, 6, 7] rfl rfl (by decide) (by decide) hk1 hFc hP1 hD1
  have hK := hK.app (hK1.sub (tys' := []) [] rfl)
  generalize H1 = H at hP hS ⊢
  have hP : va_P D vwCl [(h0, .inr (5, [.ref q1, .ref q4])), (q1, .inl (c2, 6, .inr (.inr (.inr (.inr (sm_f q1 6)))))), ((q1 + 1 + 0), .inl (c3, 40, .inl (fun _ => 0))), ((q1 + 1 + 1), .inl (c3, 40, .inl (fun _ => 0))), ((q1 + 1 + 2), .inl (c3, 40, .inl (fun _ => 0))), ((q1 + 1 + 3), .inl (c3, 40, .inl (fun _ => 0))), ((q1 + 1 + 4), .inl (c3, 40, .inl (fun _ => 0))), ((q1 + 1 + 5), .inl (c3, 40, .inl (fun _ => 0))), (q4, .inl (c5, 6, .inl (upd (upd (upd (upd (upd (upd (fun _ => 0) 0 (-1)) 1 (-1)) 2 (-1)) 3 (-1)) 4 (-1)) 5 (-1))))] H := hP
  have hD : va_D A [(h0, .inr (5, [.ref q1, .ref q4])), (q1, .inl (c2, 6, .inr (.inr (.inr (.inr (sm_f q1 6)))))), ((q1 + 1 + 0), .inl (c3, 40, .inl (fun _ => 0))), ((q1 + 1 + 1), .inl (c3, 40, .inl (fun _ => 0))), ((q1 + 1 + 2), .inl (c3, 40, .inl (fun _ => 0))), ((q1 + 1 + 3), .inl (c3, 40, .inl (fun _ => 0))), ((q1 + 1 + 4), .inl (c3, 40, .inl (fun _ => 0))), ((q1 + 1 + 5), .inl (c3, 40, .inl (fun _ => 0))), (q4, .inl (c5, 6, .inl (upd (upd (upd (upd (upd (upd (fun _ => 0) 0 (-1)) 1 (-1)) 2 (-1)) 3 (-1)) 4 (-1)) 5 (-1))))] := hD
  have hK : va_K D vwCl [(c2, .array .int), (c3, .int), (c5, .int)] s := hK
  refine W.widen (k := 8) (n := 252) (by omega) (by omega) ?_
  have hP9 := hP.sub (ws' := [(h0, .inr (5, [.ref q1, .ref q4])), (q1, .inl (c2, 6, .inr (.inr (.inr (.inr (sm_f q1 6)))))), ((q1 + 1 + 0), .inl (c3, 40, .inl (fun _ => 0))), ((q1 + 1 + 1), .inl (c3, 40, .inl (fun _ => 0))), ((q1 + 1 + 2), .inl (c3, 40, .inl (fun _ => 0))), ((q1 + 1 + 3), .inl (c3, 40, .inl (fun _ => 0))), ((q1 + 1 + 4), .inl (c3, 40, .inl (fun _ => 0))), ((q1 + 1 + 5), .inl (c3, 40, .inl (fun _ => 0))), (q4, .inl (c5, 6, .inl (upd (upd (upd (upd (upd (upd (fun _ => 0) 0 (-1)) 1 (-1)) 2 (-1)) 3 (-1)) 4 (-1)) 5 (-1))))]) [0, 1, 2, 3, 4, 5, 6, 7, 8] rfl
  have hD9 := hD.sub (ws' := [(h0, .inr (5, [.ref q1, .ref q4])), (q1, .inl (c2, 6, .inr (.inr (.inr (.inr (sm_f q1 6)))))), ((q1 + 1 + 0), .inl (c3, 40, .inl (fun _ => 0))), ((q1 + 1 + 1), .inl (c3, 40, .inl (fun _ => 0))), ((q1 + 1 + 2), .inl (c3, 40, .inl (fun _ => 0))), ((q1 + 1 + 3), .inl (c3, 40, .inl (fun _ => 0))), ((q1 + 1 + 4), .inl (c3, 40, .inl (fun _ => 0))), ((q1 + 1 + 5), .inl (c3, 40, .inl (fun _ => 0))), (q4, .inl (c5, 6, .inl (upd (upd (upd (upd (upd (upd (fun _ => 0) 0 (-1)) 1 (-1)) 2 (-1)) 3 (-1)) 4 (-1)) 5 (-1))))]) [0, 1, 2, 3, 4, 5, 6, 7, 8] (by decide) rfl
  have hK9 := hK.sub (tys' := [(c2, .array .int), (c3, .int), (c5, .int)]) [0, 1, 2] rfl
  exact W.vret hx hb hrN (fun t ht hW => ⟨⟨([(h0, .inr (5, [.ref q1, .ref q4])), (q1, .inl (c2, 6, .inr (.inr (.inr (.inr (sm_f q1 6)))))), ((q1 + 1 + 0), .inl (c3, 40, .inl (fun _ => 0))), ((q1 + 1 + 1), .inl (c3, 40, .inl (fun _ => 0))), ((q1 + 1 + 2), .inl (c3, 40, .inl (fun _ => 0))), ((q1 + 1 + 3), .inl (c3, 40, .inl (fun _ => 0))), ((q1 + 1 + 4), .inl (c3, 40, .inl (fun _ => 0))), ((q1 + 1 + 5), .inl (c3, 40, .inl (fun _ => 0))), (q4, .inl (c5, 6, .inl (upd (upd (upd (upd (upd (upd (fun _ => 0) 0 (-1)) 1 (-1)) 2 (-1)) 3 (-1)) 4 (-1)) 5 (-1))))], [(c2, .array .int), (c3, .int), (c5, .int)]), rfl, ⟨q1, c2, c3, q4, c5, rfl⟩, by rw [ht]; exact hP9, va_K.moved hW.alike hK9, hD9⟩, hS.F ht⟩) hS.2.2 si_2_29
set_option maxHeartbeats 4000000 in
set_option maxRecDepth 100000 in
theorem kc_texts (l : Launch) (D : va_G) (h0 sz : Nat) : Met l (sp_y 2) (sp_w 2) ({ frames := 1, cells := 6, slots := 248, locals := 23 }) (va_Pc [.ref h0, .int 4, .int 60] (fun U => U.heap.size = sz ∧ va_P D vwCl [(h0, .inr (5, [.null, .null]))] U.heap ∧ va_K D vwCl [] U ∧ va_D (fun _ => True) [(h0, .inr (5, [.null, .null]))] ∧ sk_X U)) (va_Qv (fun u : sk_Wd => ∃ (q1 : Nat), ∃ (c2 : ClassId), ∃ (c3 : ClassId), ∃ (q4 : Nat), ∃ (c5 : ClassId), u = ([(h0, .inr (5, [.ref q1, .ref q4])), (q1, .inl (c2, 4, .inr (.inr (.inr (.inr (sm_f q1 4)))))), ((q1 + 1 + 0), .inl (c3, 60, .inl (fun _ => 0))), ((q1 + 1 + 1), .inl (c3, 60, .inl (fun _ => 0))), ((q1 + 1 + 2), .inl (c3, 60, .inl (fun _ => 0))), ((q1 + 1 + 3), .inl (c3, 60, .inl (fun _ => 0))), (q4, .inl (c5, 4, .inl (upd (upd (upd (upd (fun _ => 0) 0 (-1)) 1 (-1)) 2 (-1)) 3 (-1))))], [(c2, .array .int), (c3, .int), (c5, .int)])) (fun u t => va_P D vwCl u.1 t.heap ∧ va_K D vwCl u.2 t ∧ va_D (va_A [(h0, .inr (5, [.null, .null]))] sz) u.1) (va_A [(h0, .inr (5, [.null, .null]))] sz)) 6 248 (va_A [(h0, .inr (5, [.null, .null]))] sz) := by
  refine Met.ofW (cc := sp_b 2) (maxL := sp_l 2) (ret := sp_r 2) (by rw [sy_2]; decide) rfl ?_
  intro p e s m args below meth c s₁ B hml hv
  obtain ⟨rfl, hsz, hP, hK, hD0, hE⟩ := hv
  have hx := B.exec
  have hb := B.bytes
  have hrN : meth.sig.returnType = none := B.returns.trans sr_2
  have hmlN : c.maxLocals = 3 := hml.trans sl_2
  have hts := atoms_spec (ws := sp_w 2) B.pre
  have hown : s.vm.findClass "SandPiano$Shelf" = some m.cls := by
    have h := findClass_of_methodNamed B.named
    rw [sy_2] at h
    exact h
  have hlocks := B.notSynchronized
  have hin : meth.name = "<init>" := by
    have h := (name_of_methodNamed B.named B.method).1
    rw [sy_2] at h
    exact h
  subst hsz
  have hD := hD0.self (sz := s.heap.size)
  generalize hAe : va_A [(h0, .inr (5, [.null, .null]))] s.heap.size = A at hD ⊢
  have hA : ∀ q : Nat, s.heap.size ≤ q → A q := fun q h => by rw [← hAe]; exact Or.inr h
  have hS : va_S A s.heap s.heap [] := va_S.rf
  have hP : va_P D vwCl [(h0, .inr (5, [.null, .null]))] s.heap := hP
  have hl := lv_entry ([.ref h0, .int 4, .int 60]) (n := 3) (Nat.le_of_ble_eq_true rfl)
  rw [sl_2, lg_entry_eq]
  generalize (lg_sl ([.ref h0, .int 4, .int 60]) ++ List.replicate (3 - (lg_sl ([.ref h0, .int 4, .int 60])).length) Slot.unset).toArray = ls at hl ⊢
  have hl : lv_has ls 3 [(0, .ref h0), (1, .int 4), (2, .int 60)] := hl
  refine lv_aload_n hx hb si_2_0 rfl (lv_at hl 0 rfl) ?_
  refine W.objInit hx hb hown (hts _ (List.mem_cons_of_mem _ (sp_in (i := 92) (w := .methodLink "SandPiano$Shelf" 1 objectInit) (by decide +kernel)))) (hts _ (List.mem_cons_of_mem _ (sp_in (i := 85) (w := .instanceMethod objectInit) (by decide +kernel)))) (hts _ (List.mem_cons_of_mem _ (sp_in (i := 86) (w := .code objectInit ⟨#[0xb1]⟩ 1 none) (by decide +kernel)))) rfl (by rw [hmlN]; exact hl.1) rfl si_2_1 (Nat.le_of_ble_eq_true rfl) (Nat.le_of_ble_eq_true rfl) ?_
  refine W.eq (g2 := F0 m 4 ls []) rfl ?_
  refine lv_aload_n hx hb si_2_4 rfl (lv_at hl 0 rfl) ?_
  refine lv_iload_n hx hb si_2_5 rfl (lv_at hl 1 rfl) ?_
  refine lv_iload_n hx hb si_2_6 rfl (lv_at hl 2 rfl) ?_
  refine sm_mna hx hb hown (hts _ (List.mem_cons_of_mem _ (sp_in (i := 93) (w := .classLink "SandPiano$Shelf" 7 ("[" ++ (FieldType.array .int).toString)) (by decide +kernel)))) (sm_AO.use hE.2.2.2) (hts _ (List.mem_cons_of_mem _ (sp_in (i := 105) (w := .arrayClass .int) (by decide +kernel)))) hK hP hD hS hA (N := 4) (K := 60) (by decide) (by decide) (by decide) (by decide) (by decide) (by decide) (Nat.le_of_ble_eq_true rfl) (Nat.le_of_ble_eq_true rfl) si_2_7 (fun q1 c2 c3 H hK hP hD hS => ?_)
  have hP : va_P D vwCl [(h0, .inr (5, [.null, .null])), (q1, .inl (c2, 4, .inr (.inr (.inr (.inr (sm_f q1 4)))))), ((q1 + 1 + 0), .inl (c3, 60, .inl (fun _ => 0))), ((q1 + 1 + 1), .inl (c3, 60, .inl (fun _ => 0))), ((q1 + 1 + 2), .inl (c3, 60, .inl (fun _ => 0))), ((q1 + 1 + 3), .inl (c3, 60, .inl (fun _ => 0)))] H := hP
  have hD : va_D A [(h0, .inr (5, [.null, .null])), (q1, .inl (c2, 4, .inr (.inr (.inr (.inr (sm_f q1 4)))))), ((q1 + 1 + 0), .inl (c3, 60, .inl (fun _ => 0))), ((q1 + 1 + 1), .inl (c3, 60, .inl (fun _ => 0))), ((q1 + 1 + 2), .inl (c3, 60, .inl (fun _ => 0))), ((q1 + 1 + 3), .inl (c3, 60, .inl (fun _ => 0)))] := hD
  have hK : va_K D vwCl [(c2, .array .int), (c3, .int)] s := hK
  refine W.widen (k := 5) (n := 244) (by omega) (by omega) ?_
  refine va_putF (D := D) (ci := 5) (v := .ref q1) (ty := .array (.array .int)) (C := RX5) (T := TX5) (N := 2) hx hb hts (fun w h => List.mem_cons_of_mem _ (sp_lay5 w h)) tyX5 tyX5_ok nmX5 hown hK hP hD hS 0 rfl rfl 0 (by decide) (hts _ (List.mem_cons_of_mem _ (sp_in (i := 98) (w := .fieldLink "SandPiano$Shelf" 9 "SandPiano$Shelf" "places" "[[I") (by decide +kernel)))) (fun _ h9 => h9) rfl hin rfl (by decide +kernel) rfl rfl (Nat.le_of_ble_eq_true rfl) si_2_11 (fun H locs hP hD hS => ?_)
  have hP : va_P D vwCl [(h0, .inr (5, [.ref q1, .null])), (q1, .inl (c2, 4, .inr (.inr (.inr (.inr (sm_f q1 4)))))), ((q1 + 1 + 0), .inl (c3, 60, .inl (fun _ => 0))), ((q1 + 1 + 1), .inl (c3, 60, .inl (fun _ => 0))), ((q1 + 1 + 2), .inl (c3, 60, .inl (fun _ => 0))), ((q1 + 1 + 3), .inl (c3, 60, .inl (fun _ => 0)))] H := hP
  have hD : va_D A [(h0, .inr (5, [.ref q1, .null])), (q1, .inl (c2, 4, .inr (.inr (.inr (.inr (sm_f q1 4)))))), ((q1 + 1 + 0), .inl (c3, 60, .inl (fun _ => 0))), ((q1 + 1 + 1), .inl (c3, 60, .inl (fun _ => 0))), ((q1 + 1 + 2), .inl (c3, 60, .inl (fun _ => 0))), ((q1 + 1 + 3), .inl (c3, 60, .inl (fun _ => 0)))] := hD
  refine lv_aload_n hx hb si_2_14 rfl (lv_at hl 0 rfl) ?_
  refine lv_iload_n hx hb si_2_15 rfl (lv_at hl 1 rfl) ?_
  refine va_newa (atype := .int) (ty := .int) (a0 := (4, .inl (fun _ => 0))) hx hb (hts _ (List.mem_cons_of_mem _ (sp_in (i := 105) (w := .arrayClass .int) (by decide +kernel)))) rfl hK hP hD hS hA (fun _ => rfl) (by decide) (by decide) (by decide) (Nat.le_of_ble_eq_true rfl) (Nat.le_of_ble_eq_true rfl) si_2_16 (fun q4 c5 H hK hP hD hS => ?_)
  have hP : va_P D vwCl [(h0, .inr (5, [.ref q1, .null])), (q1, .inl (c2, 4, .inr (.inr (.inr (.inr (sm_f q1 4)))))), ((q1 + 1 + 0), .inl (c3, 60, .inl (fun _ => 0))), ((q1 + 1 + 1), .inl (c3, 60, .inl (fun _ => 0))), ((q1 + 1 + 2), .inl (c3, 60, .inl (fun _ => 0))), ((q1 + 1 + 3), .inl (c3, 60, .inl (fun _ => 0))), (q4, .inl (c5, 4, .inl (fun _ => 0)))] H := hP
  have hD : va_D A [(h0, .inr (5, [.ref q1, .null])), (q1, .inl (c2, 4, .inr (.inr (.inr (.inr (sm_f q1 4)))))), ((q1 + 1 + 0), .inl (c3, 60, .inl (fun _ => 0))), ((q1 + 1 + 1), .inl (c3, 60, .inl (fun _ => 0))), ((q1 + 1 + 2), .inl (c3, 60, .inl (fun _ => 0))), ((q1 + 1 + 3), .inl (c3, 60, .inl (fun _ => 0))), (q4, .inl (c5, 4, .inl (fun _ => 0)))] := hD
  have hK : va_K D vwCl [(c2, .array .int), (c3, .int), (c5, .int)] s := hK
  refine W.widen (k := 6) (n := 248) (by omega) (by omega) ?_
  refine va_putF (D := D) (ci := 5) (v := .ref q4) (ty := .array .int) (C := RX5) (T := TX5) (N := 2) hx hb hts (fun w h => List.mem_cons_of_mem _ (sp_lay5 w h)) tyX5 tyX5_ok nmX5 hown hK hP hD hS 0 rfl rfl 1 (by decide) (hts _ (List.mem_cons_of_mem _ (sp_in (i := 99) (w := .fieldLink "SandPiano$Shelf" 14 "SandPiano$Shelf" "sizes" "[I") (by decide +kernel)))) (fun _ h9 => h9) rfl hin rfl (by decide +kernel) rfl rfl (Nat.le_of_ble_eq_true rfl) si_2_18 (fun H locs hP hD hS => ?_)
  have hP : va_P D vwCl [(h0, .inr (5, [.ref q1, .ref q4])), (q1, .inl (c2, 4, .inr (.inr (.inr (.inr (sm_f q1 4)))))), ((q1 + 1 + 0), .inl (c3, 60, .inl (fun _ => 0))), ((q1 + 1 + 1), .inl (c3, 60, .inl (fun _ => 0))), ((q1 + 1 + 2), .inl (c3, 60, .inl (fun _ => 0))), ((q1 + 1 + 3), .inl (c3, 60, .inl (fun _ => 0))), (q4, .inl (c5, 4, .inl (fun _ => 0)))] H := hP
  have hD : va_D A [(h0, .inr (5, [.ref q1, .ref q4])), (q1, .inl (c2, 4, .inr (.inr (.inr (.inr (sm_f q1 4)))))), ((q1 + 1 + 0), .inl (c3, 60, .inl (fun _ => 0))), ((q1 + 1 + 1), .inl (c3, 60, .inl (fun _ => 0))), ((q1 + 1 + 2), .inl (c3, 60, .inl (fun _ => 0))), ((q1 + 1 + 3), .inl (c3, 60, .inl (fun _ => 0))), (q4, .inl (c5, 4, .inl (fun _ => 0)))] := hD
  refine lv_aload_n hx hb si_2_21 rfl (lv_at hl 0 rfl) ?_
  refine va_get (D := D) (ci := 5) (v := .ref q4) (C := RX5) (T := TX5) (N := 2) hx hb hts (fun w h => List.mem_cons_of_mem _ (sp_lay5 w h)) hown hK hP 0 rfl rfl 1 (by decide) (hts _ (List.mem_cons_of_mem _ (sp_in (i := 99) (w := .fieldLink "SandPiano$Shelf" 14 "SandPiano$Shelf" "sizes" "[I") (by decide +kernel)))) (fun _ h9 => h9) rfl si_2_22 ?_
  refine lv_iconst (v := (-1)) hx hb si_2_25 (by decide) ?_
  have hPc := hP.sub (ws' := [(q4, .inl (c5, 4, .inl (fun _ => 0)))]) [6] rfl
  have hDc := hD.sub (ws' := [(q4, .inl (c5, 4, .inl (fun _ => 0)))]) [6] (by decide) rfl
  have hKc := hK.sub (tys' := [(c5, .int)]) [2] rfl
  have hFc := va_free (wc := [(q4, .inl (c5, 4, .inl (fun _ => 0)))]) hD hS hA [6] rfl
  refine va_callv (va_runS (As := [.ref q4, .int (-1)]) (rest := []) ⟨hx, hb, hmlN, hown, hts⟩ (kc_fill_4 l D q4 H.size c5) ⟨callB_of (bytes := sp_b 3) (maxL := 4) (own := "SandPiano$Shelf") (index := 18) 2 hts (sp_goodW (i1 := 97) (by decide +kernel)) (by unfold sp_w; rw [sl_3, sr_3]) rfl rfl (by rw [sy_3]; exact (hts _ (List.mem_cons_of_mem _ (sp_in (i := 68) (w := .initialized "java/util/Arrays") (by decide +kernel))))) (by rw [sy_3]; exact (hts _ (List.mem_cons_of_mem _ (sp_in (i := 95) (w := .methodLink "SandPiano$Shelf" 18 ⟨"java/util/Arrays", "fill", "([II)V"⟩) (by decide +kernel))))) (by rw [sy_3]; exact ⟨by decide +kernel, by decide +kernel, by decide +kernel⟩) ⟨Nat.le_of_ble_eq_true rfl, Nat.le_of_ble_eq_true rfl⟩, (by rw [sy_3]; exact (hts _ (List.mem_cons_of_mem _ (sp_in (i := 96) (w := .static ⟨"java/util/Arrays", "fill", "([II)V"⟩) (by decide +kernel)))))⟩ ⟨fun a U g mk q => by obtain ⟨q0, q1, qP, qK, qD, qE⟩ := q; exact ⟨q0, q1, qP, va_K.moved (u := U) (U := U.calling g mk a) (Vm.Alike.refl U.vm) qK, qD, qE.call⟩, fun U hU hW => ⟨rfl, by rw [hU], by rw [hU]; exact hPc, va_K.moved hW.alike hKc, hDc.weaken (fun _ _ _ _ => trivial), hE.warm hW⟩⟩ rfl rfl hl.1 rfl (lv_room (Nat.le_of_ble_eq_true rfl)) si_2_26 ⟨Nat.le_of_ble_eq_true rfl, Nat.le_of_ble_eq_true rfl⟩) hS (fun q _ h => hFc q h) hFc (fun u t H1 locs ht hvm hw hB hz1 hk1 hS => ?_)
  subst hw
  obtain ⟨hP1, hK1, hD1⟩ := hB
  rw [ht] at hP1
  have hK1 := va_K.moved hvm.symm hK1
  obtain ⟨hP, hD⟩ := va_join (wr := [(h0, .inr (5, [.ref q1, .ref q4])), (q1, .inl (c2, 4, .inr (.inr (.inr (.inr (sm_f q1 4)))))), ((q1 + 1 + 0), .inl (c3, 60, .inl (fun _ => 0))), ((q1 + 1 + 1), .inl (c3, 60, .inl (fun _ => 0))), ((q1 + 1 + 2), .inl (c3, 60, .inl (fun _ => 0))), ((q1 + 1 + 3), .inl (c3, 60, .inl (fun _ => 0)))]) (w1 := [(q4, .inl (c5, 4, .inl (upd (upd (upd (upd (fun _ => 0) 0 (-1)) 1 (-1)) 2 (-1)) 3 (-1))))]) hP hD [6] [0, 1, 2, 3, 4, 5] rfl rfl (by decide) (by decide) hk1 hFc hP1 hD1
  have hK := hK.app (hK1.sub (tys' := []) [] rfl)
  generalize H1 = H at hP hS ⊢
  have hP : va_P D vwCl [(h0, .inr (5, [.ref q1, .ref q4])), (q1, .inl (c2, 4, .inr (.inr (.inr (.inr (sm_f q1 4)))))), ((q1 + 1 + 0), .inl (c3, 60, .inl (fun _ => 0))), ((q1 + 1 + 1), .inl (c3, 60, .inl (fun _ => 0))), ((q1 + 1 + 2), .inl (c3, 60, .inl (fun _ => 0))), ((q1 + 1 + 3), .inl (c3, 60, .inl (fun _ => 0))), (q4, .inl (c5, 4, .inl (upd (upd (upd (upd (fun _ => 0) 0 (-1)) 1 (-1)) 2 (-1)) 3 (-1))))] H := hP
  have hD : va_D A [(h0, .inr (5, [.ref q1, .ref q4])), (q1, .inl (c2, 4, .inr (.inr (.inr (.inr (sm_f q1 4)))))), ((q1 + 1 + 0), .inl (c3, 60, .inl (fun _ => 0))), ((q1 + 1 + 1), .inl (c3, 60, .inl (fun _ => 0))), ((q1 + 1 + 2), .inl (c3, 60, .inl (fun _ => 0))), ((q1 + 1 + 3), .inl (c3, 60, .inl (fun _ => 0))), (q4, .inl (c5, 4, .inl (upd (upd (upd (upd (fun _ => 0) 0 (-1)) 1 (-1)) 2 (-1)) 3 (-1))))] := hD
  have hK : va_K D vwCl [(c2, .array .int), (c3, .int), (c5, .int)] s := hK
  refine W.widen (k := 6) (n := 248) (by omega) (by omega) ?_
  have hP9 := hP.sub (ws' := [(h0, .inr (5, [.ref q1, .ref q4])), (q1, .inl (c2, 4, .inr (.inr (.inr (.inr (sm_f q1 4)))))), ((q1 + 1 + 0), .inl (c3, 60, .inl (fun _ => 0))), ((q1 + 1 + 1), .inl (c3, 60, .inl (fun _ => 0))), ((q1 + 1 + 2), .inl (c3, 60, .inl (fun _ => 0))), ((q1 + 1 + 3), .inl (c3, 60, .inl (fun _ => 0))), (q4, .inl (c5, 4, .inl (upd (upd (upd (upd (fun _ => 0) 0 (-1)) 1 (-1)) 2 (-1)) 3 (-1))))]) [0, 1, 2, 3, 4, 5, 6] rfl
  have hD9 := hD.sub (ws' := [(h0, .inr (5, [.ref q1, .ref q4])), (q1, .inl (c2, 4, .inr (.inr (.inr (.inr (sm_f q1 4)))))), ((q1 + 1 + 0), .inl (c3, 60, .inl (fun _ => 0))), ((q1 + 1 + 1), .inl (c3, 60, .inl (fun _ => 0))), ((q1 + 1 + 2), .inl (c3, 60, .inl (fun _ => 0))), ((q1 + 1 + 3), .inl (c3, 60, .inl (fun _ => 0))), (q4, .inl (c5, 4, .inl (upd (upd (upd (upd (fun _ => 0) 0 (-1)) 1 (-1)) 2 (-1)) 3 (-1))))]) [0, 1, 2, 3, 4, 5, 6] (by decide) rfl
  have hK9 := hK.sub (tys' := [(c2, .array .int), (c3, .int), (c5, .int)]) [0, 1, 2] rfl
  exact W.vret hx hb hrN (fun t ht hW => ⟨⟨([(h0, .inr (5, [.ref q1, .ref q4])), (q1, .inl (c2, 4, .inr (.inr (.inr (.inr (sm_f q1 4)))))), ((q1 + 1 + 0), .inl (c3, 60, .inl (fun _ => 0))), ((q1 + 1 + 1), .inl (c3, 60, .inl (fun _ => 0))), ((q1 + 1 + 2), .inl (c3, 60, .inl (fun _ => 0))), ((q1 + 1 + 3), .inl (c3, 60, .inl (fun _ => 0))), (q4, .inl (c5, 4, .inl (upd (upd (upd (upd (fun _ => 0) 0 (-1)) 1 (-1)) 2 (-1)) 3 (-1))))], [(c2, .array .int), (c3, .int), (c5, .int)]), rfl, ⟨q1, c2, c3, q4, c5, rfl⟩, by rw [ht]; exact hP9, va_K.moved hW.alike hK9, hD9⟩, hS.F ht⟩) hS.2.2 si_2_29
set_option maxHeartbeats 4000000 in
set_option maxRecDepth 100000 in
theorem kc_reader (l : Launch) (D : va_G) (h0 sz : Nat) : Met l (sp_y 9) (sp_w 9) ({ frames := 2, cells := 6, slots := 32, locals := 32 }) (va_Pc [.ref h0] (fun U => U.heap.size = sz ∧ va_P D vwCl [(h0, .inr (1, [.null, .null, .int 0]))] U.heap ∧ va_K D vwCl [] U ∧ va_D (fun _ => True) [(h0, .inr (1, [.null, .null, .int 0]))] ∧ sk_X U)) (va_Qv (fun u : sk_Wd => ∃ (q1 : Nat), ∃ (q1_k3 : Nat), ∃ (c2_k3 : ClassId), ∃ (q3_k3 : Nat), ∃ (c4_k3 : ClassId), ∃ (q5_k3 : Nat), ∃ (c6_k3 : ClassId), ∃ (q4 : Nat), ∃ (q1_k6 : Nat), ∃ (c2_k6 : ClassId), u = ([(h0, .inr (1, [.ref q1, .ref q4, .int 1])), (q1, .inr (0, [.ref q1_k3, .ref q3_k3, .ref q5_k3, .int 0])), (q1_k3, .inl (c2_k3, 6, .inl (fun _ => 0))), (q3_k3, .inl (c4_k3, 6, .inl (fun _ => 0))), (q5_k3, .inl (c6_k3, 6, .inl (fun _ => 0))), (q4, .inr (2, [.ref q1_k6, .int 0, .int 0, .int 0])), (q1_k6, .inl (c2_k6, 6, .inl (fun _ => 0)))], [(c2_k3, .int), (c4_k3, .int), (c6_k3, .int), (c2_k6, .int)])) (fun u t => va_P D vwCl u.1 t.heap ∧ va_K D vwCl u.2 t ∧ va_D (va_A [(h0, .inr (1, [.null, .null, .int 0]))] sz) u.1) (va_A [(h0, .inr (1, [.null, .null, .int 0]))] sz)) 6 32 (va_A [(h0, .inr (1, [.null, .null, .int 0]))] sz) := by
  refine Met.ofW (cc := sp_b 9) (maxL := sp_l 9) (ret := sp_r 9) (by rw [sy_9]; decide) rfl ?_
  intro p e s m args below meth c s₁ B hml hv
  obtain ⟨rfl, hsz, hP, hK, hD0, hE⟩ := hv
  have hx := B.exec
  have hb := B.bytes
  have hrN : meth.sig.returnType = none := B.returns.trans sr_9
  have hmlN : c.maxLocals = 1 := hml.trans sl_9
  have hts := atoms_spec (ws := sp_w 9) B.pre
  have hown : s.vm.findClass "SandPiano$Reader" = some m.cls := by
    have h := findClass_of_methodNamed B.named
    rw [sy_9] at h
    exact h
  have hlocks := B.notSynchronized
  have hin : meth.name = "<init>" := by
    have h := (name_of_methodNamed B.named B.method).1
    rw [sy_9] at h
    exact h
  subst hsz
  have hD := hD0.self (sz := s.heap.size)
  generalize hAe : va_A [(h0, .inr (1, [.null, .null, .int 0]))] s.heap.size = A at hD ⊢
  have hA : ∀ q : Nat, s.heap.size ≤ q → A q := fun q h => by rw [← hAe]; exact Or.inr h
  have hS : va_S A s.heap s.heap [] := va_S.rf
  have hP : va_P D vwCl [(h0, .inr (1, [.null, .null, .int 0]))] s.heap := hP
  have hl := lv_entry ([.ref h0]) (n := 1) (Nat.le_of_ble_eq_true rfl)
  rw [sl_9, lg_entry_eq]
  generalize (lg_sl ([.ref h0]) ++ List.replicate (1 - (lg_sl ([.ref h0])).length) Slot.unset).toArray = ls at hl ⊢
  have hl : lv_has ls 1 [(0, .ref h0)] := hl
  refine lv_aload_n hx hb si_9_0 rfl (lv_at hl 0 rfl) ?_
  refine W.objInit hx hb hown (hts _ (List.mem_cons_of_mem _ (sp_in (i := 244) (w := .methodLink "SandPiano$Reader" 3 objectInit) (by decide +kernel)))) (hts _ (List.mem_cons_of_mem _ (sp_in (i := 85) (w := .instanceMethod objectInit) (by decide +kernel)))) (hts _ (List.mem_cons_of_mem _ (sp_in (i := 86) (w := .code objectInit ⟨#[0xb1]⟩ 1 none) (by decide +kernel)))) rfl (by rw [hmlN]; exact hl.1) rfl si_9_1 (Nat.le_of_ble_eq_true rfl) (Nat.le_of_ble_eq_true rfl) ?_
  refine W.eq (g2 := F0 m 4 ls []) rfl ?_
  refine lv_aload_n hx hb si_9_4 rfl (lv_at hl 0 rfl) ?_
  refine va_new (ci := 0) (fs := [.null, .null, .null, .int 0]) (C := RX0) (T := TX0) (N := 4) hx hb hts (fun w h => List.mem_cons_of_mem _ (sp_lay0 w h)) tyX0 tyX0_ok hown (hts _ (List.mem_cons_of_mem _ (sp_in (i := 245) (w := .classLink "SandPiano$Reader" 9 RX0) (by decide +kernel)))) (hts _ (List.mem_cons_of_mem _ (sp_in (i := 113) (w := .instantiable RX0 4) (by decide +kernel)))) (hts _ (List.mem_cons_of_mem _ (sp_in (i := 70) (w := .initialized RX0) (by decide +kernel)))) hK hP hD hS hA rfl (fun j hj => by rcases (show j = 0 ∨ j = 1 ∨ j = 2 ∨ j = 3 by omega) with rfl | rfl | rfl | rfl <;> rfl) (Nat.le_of_ble_eq_true rfl) (Nat.le_of_ble_eq_true rfl) si_9_5 (fun q1 H hP hD hS => ?_)
  have hP : va_P D vwCl [(h0, .inr (1, [.null, .null, .int 0])), (q1, .inr (0, [.null, .null, .null, .int 0]))] H := hP
  have hD : va_D A [(h0, .inr (1, [.null, .null, .int 0])), (q1, .inr (0, [.null, .null, .null, .int 0]))] := hD
  refine W.widen (k := 1) (n := 4) (by omega) (by omega) ?_
  refine lv_dup hx hb si_9_8 rfl ?_
  have hPc := hP.sub (ws' := [(q1, .inr (0, [.null, .null, .null, .int 0]))]) [1] rfl
  have hDc := hD.sub (ws' := [(q1, .inr (0, [.null, .null, .null, .int 0]))]) [1] (by decide) rfl
  have hKc := hK.sub (tys' := []) [] rfl
  have hFc := va_free (wc := [(q1, .inr (0, [.null, .null, .null, .int 0]))]) hD hS hA [1] rfl
  refine va_callv (va_runIN (As := []) (rest := [.ref q1, .ref h0]) ⟨hx, hb, hmlN, hown, hts⟩ (kc_keys l D q1 H.size) ⟨va_cnB (bytes := sp_b 5) (maxL := 1) (own := "SandPiano$Reader") (index := 11) (host := "SandPiano") 0 hts (sp_goodW (i1 := 116) (by decide +kernel)) (by unfold sp_w; rw [sl_5, sr_5]) rfl rfl (by rw [sy_5]; exact hE.1.2.2.2.2.2.2.1) (by rw [sy_5]; exact (hts _ (List.mem_cons_of_mem _ (sp_in (i := 70) (w := .initialized "SandPiano$Keys") (by decide +kernel))))) (by rw [sy_5]; exact ⟨by decide +kernel, by decide +kernel, by decide +kernel⟩) ⟨Nat.le_of_ble_eq_true rfl, Nat.le_of_ble_eq_true rfl⟩, (by rw [sy_5]), (by rw [sy_5]; exact (hts _ (List.mem_cons_of_mem _ (sp_in (i := 115) (w := .instanceMethod ⟨"SandPiano$Keys", "<init>", "()V"⟩) (by decide +kernel)))))⟩ ⟨fun a U g mk q => by obtain ⟨q0, q1, qP, qK, qD, qE⟩ := q; exact ⟨q0, q1, qP, va_K.moved (u := U) (U := U.calling g mk a) (Vm.Alike.refl U.vm) qK, qD, qE.call⟩, fun U hU hW => ⟨rfl, by rw [hU], by rw [hU]; exact hPc, va_K.moved hW.alike hKc, hDc.weaken (fun _ _ _ _ => trivial), hE.warm hW⟩⟩ rfl rfl hl.1 rfl (lv_room (Nat.le_of_ble_eq_true rfl)) si_9_9 ⟨Nat.le_of_ble_eq_true rfl, Nat.le_of_ble_eq_true rfl⟩) hS (fun q _ h => hFc q h) hFc (fun u t H1 locs ht hvm hw hB hz1 hk1 hS => ?_)
  obtain ⟨q1_k3, c2_k3, q3_k3, c4_k3, q5_k3, c6_k3, rfl⟩ := hw
  obtain ⟨hP1, hK1, hD1⟩ := hB
  rw [ht] at hP1
  have hK1 := va_K.moved hvm.symm hK1
  obtain ⟨hP, hD⟩ := va_join (wr := [(h0, .inr (1, [.null, .null, .int 0]))]) (w1 := [(q1, .inr (0, [.ref q1_k3, .ref q3_k3, .ref q5_k3, .int 0])), (q1_k3, .inl (c2_k3, 6, .inl (fun _ => 0))), (q3_k3, .inl (c4_k3, 6, .inl (fun _ => 0))), (q5_k3, .inl (c6_k3, 6, .inl (fun _ => 0)))]) hP hD [1] [0] rfl rfl (by decide) (by decide) hk1 hFc hP1 hD1
  have hK := hK.app (hK1.sub (tys' := [(c2_k3, .int), (c4_k3, .int), (c6_k3, .int)]) [0, 1, 2] rfl)
  generalize H1 = H at hP hS ⊢
  have hP : va_P D vwCl [(h0, .inr (1, [.null, .null, .int 0])), (q1, .inr (0, [.ref q1_k3, .ref q3_k3, .ref q5_k3, .int 0])), (q1_k3, .inl (c2_k3, 6, .inl (fun _ => 0))), (q3_k3, .inl (c4_k3, 6, .inl (fun _ => 0))), (q5_k3, .inl (c6_k3, 6, .inl (fun _ => 0)))] H := hP
  have hD : va_D A [(h0, .inr (1, [.null, .null, .int 0])), (q1, .inr (0, [.ref q1_k3, .ref q3_k3, .ref q5_k3, .int 0])), (q1_k3, .inl (c2_k3, 6, .inl (fun _ => 0))), (q3_k3, .inl (c4_k3, 6, .inl (fun _ => 0))), (q5_k3, .inl (c6_k3, 6, .inl (fun _ => 0)))] := hD
  have hK : va_K D vwCl [(c2_k3, .int), (c4_k3, .int), (c6_k3, .int)] s := hK
  refine W.widen (k := 4) (n := 22) (by omega) (by omega) ?_
  refine va_putF (D := D) (ci := 1) (v := .ref q1) (ty := .object "SandPiano$Keys") (C := RX1) (T := TX1) (N := 3) hx hb hts (fun w h => List.mem_cons_of_mem _ (sp_lay1 w h)) tyX1 tyX1_ok nmX1 hown hK hP hD hS 0 rfl rfl 0 (by decide) (hts _ (List.mem_cons_of_mem _ (sp_in (i := 249) (w := .fieldLink "SandPiano$Reader" 12 "SandPiano$Reader" "keys" "LSandPiano$Keys;") (by decide +kernel)))) (fun _ h9 => h9) rfl hin rfl (by decide +kernel) rfl rfl (Nat.le_of_ble_eq_true rfl) si_9_12 (fun H locs hP hD hS => ?_)
  have hP : va_P D vwCl [(h0, .inr (1, [.ref q1, .null, .int 0])), (q1, .inr (0, [.ref q1_k3, .ref q3_k3, .ref q5_k3, .int 0])), (q1_k3, .inl (c2_k3, 6, .inl (fun _ => 0))), (q3_k3, .inl (c4_k3, 6, .inl (fun _ => 0))), (q5_k3, .inl (c6_k3, 6, .inl (fun _ => 0)))] H := hP
  have hD : va_D A [(h0, .inr (1, [.ref q1, .null, .int 0])), (q1, .inr (0, [.ref q1_k3, .ref q3_k3, .ref q5_k3, .int 0])), (q1_k3, .inl (c2_k3, 6, .inl (fun _ => 0))), (q3_k3, .inl (c4_k3, 6, .inl (fun _ => 0))), (q5_k3, .inl (c6_k3, 6, .inl (fun _ => 0)))] := hD
  refine lv_aload_n hx hb si_9_15 rfl (lv_at hl 0 rfl) ?_
  refine va_new (ci := 2) (fs := [.null, .int 0, .int 0, .int 0]) (C := RX2) (T := TX2) (N := 4) hx hb hts (fun w h => List.mem_cons_of_mem _ (sp_lay2 w h)) tyX2 tyX2_ok hown (hts _ (List.mem_cons_of_mem _ (sp_in (i := 247) (w := .classLink "SandPiano$Reader" 18 RX2) (by decide +kernel)))) (hts _ (List.mem_cons_of_mem _ (sp_in (i := 157) (w := .instantiable RX2 4) (by decide +kernel)))) (hts _ (List.mem_cons_of_mem _ (sp_in (i := 72) (w := .initialized RX2) (by decide +kernel)))) hK hP hD hS hA rfl (fun j hj => by rcases (show j = 0 ∨ j = 1 ∨ j = 2 ∨ j = 3 by omega) with rfl | rfl | rfl | rfl <;> rfl) (Nat.le_of_ble_eq_true rfl) (Nat.le_of_ble_eq_true rfl) si_9_16 (fun q4 H hP hD hS => ?_)
  have hP : va_P D vwCl [(h0, .inr (1, [.ref q1, .null, .int 0])), (q1, .inr (0, [.ref q1_k3, .ref q3_k3, .ref q5_k3, .int 0])), (q1_k3, .inl (c2_k3, 6, .inl (fun _ => 0))), (q3_k3, .inl (c4_k3, 6, .inl (fun _ => 0))), (q5_k3, .inl (c6_k3, 6, .inl (fun _ => 0))), (q4, .inr (2, [.null, .int 0, .int 0, .int 0]))] H := hP
  have hD : va_D A [(h0, .inr (1, [.ref q1, .null, .int 0])), (q1, .inr (0, [.ref q1_k3, .ref q3_k3, .ref q5_k3, .int 0])), (q1_k3, .inl (c2_k3, 6, .inl (fun _ => 0))), (q3_k3, .inl (c4_k3, 6, .inl (fun _ => 0))), (q5_k3, .inl (c6_k3, 6, .inl (fun _ => 0))), (q4, .inr (2, [.null, .int 0, .int 0, .int 0]))] := hD
  refine W.widen (k := 5) (n := 26) (by omega) (by omega) ?_
  refine lv_dup hx hb si_9_19 rfl ?_
  have hPc := hP.sub (ws' := [(q4, .inr (2, [.null, .int 0, .int 0, .int 0]))]) [5] rfl
  have hDc := hD.sub (ws' := [(q4, .inr (2, [.null, .int 0, .int 0, .int 0]))]) [5] (by decide) rfl
  have hKc := hK.sub (tys' := []) [] rfl
  have hFc := va_free (wc := [(q4, .inr (2, [.null, .int 0, .int 0, .int 0]))]) hD hS hA [5] rfl
  refine va_callv (va_runIN (As := []) (rest := [.ref q4, .ref h0]) ⟨hx, hb, hmlN, hown, hts⟩ (kc_sand l D q4 H.size) ⟨va_cnB (bytes := sp_b 7) (maxL := 1) (own := "SandPiano$Reader") (index := 20) (host := "SandPiano") 0 hts (sp_goodW (i1 := 160) (by decide +kernel)) (by unfold sp_w; rw [sl_7, sr_7]) rfl rfl (by rw [sy_7]; exact hE.1.2.2.2.2.2.2.2) (by rw [sy_7]; exact (hts _ (List.mem_cons_of_mem _ (sp_in (i := 72) (w := .initialized "SandPiano$Sand") (by decide +kernel))))) (by rw [sy_7]; exact ⟨by decide +kernel, by decide +kernel, by decide +kernel⟩) ⟨Nat.le_of_ble_eq_true rfl, Nat.le_of_ble_eq_true rfl⟩, (by rw [sy_7]), (by rw [sy_7]; exact (hts _ (List.mem_cons_of_mem _ (sp_in (i := 159) (w := .instanceMethod ⟨"SandPiano$Sand", "<init>", "()V"⟩) (by decide +kernel)))))⟩ ⟨fun a U g mk q => by obtain ⟨q0, q1, qP, qK, qD, qE⟩ := q; exact ⟨q0, q1, qP, va_K.moved (u := U) (U := U.calling g mk a) (Vm.Alike.refl U.vm) qK, qD, qE.call⟩, fun U hU hW => ⟨rfl, by rw [hU], by rw [hU]; exact hPc, va_K.moved hW.alike hKc, hDc.weaken (fun _ _ _ _ => trivial), hE.warm hW⟩⟩ rfl rfl hl.1 rfl (lv_room (Nat.le_of_ble_eq_true rfl)) si_9_20 ⟨Nat.le_of_ble_eq_true rfl, Nat.le_of_ble_eq_true rfl⟩) hS (fun q _ h => hFc q h) hFc (fun u t H1 locs ht hvm hw hB hz1 hk1 hS => ?_)
  obtain ⟨q1_k6, c2_k6, rfl⟩ := hw
  obtain ⟨hP1, hK1, hD1⟩ := hB
  rw [ht] at hP1
  have hK1 := va_K.moved hvm.symm hK1
  obtain ⟨hP, hD⟩ := va_join (wr := [(h0, .inr (1, [.ref q1, .null, .int 0])), (q1, .inr (0, [.ref q1_k3, .ref q3_k3, .ref q5_k3, .int 0])), (q1_k3, .inl (c2_k3, 6, .inl (fun _ => 0))), (q3_k3, .inl (c4_k3, 6, .inl (fun _ => 0))), (q5_k3, .inl (c6_k3, 6, .inl (fun _ => 0)))]) (w1 := [(q4, .inr (2, [.ref q1_k6, .int 0, .int 0, .int 0])), (q1_k6, .inl (c2_k6, 6, .inl (fun _ => 0)))]) hP hD [5] [0, 1, 2, 3, 4] rfl rfl (by decide) (by decide) hk1 hFc hP1 hD1
  have hK := hK.app (hK1.sub (tys' := [(c2_k6, .int)]) [0] rfl)
  generalize H1 = H at hP hS ⊢
  have hP : va_P D vwCl [(h0, .inr (1, [.ref q1, .null, .int 0])), (q1, .inr (0, [.ref q1_k3, .ref q3_k3, .ref q5_k3, .int 0])), (q1_k3, .inl (c2_k3, 6, .inl (fun _ => 0))), (q3_k3, .inl (c4_k3, 6, .inl (fun _ => 0))), (q5_k3, .inl (c6_k3, 6, .inl (fun _ => 0))), (q4, .inr (2, [.ref q1_k6, .int 0, .int 0, .int 0])), (q1_k6, .inl (c2_k6, 6, .inl (fun _ => 0)))] H := hP
  have hD : va_D A [(h0, .inr (1, [.ref q1, .null, .int 0])), (q1, .inr (0, [.ref q1_k3, .ref q3_k3, .ref q5_k3, .int 0])), (q1_k3, .inl (c2_k3, 6, .inl (fun _ => 0))), (q3_k3, .inl (c4_k3, 6, .inl (fun _ => 0))), (q5_k3, .inl (c6_k3, 6, .inl (fun _ => 0))), (q4, .inr (2, [.ref q1_k6, .int 0, .int 0, .int 0])), (q1_k6, .inl (c2_k6, 6, .inl (fun _ => 0)))] := hD
  have hK : va_K D vwCl [(c2_k3, .int), (c4_k3, .int), (c6_k3, .int), (c2_k6, .int)] s := hK
  refine W.widen (k := 6) (n := 32) (by omega) (by omega) ?_
  refine va_putF (D := D) (ci := 1) (v := .ref q4) (ty := .object "SandPiano$Sand") (C := RX1) (T := TX1) (N := 3) hx hb hts (fun w h => List.mem_cons_of_mem _ (sp_lay1 w h)) tyX1 tyX1_ok nmX1 hown hK hP hD hS 0 rfl rfl 1 (by decide) (hts _ (List.mem_cons_of_mem _ (sp_in (i := 251) (w := .fieldLink "SandPiano$Reader" 21 "SandPiano$Reader" "sand" "LSandPiano$Sand;") (by decide +kernel)))) (fun _ h9 => h9) rfl hin rfl (by decide +kernel) rfl rfl (Nat.le_of_ble_eq_true rfl) si_9_23 (fun H locs hP hD hS => ?_)
  have hP : va_P D vwCl [(h0, .inr (1, [.ref q1, .ref q4, .int 0])), (q1, .inr (0, [.ref q1_k3, .ref q3_k3, .ref q5_k3, .int 0])), (q1_k3, .inl (c2_k3, 6, .inl (fun _ => 0))), (q3_k3, .inl (c4_k3, 6, .inl (fun _ => 0))), (q5_k3, .inl (c6_k3, 6, .inl (fun _ => 0))), (q4, .inr (2, [.ref q1_k6, .int 0, .int 0, .int 0])), (q1_k6, .inl (c2_k6, 6, .inl (fun _ => 0)))] H := hP
  have hD : va_D A [(h0, .inr (1, [.ref q1, .ref q4, .int 0])), (q1, .inr (0, [.ref q1_k3, .ref q3_k3, .ref q5_k3, .int 0])), (q1_k3, .inl (c2_k3, 6, .inl (fun _ => 0))), (q3_k3, .inl (c4_k3, 6, .inl (fun _ => 0))), (q5_k3, .inl (c6_k3, 6, .inl (fun _ => 0))), (q4, .inr (2, [.ref q1_k6, .int 0, .int 0, .int 0])), (q1_k6, .inl (c2_k6, 6, .inl (fun _ => 0)))] := hD
  refine lv_aload_n hx hb si_9_26 rfl (lv_at hl 0 rfl) ?_
  refine lv_iconst (v := 1) hx hb si_9_27 (by decide) ?_
  refine va_put (D := D) (ci := 1) (v := .int 1) (ty := .int) (C := RX1) (T := TX1) (N := 3) hx hb hts (fun w h => List.mem_cons_of_mem _ (sp_lay1 w h)) tyX1 tyX1_ok nmX1 hown hK hP hD hS 0 rfl rfl 2 (by decide) (hts _ (List.mem_cons_of_mem _ (sp_in (i := 253) (w := .fieldLink "SandPiano$Reader" 25 "SandPiano$Reader" "spade" "I") (by decide +kernel)))) (fun _ h9 => h9) rfl (by decide +kernel) rfl rfl (Nat.le_of_ble_eq_true rfl) si_9_28 (fun H locs hP hD hS => ?_)
  have hP : va_P D vwCl [(h0, .inr (1, [.ref q1, .ref q4, .int 1])), (q1, .inr (0, [.ref q1_k3, .ref q3_k3, .ref q5_k3, .int 0])), (q1_k3, .inl (c2_k3, 6, .inl (fun _ => 0))), (q3_k3, .inl (c4_k3, 6, .inl (fun _ => 0))), (q5_k3, .inl (c6_k3, 6, .inl (fun _ => 0))), (q4, .inr (2, [.ref q1_k6, .int 0, .int 0, .int 0])), (q1_k6, .inl (c2_k6, 6, .inl (fun _ => 0)))] H := hP
  have hD : va_D A [(h0, .inr (1, [.ref q1, .ref q4, .int 1])), (q1, .inr (0, [.ref q1_k3, .ref q3_k3, .ref q5_k3, .int 0])), (q1_k3, .inl (c2_k3, 6, .inl (fun _ => 0))), (q3_k3, .inl (c4_k3, 6, .inl (fun _ => 0))), (q5_k3, .inl (c6_k3, 6, .inl (fun _ => 0))), (q4, .inr (2, [.ref q1_k6, .int 0, .int 0, .int 0])), (q1_k6, .inl (c2_k6, 6, .inl (fun _ => 0)))] := hD
  have hP9 := hP.sub (ws' := [(h0, .inr (1, [.ref q1, .ref q4, .int 1])), (q1, .inr (0, [.ref q1_k3, .ref q3_k3, .ref q5_k3, .int 0])), (q1_k3, .inl (c2_k3, 6, .inl (fun _ => 0))), (q3_k3, .inl (c4_k3, 6, .inl (fun _ => 0))), (q5_k3, .inl (c6_k3, 6, .inl (fun _ => 0))), (q4, .inr (2, [.ref q1_k6, .int 0, .int 0, .int 0])), (q1_k6, .inl (c2_k6, 6, .inl (fun _ => 0)))]) [0, 1, 2, 3, 4, 5, 6] rfl
  have hD9 := hD.sub (ws' := [(h0, .inr (1, [.ref q1, .ref q4, .int 1])), (q1, .inr (0, [.ref q1_k3, .ref q3_k3, .ref q5_k3, .int 0])), (q1_k3, .inl (c2_k3, 6, .inl (fun _ => 0))), (q3_k3, .inl (c4_k3, 6, .inl (fun _ => 0))), (q5_k3, .inl (c6_k3, 6, .inl (fun _ => 0))), (q4, .inr (2, [.ref q1_k6, .int 0, .int 0, .int 0])), (q1_k6, .inl (c2_k6, 6, .inl (fun _ => 0)))]) [0, 1, 2, 3, 4, 5, 6] (by decide) rfl
  have hK9 := hK.sub (tys' := [(c2_k3, .int), (c4_k3, .int), (c6_k3, .int), (c2_k6, .int)]) [0, 1, 2, 3] rfl
  exact W.vret hx hb hrN (fun t ht hW => ⟨⟨([(h0, .inr (1, [.ref q1, .ref q4, .int 1])), (q1, .inr (0, [.ref q1_k3, .ref q3_k3, .ref q5_k3, .int 0])), (q1_k3, .inl (c2_k3, 6, .inl (fun _ => 0))), (q3_k3, .inl (c4_k3, 6, .inl (fun _ => 0))), (q5_k3, .inl (c6_k3, 6, .inl (fun _ => 0))), (q4, .inr (2, [.ref q1_k6, .int 0, .int 0, .int 0])), (q1_k6, .inl (c2_k6, 6, .inl (fun _ => 0)))], [(c2_k3, .int), (c4_k3, .int), (c6_k3, .int), (c2_k6, .int)]), rfl, ⟨q1, q1_k3, c2_k3, q3_k3, c4_k3, q5_k3, c6_k3, q4, q1_k6, c2_k6, rfl⟩, by rw [ht]; exact hP9, va_K.moved hW.alike hK9, hD9⟩, hS.F ht⟩) hS.2.2 si_9_31
