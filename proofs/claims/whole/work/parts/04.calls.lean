section SpCalls
variable {X : sp_X} {N d : Nat} {Rt : sp_Rt} {a : sp_Ac} {pc : Nat} {ls st : List Value} {g : sp_G}
theorem sp_D_any {A : Nat → Prop} (g1 : sp_G) (h : va_D A (sp_W X g)) : va_D A (sp_W X g1) := by
  have key : ∀ (i : Nat) (q : Nat × va_E), (sp_W X g1)[i]? = some q → ∃ q', (sp_W X g)[i]? = some q' ∧ q'.1 = q.1 := fun i q hq => by
    have hi : i < sp_K := by
      have := (List.getElem?_eq_some_iff.mp hq).1
      unfold sp_W at this
      simpa using this
    rw [sp_W_at X g1 hi] at hq
    cases hq
    exact ⟨_, sp_W_at X g hi, rfl⟩
  refine ⟨fun i j p q hi hj he => ?_, fun i q hi => ?_⟩
  · obtain ⟨p', hp, ep⟩ := key i p hi
    obtain ⟨q', hq, eq⟩ := key j q hj
    exact h.1 i j p' q' hp hq (by rw [ep, eq]; exact he)
  · obtain ⟨q', hq, eq⟩ := key i q hi
    rw [← eq]
    exact h.2 i q' hq
theorem sp_run {sl : Array Slot} {st0 : List Value} {H : Heap} {locs : List Loc} {Rt1 : sp_Rt} {av : Array Value} (hr : va_Run a.p X.1 a.e a.R a.s a.m a.as a.bl a.me a.c H locs a.ce a.sl 0 0 (F0 a.m pc sl st0) (st.map (sp_rv X)) (sp_Qc X Rt1 av) (sp_A X)) (hw : sp_Wc X a g H locs) (hl : sp_LH X sl (sp_l N) ls)
    (kk : ∀ (r : Option Value) (g1 : sp_G), Rt1 r g1 → sp_Ev X a N (pc + 3) ls (r.toList ++ st) g1) : sp_Wp X a H locs (F0 a.m pc sl st0) := by
  intro T hT Xs
  obtain ⟨v, st₀, t, T', L, h0, X', hL, e1, e2, ⟨⟨r, g1, hv, hR, hP⟩, hz, hk⟩, stp⟩ := hr T hT Xs
  have hv : v = r.map (sp_rv X) := by injection hv
  rw [h0] at hz hk
  obtain ⟨t2, a1, b1⟩ := kk r g1 hR T'.heap (locs ++ L) sl ⟨by rw [e1]; exact hP, sp_D_any g1 hw.2.1, Nat.le_trans hw.2.2.1 (by rw [e1]; exact hz), fun q h1 h2 => by
      rw [e1, hk q (Nat.lt_of_lt_of_le h1 hw.2.2.1) h2]
      exact hw.2.2.2.1 q h1 h2, fun q hq => by
      rcases List.mem_append.mp hq with h | h
      · exact hw.2.2.2.2 q h
      · exact hL q h⟩ hl T' rfl X'
  refine ⟨t2, stp t2 ?_, b1⟩
  have es : (r.toList ++ st).map (sp_rv X) = v.toList ++ st.map (sp_rv X) := by
    rw [List.map_append, hv]
    cases r <;> rfl
  rw [es] at a1
  exact a1
theorem sp_St.call {U : State} {g9 : JFrame} {mk : MethodId} {av : Array Value} (h : sp_St X U U.heap) : sp_St X (U.calling g9 mk av) (U.calling g9 mk av).heap := by
  obtain ⟨h1, h2, h3, h4, h5, h6⟩ := h
  exact ⟨va_Z.moved (u := U) (U := U.calling g9 mk av) (Vm.Alike.refl U.vm) h1, va_T.moved (u := U) (U := U.calling g9 mk av) (Vm.Alike.refl U.vm) h2, va_Z.moved (u := U) (U := U.calling g9 mk av) (Vm.Alike.refl U.vm) h3, va_T.moved (u := U) (U := U.calling g9 mk av) (Vm.Alike.refl U.vm) h4, va_Nw.same (u := U) (U := U.calling g9 mk av) rfl rfl h5, va_Nw.same (u := U) (U := U.calling g9 mk av) rfl rfl h6⟩
theorem sp_blind {av : List Value} : FrameBlind (va_Pc av (sp_Wd X g)) := fun a9 U g9 mk q => by
  obtain ⟨q0, qP, qK, qD, qS⟩ := q
  exact ⟨q0, qP, va_K.moved (u := U) (U := U.calling g9 mk a9) (Vm.Alike.refl U.vm) qK, qD, qS.call⟩
theorem sp_pre (hA : sp_Act X N d Rt a) {H : Heap} {locs : List Loc} (hw : sp_Wc X a g H locs) {U : State} (hU : U.heap = H) (hW : a.s.WarmedH U.vm) : sp_Wd X g U := by
  refine ⟨by rw [hU]; exact hw.1, va_K.moved hW.alike hA.2.2.2.2.2.1, hw.2.1, ?_⟩
  rw [hU]
  exact sp_St.warm hW hA.2.2.2.2.2.2.1 hw.2.2.2.1
theorem sp_goodC {N1 i1 : Nat} (h : sp_has i1 (.code (sp_y N1) (sp_b N1) (sp_l N1) (sp_r N1)) = true) : ∀ w ∈ sp_w N1, w ∈ sp_T ∧ ((w.onTables && w.keeps) = true ∨ ∃ ty, w = .arrayClass ty) := fun w hw => by
  have hm : w ∈ sp_T := by
    rcases List.mem_cons.mp hw with e | e
    · rw [e]; exact sp_in h
    · exact e
  exact ⟨hm, good_of_word (sp_T_good w hm)⟩
theorem sr_callV (hA : sp_Act X N d Rt a) {idx N1 n i1 i2 i3 i4 i5 d1 ci c : Nat} {as st0 : List Value} {Rt1 : sp_Rt} (hi : decode (sp_b N) pc = .ok (.invokevirtual idx, 3)) (hv : sp_okV N1 n i1 i2 i3 i4 = true) (hL : sp_okL N idx N1 i5 = true) (hd : d1 + 1 ≤ d) (hn : as.length = n) (hci : ci < 9) (hc : c < sp_K) (hk : sp_kd c = ci) (hcls : (sp_cl ci).1 = (sp_y N1).cls) (hst : st0 = as.reverse ++ .ref c :: st) (hrest : (st.map fun v => v.category).sum ≤ 8) (hC : sp_Ct X d1 N1 (.ref c :: as) g Rt1)
    (kk : ∀ (r : Option Value) (g1 : sp_G), Rt1 r g1 → sp_Ev X a N (pc + 3) ls (r.toList ++ st) g1) : sp_Ev X a N pc ls st0 g := fun H locs sl hw hl => by
  subst hst
  unfold sp_okV at hv
  simp only [Bool.and_eq_true, decide_eq_true_eq] at hv
  obtain ⟨⟨⟨⟨⟨⟨⟨⟨h1, h2⟩, h3⟩, h4⟩, h5⟩, h6⟩, h7⟩, h8⟩, h9⟩ := hv
  have he := sp_W_at X g hc
  rw [sp_en_o hk hci] at he
  have hb : CallB a.R a.s a.as (sp_y N).cls idx (sp_y N1) (sp_b N1) (sp_l N1) (sp_r N1) (sp_w N1) (sp_rm d1) 0 0 n := by
    refine callB_of n hA.2.2.2.2.1 (sp_goodC h1) rfl rfl rfl (hA.2.2.2.2.1 _ (sp_in h4)) (hA.2.2.2.2.1 _ (sp_in hL)) ⟨h5, h6, h7⟩ ⟨?_, ?_⟩
    · have := hA.2.2.2.2.2.2.2.1
      show d1 + 1 ≤ a.R.frames
      omega
    · have := hA.2.2.2.2.2.2.2.2.1
      show 8 + (sp_l N1 + 11) + 64 * d1 ≤ a.R.locals
      omega
  have hrv := va_recv hA.2.2.2.2.2.1 hw.1 (sp_cls_at hci) he
  rw [hcls] at hrv
  have hs : (as.reverse ++ .ref c :: st).map (sp_rv X) = (as.map (sp_rv X)).reverse ++ .ref (sp_ad X c) :: st.map (sp_rv X) := by
    rw [List.map_append, List.map_reverse]
    rfl
  have hcat : ((st.map (sp_rv X)).map fun v => v.category).sum ≤ 8 := by
    rw [List.map_map, show ((fun v : Value => v.category) ∘ sp_rv X) = (fun v => v.category) from funext (sp_rv_cat X)]
    exact hrest
  have hsz := hl.1
  refine sp_run (N := N) (Rt1 := Rt1) (av := (Value.ref (sp_ad X c) :: as.map (sp_rv X)).toArray) ?_ hw hl kk
  rw [hs]
  exact va_runV (Ts := sp_T) (C := (sp_y N1).cls) ⟨hA.1, hA.2.1, hA.2.2.1, hA.2.2.2.1, hA.2.2.2.2.1⟩ hC ⟨hb, hA.2.2.2.2.1 _ (sp_in h2), hA.2.2.2.2.1 _ (sp_in h3)⟩ ⟨sp_blind, hrv, fun U hU hW => ⟨rfl, sp_pre hA hw hU hW⟩⟩ rfl (by rw [List.length_map]; exact hn) hsz rfl (lv_room hcat) hi ⟨hA.2.2.2.2.2.2.2.2.2.1, hA.2.2.2.2.2.2.2.2.2.2.1⟩
theorem sr_callS (hA : sp_Act X N d Rt a) {idx N1 n i1 i2 i4 i5 d1 : Nat} {as st0 : List Value} {Rt1 : sp_Rt} (hi : decode (sp_b N) pc = .ok (.invokestatic idx, 3)) (hv : sp_okS N1 n i1 i2 i4 = true) (hL : sp_okL N idx N1 i5 = true) (hd : d1 + 1 ≤ d) (hn : as.length = n) (hst : st0 = as.reverse ++ st) (hrest : (st.map fun v => v.category).sum ≤ 8) (hC : sp_Ct X d1 N1 as g Rt1)
    (kk : ∀ (r : Option Value) (g1 : sp_G), Rt1 r g1 → sp_Ev X a N (pc + 3) ls (r.toList ++ st) g1) : sp_Ev X a N pc ls st0 g := fun H locs sl hw hl => by
  subst hst
  unfold sp_okS at hv
  simp only [Bool.and_eq_true, decide_eq_true_eq] at hv
  obtain ⟨⟨⟨⟨⟨⟨⟨h1, h2⟩, h4⟩, h5⟩, h6⟩, h7⟩, h8⟩, h9⟩ := hv
  have hb : CallB a.R a.s a.as (sp_y N).cls idx (sp_y N1) (sp_b N1) (sp_l N1) (sp_r N1) (sp_w N1) (sp_rm d1) 0 0 n := by
    refine callB_of n hA.2.2.2.2.1 (sp_goodC h1) rfl rfl rfl (hA.2.2.2.2.1 _ (sp_in h4)) (hA.2.2.2.2.1 _ (sp_in hL)) ⟨h5, h6, h7⟩ ⟨?_, ?_⟩
    · have := hA.2.2.2.2.2.2.2.1
      show d1 + 1 ≤ a.R.frames
      omega
    · have := hA.2.2.2.2.2.2.2.2.1
      show 8 + (sp_l N1 + 11) + 64 * d1 ≤ a.R.locals
      omega
  have hs : (as.reverse ++ st).map (sp_rv X) = (as.map (sp_rv X)).reverse ++ st.map (sp_rv X) := by
    rw [List.map_append, List.map_reverse]
  have hcat : ((st.map (sp_rv X)).map fun v => v.category).sum ≤ 8 := by
    rw [List.map_map, show ((fun v : Value => v.category) ∘ sp_rv X) = (fun v => v.category) from funext (sp_rv_cat X)]
    exact hrest
  have hsz := hl.1
  refine sp_run (N := N) (Rt1 := Rt1) (av := (as.map (sp_rv X)).toArray) ?_ hw hl kk
  rw [hs]
  exact va_runS (Ts := sp_T) ⟨hA.1, hA.2.1, hA.2.2.1, hA.2.2.2.1, hA.2.2.2.2.1⟩ hC ⟨hb, hA.2.2.2.2.1 _ (sp_in h2)⟩ ⟨sp_blind, fun U hU hW => ⟨rfl, sp_pre hA hw hU hW⟩⟩ rfl (by rw [List.length_map]; exact hn) hsz rfl (lv_room hcat) hi ⟨hA.2.2.2.2.2.2.2.2.2.1, hA.2.2.2.2.2.2.2.2.2.2.1⟩
/-- System.arraycopy between rows of ints -/
theorem sr_copy (hA : sp_Act X N d Rt a) {idx i1 i2 i3 i4 c0 c1 : Nat} {sp dp n : Int32} (hi : decode (sp_b N) pc = .ok (.invokestatic idx, 3)) (hL : sp_has i1 (.methodLink (sp_y N).cls idx arraycopyName) = true) (hn1 : sp_has i2 (.native arraycopyName) = true) (hn2 : sp_has i3 (.static arraycopyName) = true) (hn3 : sp_has i4 (.initialized "java/lang/System") = true) (hd : 1 ≤ d) (h0 : c0 < sp_K) (h1 : c1 < sp_K) (hk0 : sp_kd c0 = 10) (hk1 : sp_kd c1 = 10) (hs1 : ¬ sp < 0) (hs2 : ¬ dp < 0) (hs3 : ¬ n < 0) (hs4 : sp.toNatClampNeg + n.toNatClampNeg ≤ sp_ln c0) (hs5 : dp.toNatClampNeg + n.toNatClampNeg ≤ sp_ln c1) (hrest : (st.map fun v => v.category).sum ≤ 8)
    (k : sp_Ev X a N (pc + 3) ls st (sp_wA g c1 (va_cpy (g.1 c0) (g.1 c1) sp.toNatClampNeg dp.toNatClampNeg n.toNatClampNeg))) : sp_Ev X a N pc ls (.int n :: .int dp :: .ref c1 :: .int sp :: .ref c0 :: st) g := fun H locs sl hw hl => by
  obtain ⟨t0, ht0⟩ := sp_ty_at X h0 (by omega)
  obtain ⟨t1, ht1⟩ := sp_ty_at X h1 (by omega)
  rw [hk0] at ht0
  rw [hk1] at ht1
  have he0 := sp_W_at X g h0
  rw [sp_en_i (by omega) (by omega)] at he0
  have he1 := sp_W_at X g h1
  rw [sp_en_i (by omega) (by omega)] at he1
  have hcat : ((st.map (sp_rv X)).map fun v => v.category).sum ≤ 8 := by
    rw [List.map_map, show ((fun v : Value => v.category) ∘ sp_rv X) = (fun v => v.category) from funext (sp_rv_cat X)]
    exact hrest
  have hnf : nativeFrameWords "java/lang/System" "arraycopy" 5 = 7 := by decide +kernel
  have hset : (sp_W X g).set c1 (sp_ad X c1, .inl (sp_ca X c1, sp_ln c1, .inl (va_cpy (g.1 c0) (g.1 c1) sp.toNatClampNeg dp.toNatClampNeg n.toNatClampNeg))) = sp_W X (sp_wA g c1 (va_cpy (g.1 c0) (g.1 c1) sp.toNatClampNeg dp.toNatClampNeg n.toNatClampNeg)) := by
    have e : (sp_wA g c1 (va_cpy (g.1 c0) (g.1 c1) sp.toNatClampNeg dp.toNatClampNeg n.toNatClampNeg)).1 c1 = va_cpy (g.1 c0) (g.1 c1) sp.toNatClampNeg dp.toNatClampNeg n.toNatClampNeg := by simp [sp_wA]
    rw [← e, ← sp_en_i (X := X) (by omega) (by omega)]
    rw [e]
    exact sp_W_set X _ _ h1 (fun c' h => sp_en_same (by simp [sp_wA, h]) rfl)
  have hfr := hA.2.2.2.2.2.2.2.1
  have hlo := hA.2.2.2.2.2.2.2.2.1
  refine va_copyi (D := X.2.1) (cl := vwCl) hA.1 hA.2.1 (by rw [hA.2.2.1]; exact hl.1.symm) hA.2.2.2.1 (hA.2.2.2.2.1 _ (sp_in hL)) (hA.2.2.2.2.1 _ (sp_in hn1)) (hA.2.2.2.2.1 _ (sp_in hn2)) (hA.2.2.2.2.1 _ (sp_in hn3)) hA.2.2.2.2.2.1 hw.1 hw.2.1 hw.2.2 c0 c1 t0 t1 he0 he1 ht0 ht1 rfl hs1 hs2 hs3 hs4 hs5 (fun _ _ => rfl) (by omega) (by rw [hnf]; omega) hi (fun H1 locs1 hP hD hS => ?_)
  rw [hset] at hP hD
  exact k H1 locs1 sl ⟨hP, hD, hS⟩ hl
end SpCalls
