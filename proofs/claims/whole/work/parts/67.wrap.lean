/-! methods with a table of their own: the law's wrappers -/
theorem up1_ce1 {G : GT} {v : VV} {L : LL} {x : Int64} {i : Nat} (h92 : i < 92) (hi : i ≠ 91) : ce G v (up1 L 1 x) i = ce G v L i := by
  have h12 : (kd i).1 < 12 := (show ∀ i, i < 92 → i ≠ 91 → (kd i).1 < 12 by decide +kernel) i h92 hi
  have : (kd i).1 = 0 ∨ (kd i).1 = 1 ∨ (kd i).1 = 2 ∨ (kd i).1 = 3 ∨ (kd i).1 = 4 ∨ (kd i).1 = 5 ∨ (kd i).1 = 6 ∨ (kd i).1 = 7 ∨ (kd i).1 = 8 ∨ (kd i).1 = 9 ∨ (kd i).1 = 10 ∨ (kd i).1 = 11 := by omega
  rcases this with h | h | h | h | h | h | h | h | h | h | h | h <;> simp [ce, h, up1]
theorem arr1_cong {cA : ClassId} {f g : Nat → Int64} (h : f 0 = g 0) : vp_cell cA (1, .inr (.inl f)) = vp_cell cA (1, .inr (.inl g)) := by
  rw [vp_cell_l, vp_cell_l]
  unfold arrV
  congr 1
  apply Array.ext
  · simp
  · intro i h1 h2
    have : i = 0 := by simp at h1; omega
    subst this
    simp [h]
theorem Met.ofWH {l : Launch} {y : MethodName} {ws ws' : List Cond} {rm : Room} {Pc : Array Value → State → Prop} {Qc : Array Value → State → Outcome → State → Prop} {mc ms : Nat} {free : Addr → Prop} {cc : ByteArray} {maxL : Nat} {ret : Option FieldType} {hh : List (Nat × Nat × Nat × Nat)}
    (hy : plainName y.cls = true) (hw : ws = Cond.codeWith y cc maxL ret hh :: ws')
    (body : ∀ p e s m args below meth c s₁, BodyLoose p l y (headSpec ws rm) cc maxL ret e s m args below meth c s₁ → c.maxLocals = maxL → Pc args s →
      W p l e (headSpec ws rm).room s m args below meth c s.heap [] 0 0 (MQ below Qc args s mc ms free) (entryFrame m args maxL)) : Met l y ws rm Pc Qc mc ms free := by
  refine MetFree.of_bodyS (code := cc) (maxLocals := maxL) (ret := ret) hy ?_ ?_
  · intro args s m h hn
    obtain ⟨m9, meth, c, hn9, h1, h2, h3, h4, -, h5, h6, -⟩ := Cond.codeWith_spec (atoms_spec (ws := ws) h _ (by rw [hw]; exact List.mem_cons_self))
    cases hn.symm.trans hn9
    exact ⟨meth, c, h1, h2, h3, h4, h5, h6⟩
  · intro p e s m args below meth c s₁ B hml hP _
    have hh0 : s₁.heap = s.heap := by rw [B.state]; rfl
    obtain ⟨t, a1, o, b1, b2, b3⟩ := body p e s m args below meth c s₁ B hml hP s₁ hh0 (Stand.of_body B)
    exact ⟨t, o, a1, b1, b2, ⟨b3.1, b3.2⟩⟩
abbrev HH : Type := List (Nat × Nat × Nat × Nat)
/-- the contract of a wrapper: it returns, and may have made one exception -/
def CH (G : GT) (M : MD) (hh : HH) (avs : List Value) (v : VV) (L : LL) (Φ : Option Value → VV → LL → Prop) : Prop :=
  Met (gl G) (my M) [Cond.codeWith (my M) (mb M) (ml M) (mr M) hh] (rmOf M 1 6) (va_Pc avs (Wld G v L)) (Qn G Φ) 1 6 (gA G)
section
variable {G : GT} {K : KT} {M : MD} {v : VV} {L : LL} {pc q : Nat} {lv : List (Option Value)} {st : List Value} {c s cells slots : Nat} {Q : State → Prop}
theorem ch_of {hh : HH} {avs : List Value} {Φ : Option Value → VV → LL → Prop} (g : GH G) (tw : TW (.codeWith (my M) (mb M) (ml M) (mr M) hh)) (lv0 : List (Option Value)) (hpl : plainName (my M).cls = true) (ho : (my M).cls = mo M) (hlv : lvl 0 lv0 = lv_args 0 avs) (hn : Nat.ble (lg_sl avs).length (ml M) = true)
    (body : ∀ K : KT, Fx G K M 1 6 → (kc K).exceptionTable.toList = tableOf hh → CW G K (ml M) 0 0 (MQ (kb K) (Qn G Φ) (ka K) (ks K) 1 6 (gA G)) v L 0 lv0 []) : CH G M hh avs v L Φ := by
  refine Met.ofWH (cc := mb M) (maxL := ml M) (ret := mr M) (hh := hh) hpl rfl ?_
  intro p e s m args below meth c s₁ B hml hv
  obtain ⟨rfl, hP, hN, hK, hH⟩ := hv
  have hown : s.vm.findClass (my M).cls = some m.cls := findClass_of_methodNamed B.named
  have hl := lv_entry avs (n := ml M) (Nat.le_of_ble_eq_true hn)
  have ht := vx_table (x := my M) B (hK.word tw _)
  rw [lg_entry_eq]
  rw [← hlv] at hl
  exact body (p, e, _, s, m, avs.toArray, below, meth, c) ⟨B.exec, B.bytes, hml, by rw [← ho]; exact hown, B.notSynchronized, hN, hK, hH, g, rfl, B.returns⟩ ht s.heap [] _ hP va_S.rf hl
theorem r_iretH1 {x : Int32} {Φ : Option Value → VV → LL → Prop} (F : Fx G K M 1 6) (hr : mr M = some .int) (d : DD (mb M) pc .ireturn 1 q) (h : Φ (some (.int x)) v L) : CW G K (ml M) 1 6 (MQ (kb K) (Qn G Φ) (ka K) (ks K) 1 6 (gA G)) v L pc lv [.int x] := by
  intro H locs ls hP hS hl
  exact W.zret F.1 F.2.1 ((F_r F).trans hr) rfl (fun t ht hW => ⟨⟨_, v, L, rfl, h, wld_of F hP hS ht hW⟩, hS.F ht⟩) hS.2.2 d.1 (F_l F)
theorem r_iretH {x : Int32} {Φ : Option Value → VV → LL → Prop} (F : Fx G K M 1 6) (hr : mr M = some .int) (d : DD (mb M) pc .ireturn 1 q) (h : Φ (some (.int x)) v L) : CW G K (ml M) 0 0 (MQ (kb K) (Qn G Φ) (ka K) (ks K) 1 6 (gA G)) v L pc lv [.int x] := cw_widen (Nat.zero_le 1) (Nat.zero_le 6) (r_iretH1 F hr d h)
theorem r_last {x : Int64} (F : Fx G K M c s) (d : DD (mb M) pc .lastore 1 q) (k : CW G K (ml M) cells slots Q v (up1 L 1 x) q lv st) : CW G K (ml M) cells slots Q v L pc lv (.long x :: .int (nI 0) :: .ref (gB G 91) :: st) := by
  intro H locs ls hP hS hl
  obtain ⟨d1, rfl⟩ := d
  refine va_last F.1 F.2.1 (F_K F) hP (gw_D (F_g F)) hS 91 3 (n := 1) (f := fun _ => L 1) (by rw [gw_at (by decide), ce12 rfl]) rfl (nI_in (by decide) (by decide)) d1 (fun H1 locs1 hP1 _ hS1 => k H1 locs1 ls ?_ hS1 hl)
  intro k2 p2 hk2
  obtain ⟨h92, rfl⟩ := gw_lt hk2
  by_cases e : k2 = 91
  · subst e
    have h1 := hP1 91 _ (List.getElem?_set_self (by rw [gw_len]; decide))
    rw [ce12 rfl]
    exact h1.trans (congrArg some (arr1_cong (by rw [nI_clamp (by decide)]; simp [vp_updL, up1])))
  · rw [up1_ce1 h92 e]
    exact hP1 k2 _ (by rw [List.getElem?_set_ne (fun z => e z.symm)]; exact gw_at h92)
/-- the rows ahead of x don't take E, x does -/
def TK (M : MD) (E : String) (pc : Nat) (pre : List ExceptionTableEntry) (x : ExceptionTableEntry) : Prop := (∀ z ∈ pre, covers z pc = false ∨ (z.catchType ≠ 0 ∧ ∃ nm : String, TW (.classLink (mo M) z.catchType nm) ∧ (E, nm) ∈ ncL)) ∧ covers x pc = true ∧ x.catchType ≠ 0 ∧ TW (.classLink (mo M) x.catchType E) ∧ TW (.castable E E)
theorem r_catchV {M' : MD} {ix k ci N : Nat} {T : u_T} {As : List Value} {E : String} {Φ : VV → LL → Prop} {pre suf : List ExceptionTableEntry} {x : ExceptionTableEntry} (F : Fx G K M 1 6) (f : MFv M') (lk : TW (.methodLink (mo M) ix (my M'))) (ok : rok M M' = true) (hk : kd k = (ci,0,0)) (hc : Nat.ble (ci+1) 8 = true) (hC : vwCl[ci]? = some (mo M', T, N)) (d : DD (mb M) pc (.invokevirtual ix) 3 q) (hn : As.length = mn M') (hw : Nat.ble ((st.map fun v => v.category).sum) 8 = true) (hM : CX G M' (.ref (gB G k) :: As) v L E Φ) (tab : (kc K).exceptionTable.toList = pre ++ x :: suf) (tk : TK M E pc pre x)
    (kk : ∀ v' L' (q9 : Nat), Φ v' L' → CW G K (ml M) 1 6 Q v' L' x.handlerPc lv [.ref q9]) : CW G K (ml M) 0 0 Q v L pc lv (As.reverse ++ .ref (gB G k) :: st) := by
  intro H locs ls hP hS hl
  obtain ⟨d1, rfl⟩ := d
  obtain ⟨⟨f1, f2, f3⟩, f4, f5⟩ := f
  refine x_after hS (vx_runV (Ts := []) (own := mo M) (C := mo M') (As := As) (rest := st) (nL := ml M) ⟨F.1, F.2.1, F.2.2.1, F.2.2.2.1, fun _ h => by cases h⟩ hM ⟨⟨rfl, rfl, (room_ok F ok).1, (room_ok F ok).2, pay1 F f1, List.mem_singleton.mpr rfl, F_w F f1, F_w F f2, ⟨f3.1, f3.2.1⟩, par_ok f3.2.2, F_w F lk⟩, F_w F f4, F_w F f5⟩ (pre_recv F hP hS hk hc hC) rfl hn hl.1 rfl (lv_room (Nat.le_of_ble_eq_true hw)) d1 (hx_ok F ⟨rfl, rfl⟩)) (fun v' L' H1 locs1 q9 ce h1 h2 h3 h4 h5 h6 => ?_)
  exact vx_catch F.2.2.2.1 pre x suf tab (fun z hz => (tk.1 z hz).imp id (fun ⟨a, nm, b, e⟩ => ⟨a, nm, F_w F b, F.2.2.2.2.2.2.1.2.2.2 _ e⟩)) tk.2.1 tk.2.2.1 (F_w F tk.2.2.2.1) (F_w F tk.2.2.2.2) h4 h5 h6 (kk v' L' q9 h1 H1 locs1 ls h2 h3 hl)
/-- a wrapper is called -/
theorem r_afterH {Φ : Option Value → VV → LL → Prop} {H : Heap} {locs : List Loc} {ls : Array Slot} {st0 : List Value} {a : Array Value} (hS : va_S (gA G) (ks K).heap H locs) (hl : lv_has ls (ml M) (lvl 0 lv)) (hr : va_Run (kp K) (gl G) (ke K) (kR K) (ks K) (km K) (ka K) (kb K) (kM K) (kc K) H locs cells slots 1 6 (F0 (km K) pc ls st0) st (Qn G Φ a) (gA G)) (kk : ∀ r v' L', Φ r v' L' → CW G K (ml M) (cells + 1) (slots + 6) Q v' L' (pc + 3) lv (r.toList ++ st)) : W (kp K) (gl G) (ke K) (kR K) (ks K) (km K) (ka K) (kb K) (kM K) (kc K) H locs cells slots Q (F0 (km K) pc ls st0) := by
  intro T hT X
  obtain ⟨r, st₀, t, T', L9, h0, X', hL, e1, e2, ⟨⟨rv, v', L', hv, hp, hw⟩, hz, hk⟩, hst⟩ := hr T hT X
  cases hv
  rw [h0] at hz hk
  have hS1 : va_S (gA G) (ks K).heap T'.heap (locs ++ L9) := ⟨Nat.le_trans hS.1 (by rw [e1]; exact hz), fun q h1 h2 => by rw [e1, hk q (Nat.lt_of_lt_of_le h1 hS.1) h2]; exact hS.2.1 q h1 h2, fun q hq => by
    rcases List.mem_append.mp hq with h | h
    · exact hS.2.2 q h
    · exact hL q h⟩
  obtain ⟨t2, a1, b1⟩ := kk r v' L' hp T'.heap (locs ++ L9) ls (by rw [e1]; exact hw.1) hS1 hl T' rfl X'
  exact ⟨t2, hst t2 a1, b1⟩
/-- facts of a wrapper -/
def MH (M : MD) (hh : HH) : Prop := TW (.codeWith (my M) (mb M) (ml M) (mr M) hh) ∧ TW (.initialized (my M).cls) ∧ ((my M).cls ≠ "java/lang/invoke/MethodHandle" ∧ (my M).cls ≠ "java/lang/invoke/VarHandle" ∧ (parseMethodDescriptor (my M).desc).map (fun d => d.parameters.length) = some (mn M)) ∧ TW (.static (my M))
theorem payH {M' : MD} {hh : HH} (F : Fx G K M c s) (h : TW (.codeWith (my M') (mb M') (ml M') (mr M') hh)) : ∀ w ∈ [Cond.codeWith (my M') (mb M') (ml M') (mr M') hh], ∀ (a' : Array Value) (U : State), (ks K).WarmedH U.vm → w.before a' U = true := by
  intro w hw a' U hW
  rw [List.mem_singleton] at hw
  subst hw
  exact (F.2.2.2.2.2.2.1.warm hW).word h a'
theorem r_callH {M' : MD} {hh : HH} {ix : Nat} {As : List Value} {Ψ : Int32 → VV → LL → Prop} (F : Fx G K M c s) (f : MH M' hh) (lk : TW (.methodLink (mo M) ix (my M'))) (ok : rok M M' = true) (d : DD (mb M) pc (.invokestatic ix) 3 q) (hn : As.length = mn M') (hw : Nat.ble ((st.map fun v => v.category).sum) 8 = true) (z : cells + 1 ≤ c ∧ slots + 6 ≤ s) (hM : CH G M' hh As v L (gI Ψ)) (kk : ∀ x v' L', Ψ x v' L' → CW G K (ml M) (cells + 1) (slots + 6) Q v' L' q lv (.int x :: st)) : CW G K (ml M) cells slots Q v L pc lv (As.reverse ++ st) := by
  intro H locs ls hP hS hl
  obtain ⟨d1, rfl⟩ := d
  obtain ⟨f1, f2, f3, f4⟩ := f
  exact r_afterH hS hl (vx_runSW (Ts := []) (own := mo M) (As := As) (rest := st) (nL := ml M) ⟨F.1, F.2.1, F.2.2.1, F.2.2.2.1, fun _ h => by cases h⟩ hM ⟨⟨rfl, rfl, (room_ok F ok).1, (room_ok F ok).2, payH F f1, List.mem_singleton.mpr rfl⟩, F_w F f1, F_w F f2, ⟨f3.1, f3.2.1⟩, par_ok f3.2.2, F_w F lk, F_w F f4⟩ (pre_st F hP hS) rfl hn hl.1 rfl (lv_room (Nat.le_of_ble_eq_true hw)) d1 (by rw [F_R F]; exact z)) (fun r v' L' h => by obtain ⟨x, rfl, h2⟩ := h; exact kk x v' L' h2)
end
/-- what a wrapper leaves: k is the number of the exception, 0 without one -/
def WF (v : VV) (a' : AS) (k : Nat) (x : Int32) : Int32 → VV → LL → Prop := fun y v' L' => y = nI k ∧ FrC v v' ∧ IC v' a' ∧ (k = 0 → L' 1 = x.toInt64)
theorem up1_s1 (L : LL) (x : Int64) : up1 L 1 x 1 = x := if_pos rfl
