/-! methods that surely throw: contract, rows -/
section
variable {G : GT} {K : KT} {M : MD} {v : VV} {L : LL} {pc q : Nat} {lv : List (Option Value)} {st : List Value} {Φ : VV → LL → Prop} {E : String}
theorem P_up {H H1 : Heap} (h : va_P (gD G) vwCl (gw G v L) H) (hz : ∀ q : Nat, q < H.size → H1[q]? = H[q]?) : va_P (gD G) vwCl (gw G v L) H1 := h.kept (fun k q hk => hz q.1 (h k q hk).lt)
def XT (G : GT) (Φ : VV → LL → Prop) (E : String) : String → State → State → Prop := fun E' st t => E' = E ∧ (∃ (v' : VV) (L' : LL), Φ v' L' ∧ va_P (gD G) vwCl (gw G v' L') t.heap) ∧ va_F (gA G) st t
def QF : Array Value → State → Outcome → State → Prop := fun _ _ _ _ => False
/-- the contract of a method that throws E, with the world Φ behind it -/
def CX (G : GT) (M : MD) (avs : List Value) (v : VV) (L : LL) (E : String) (Φ : VV → LL → Prop) : Prop :=
  vx_Met (gl G) (my M) [Cond.code (my M) (mb M) (ml M) (mr M)] (rmOf M 1 6) (va_Pc avs (Wld G v L)) QF (XT G Φ E) 1 6 (gA G)
abbrev XQ (G : GT) (K : KT) (Φ : VV → LL → Prop) (E : String) : State → Prop := vx_MQ (kb K) QF (XT G Φ E) (ka K) (ks K) 1 6 (gA G)
abbrev NoH (K : KT) : Prop := ∀ x ∈ (kc K).exceptionTable.toList, False
theorem cx_of {avs : List Value} (g : GH G) (lv0 : List (Option Value)) (hpl : plainName (my M).cls = true) (ho : (my M).cls = mo M) (hlv : lvl 0 lv0 = lv_args 0 avs) (hn : Nat.ble (lg_sl avs).length (ml M) = true)
    (body : ∀ K : KT, Fx G K M 1 6 → NoH K → CW G K (ml M) 0 0 (XQ G K Φ E) v L 0 lv0 []) : CX G M avs v L E Φ := by
  refine vx_ofW (cc := mb M) (maxL := ml M) (ret := mr M) hpl rfl ?_
  intro p e s m args below meth c s₁ B hml he hv
  obtain ⟨rfl, hP, hN, hK, hH⟩ := hv
  have hown : s.vm.findClass (my M).cls = some m.cls := findClass_of_methodNamed B.named
  have hl := lv_entry avs (n := ml M) (Nat.le_of_ble_eq_true hn)
  rw [lg_entry_eq]
  rw [← hlv] at hl
  exact body (p, e, _, s, m, avs.toArray, below, meth, c) ⟨B.exec, B.bytes, hml, by rw [← ho]; exact hown, B.notSynchronized, hN, hK, hH, g, rfl, B.returns⟩ he s.heap [] _ hP va_S.rf hl
theorem r_throwW {text : String} {ik is ic i : Nat} {names : List String} {q1 q2 q3 q4 q5 : Nat} (F : Fx G K M 1 6) (he : NoH K) (hcls : Bundle.fit E = true) (hnames : ∀ n ∈ names, Bundle.fit n = true) (hw : ∀ w ∈ Cond.classLink (mo M) ik E :: Cond.initialized E :: vx_atS (mo M) ic E names, TW w) (hg : ∀ w ∈ Cond.classLink (mo M) ik E :: Cond.initialized E :: vx_atS (mo M) ic E names, vx_ot w = true) (hs : strL[i]? = some (mo M, is, text))
    (d0 : DD (mb M) pc (.new ik) 3 q1) (d3 : DD (mb M) q1 .dup 1 q2) (d4 : DD (mb M) q2 (.ldc_w is) 3 q3) (d7 : DD (mb M) q3 (.invokespecial ic) 3 q4) (d10 : DD (mb M) q4 .athrow 1 q5)
    (ok : (Nat.ble (names.length + 4) (mf M) && Nat.ble ((st.map fun v => v.category).sum + (13 * (names.length + 1) + 43)) (mq M)) = true) (h : Φ v L) : CW G K (ml M) 0 0 (XQ G K Φ E) v L pc lv st := by
  intro H locs ls hP hS hl
  obtain ⟨e0, rfl⟩ := d0
  obtain ⟨e3, rfl⟩ := d3
  obtain ⟨e4, rfl⟩ := d4
  obtain ⟨e7, rfl⟩ := d7
  obtain ⟨e10, rfl⟩ := d10
  rw [Bool.and_eq_true] at ok
  refine vx_throwSW F.1 F.2.1 (F_g F).2 F.2.2.2.1 hcls hnames (F_w F (hw _ List.mem_cons_self)) (F_w F (hw _ (List.mem_cons_of_mem _ List.mem_cons_self))) (F.2.2.2.2.2.2.1.2.2.1 i _ hs) (fun w hx => F_w F (hw w (List.mem_cons_of_mem _ (List.mem_cons_of_mem _ hx)))) hg F.2.2.2.2.2.2.2.1.1 F.2.2.2.2.2.2.2.1.2 hS (hl.1.trans F.2.2.1.symm) e0 e3 e4 e7 e10 (fun x hx => (he x hx).elim) (by rw [F_R F]; exact Nat.le_of_ble_eq_true ok.1) (by rw [F_R F]; exact Nat.le_of_ble_eq_true ok.2) (by rw [F_R F]; exact Nat.le_refl 1) (by rw [F_R F]; exact Nat.le_refl 6) (F_l F) (fun t hA hz hq => ⟨rfl, ⟨v, L, h, P_up hP hq⟩, Nat.le_trans hS.1 hz, fun a h1 h2 => by rw [hq a (Nat.lt_of_lt_of_le h1 hS.1)]; exact hS.2.1 a h1 h2⟩) hS.2.2 (Nat.le_refl 1) (Nat.le_refl 6)
theorem r_throwS {text : String} {ik is ic i : Nat} {names : List String} {q1 q2 q3 q4 q5 : Nat} (F : Fx G K M 1 6) (he : NoH K) (hcls : Bundle.fit E = true) (hnames : ∀ n ∈ names, Bundle.fit n = true) (hw : ∀ w ∈ Cond.classLink (mo M) ik E :: Cond.initialized E :: vx_atS (mo M) ic E names, TW w) (hg : ∀ w ∈ Cond.classLink (mo M) ik E :: Cond.initialized E :: vx_atS (mo M) ic E names, vx_ot w = true) (hs : strL[i]? = some (mo M, is, text))
    (d0 : DD (mb M) pc (.new ik) 3 q1) (d3 : DD (mb M) q1 .dup 1 q2) (d4 : DD (mb M) q2 (.ldc is) 2 q3) (d7 : DD (mb M) q3 (.invokespecial ic) 3 q4) (d10 : DD (mb M) q4 .athrow 1 q5)
    (ok : (Nat.ble (names.length + 4) (mf M) && Nat.ble ((st.map fun v => v.category).sum + (13 * (names.length + 1) + 43)) (mq M)) = true) (h : Φ v L) : CW G K (ml M) 0 0 (XQ G K Φ E) v L pc lv st := by
  intro H locs ls hP hS hl
  obtain ⟨e0, rfl⟩ := d0
  obtain ⟨e3, rfl⟩ := d3
  obtain ⟨e4, rfl⟩ := d4
  obtain ⟨e7, rfl⟩ := d7
  obtain ⟨e10, rfl⟩ := d10
  rw [Bool.and_eq_true] at ok
  refine vx_throwS F.1 F.2.1 (F_g F).2 F.2.2.2.1 hcls hnames (F_w F (hw _ List.mem_cons_self)) (F_w F (hw _ (List.mem_cons_of_mem _ List.mem_cons_self))) (F.2.2.2.2.2.2.1.2.2.1 i _ hs) (fun w hx => F_w F (hw w (List.mem_cons_of_mem _ (List.mem_cons_of_mem _ hx)))) hg F.2.2.2.2.2.2.2.1.1 F.2.2.2.2.2.2.2.1.2 hS (hl.1.trans F.2.2.1.symm) e0 e3 e4 e7 e10 (fun x hx => (he x hx).elim) (by rw [F_R F]; exact Nat.le_of_ble_eq_true ok.1) (by rw [F_R F]; exact Nat.le_of_ble_eq_true ok.2) (by rw [F_R F]; exact Nat.le_refl 1) (by rw [F_R F]; exact Nat.le_refl 6) (F_l F) (fun t hA hz hq => ⟨rfl, ⟨v, L, h, P_up hP hq⟩, Nat.le_trans hS.1 hz, fun a h1 h2 => by rw [hq a (Nat.lt_of_lt_of_le h1 hS.1)]; exact hS.2.1 a h1 h2⟩) hS.2.2 (Nat.le_refl 1) (Nat.le_refl 6)
/-- behind a call that throws -/
theorem x_after {Q : State → Prop} {H : Heap} {locs : List Loc} {ls : Array Slot} {st0 : List Value} {cells slots : Nat} (hS : va_S (gA G) (ks K).heap H locs) (hr : vx_Run (kp K) (gl G) (ke K) (kR K) (ks K) (km K) (ka K) (kb K) (kM K) (kc K) H locs cells slots 1 6 (F0 (km K) pc ls st0) st (fun _ _ _ => False) (XT G Φ E) (gA G))
    (kx : ∀ (v' : VV) (L' : LL) (H1 : Heap) (locs1 : List Loc) (q9 : Addr) (ce : Cell), Φ v' L' → va_P (gD G) vwCl (gw G v' L') H1 → va_S (gA G) (ks K).heap H1 locs1 → H1[q9]? = some ce → ce.vm = .none → (ks K).vm.findClass E = some ce.cls → vx_W (kp K) (gl G) (ke K) (kR K) (ks K) (km K) (ka K) (kb K) (kM K) (kc K) H1 locs1 (cells + 1) (slots + 6) Q (F0 (km K) pc ls st) q9) : W (kp K) (gl G) (ke K) (kR K) (ks K) (km K) (ka K) (kb K) (kM K) (kc K) H locs cells slots Q (F0 (km K) pc ls st0) := by
  intro T hT X
  rcases hr T hT X with ⟨_, _, _, _, _, _, _, _, _, _, hf, _⟩ | ⟨q9, st₀, t, T', L9, E', ce, h0, X', hL, e1, e2, ⟨rfl, ⟨v', L', hp, hw⟩, hF⟩, hce, hcv, hcl, hst⟩
  · exact hf.elim
  · obtain ⟨k1, k2, k3⟩ := vx_keep h0 e1 hS (fun _ _ h => h) (fun _ h => h) hL hF
    obtain ⟨t2, a1, b1⟩ := kx v' L' T'.heap (locs ++ L9) q9 ce hp (by rw [e1]; exact hw) k3 (by rw [e1]; exact hce) hcv hcl T' rfl X'
    exact ⟨t2, hst.trans a1, b1⟩
theorem x_out {v' : VV} {L' : LL} {H : Heap} {locs : List Loc} {ls : Array Slot} {q9 : Addr} {ce : Cell} (F : Fx G K M 1 6) (he : NoH K) (hp : Φ v' L') (hP : va_P (gD G) vwCl (gw G v' L') H) (hS : va_S (gA G) (ks K).heap H locs) (h1 : H[q9]? = some ce) (h2 : ce.vm = .none) (h3 : (ks K).vm.findClass E = some ce.cls) : vx_W (kp K) (gl G) (ke K) (kR K) (ks K) (km K) (ka K) (kb K) (kM K) (kc K) H locs (0 + 1) (0 + 6) (XQ G K Φ E) (F0 (km K) pc ls st) q9 :=
  vx_out (fun x hx => (he x hx).elim) (F_l F) h1 h2 h3 (fun t ht hA => ⟨rfl, ⟨v', L', hp, by rw [ht]; exact hP⟩, hS.F ht⟩) hS.2.2 (Nat.le_refl 1) (Nat.le_refl 6)
theorem hx_ok {cells slots : Nat} (F : Fx G K M 1 6) (h : cells = 0 ∧ slots = 0) : cells + 1 ≤ (kR K).cells ∧ slots + 6 ≤ (kR K).slots := by
  rw [F_R F, h.1, h.2]; exact ⟨Nat.le_refl 1, Nat.le_refl 6⟩
/-- a static call that throws, in a method that throws the same -/
theorem r_outS {M' : MD} {ix : Nat} {As : List Value} (F : Fx G K M 1 6) (he : NoH K) (f : MFs M') (lk : TW (.methodLink (mo M) ix (my M'))) (ok : rok M M' = true) (d : DD (mb M) pc (.invokestatic ix) 3 q) (hn : As.length = mn M') (hw : Nat.ble ((st.map fun v => v.category).sum) 8 = true) (hM : CX G M' As v L E Φ) : CW G K (ml M) 0 0 (XQ G K Φ E) v L pc lv (As.reverse ++ st) := by
  intro H locs ls hP hS hl
  obtain ⟨d1, rfl⟩ := d
  obtain ⟨⟨f1, f2, f3⟩, f4⟩ := f
  exact x_after hS (vx_runS (Ts := []) (own := mo M) (As := As) (rest := st) (nL := ml M) ⟨F.1, F.2.1, F.2.2.1, F.2.2.2.1, fun _ h => by cases h⟩ hM ⟨⟨rfl, rfl, (room_ok F ok).1, (room_ok F ok).2, pay1 F f1, List.mem_singleton.mpr rfl, F_w F f1, F_w F f2, ⟨f3.1, f3.2.1⟩, par_ok f3.2.2, F_w F lk⟩, F_w F f4⟩ (pre_st F hP hS) rfl hn hl.1 rfl (lv_room (Nat.le_of_ble_eq_true hw)) d1 (hx_ok F ⟨rfl, rfl⟩)) (fun v' L' H1 locs1 q9 ce h1 h2 h3 h4 h5 h6 => x_out F he h1 h2 h3 h4 h5 h6)
theorem r_outS1 {M' : MD} {ix : Nat} {x1 : Value} (F : Fx G K M 1 6) (he : NoH K) (f : MFs M') (lk : TW (.methodLink (mo M) ix (my M'))) (ok : rok M M' = true) (d : DD (mb M) pc (.invokestatic ix) 3 q) (hn : mn M' = 1) (hw : Nat.ble ((st.map fun v => v.category).sum) 8 = true) (hM : CX G M' [x1] v L E Φ) : CW G K (ml M) 0 0 (XQ G K Φ E) v L pc lv (x1 :: st) := r_outS (As := [x1]) F he f lk ok d hn.symm hw hM
theorem r_outS2 {M' : MD} {ix : Nat} {x1 x2 : Value} (F : Fx G K M 1 6) (he : NoH K) (f : MFs M') (lk : TW (.methodLink (mo M) ix (my M'))) (ok : rok M M' = true) (d : DD (mb M) pc (.invokestatic ix) 3 q) (hn : mn M' = 2) (hw : Nat.ble ((st.map fun v => v.category).sum) 8 = true) (hM : CX G M' [x1, x2] v L E Φ) : CW G K (ml M) 0 0 (XQ G K Φ E) v L pc lv (x2 :: x1 :: st) := r_outS (As := [x1, x2]) F he f lk ok d hn.symm hw hM
end
theorem z16 : 0 ≤ 1 ∧ 0 ≤ 6 := ⟨Nat.zero_le 1, Nat.zero_le 6⟩
abbrev eIX : String := "java/lang/IndexOutOfBoundsException"
abbrev eIA : String := "java/lang/IllegalArgumentException"
abbrev eIS : String := "java/lang/IllegalStateException"
abbrev eNs : List String := ["java/lang/RuntimeException", "java/lang/Exception"]
theorem ewIX : ∀ w ∈ Cond.classLink RX7 298 eIX :: Cond.initialized eIX :: vx_atS RX7 302 eIX eNs, TW w := uw_of (by decide +kernel)
theorem egIX : ∀ w ∈ Cond.classLink RX7 298 eIX :: Cond.initialized eIX :: vx_atS RX7 302 eIX eNs, vx_ot w = true := by decide +kernel
theorem efIX : Bundle.fit eIX = true := by decide +kernel
theorem ewIA : ∀ w ∈ Cond.classLink RX7 56 eIA :: Cond.initialized eIA :: vx_atS RX7 60 eIA eNs, TW w := uw_of (by decide +kernel)
theorem egIA : ∀ w ∈ Cond.classLink RX7 56 eIA :: Cond.initialized eIA :: vx_atS RX7 60 eIA eNs, vx_ot w = true := by decide +kernel
theorem efIA : Bundle.fit eIA = true := by decide +kernel
theorem ewIS : ∀ w ∈ Cond.classLink RX7 77 eIS :: Cond.initialized eIS :: vx_atS RX7 81 eIS eNs, TW w := uw_of (by decide +kernel)
theorem egIS : ∀ w ∈ Cond.classLink RX7 77 eIS :: Cond.initialized eIS :: vx_atS RX7 81 eIS eNs, vx_ot w = true := by decide +kernel
theorem efIS : Bundle.fit eIS = true := by decide +kernel
theorem efN : ∀ n ∈ eNs, Bundle.fit n = true := by decide +kernel
/-- no number from 0 to n -/
def oor (x : Int32) (n : Nat) : Prop := x < 0 ∨ nI n < x
theorem in_or (x : Int32) (n : Nat) (hn : n < 2147483648) : oor x n ∨ ∃ k, k ≤ n ∧ x = nI k := by
  by_cases h : x < 0
  · exact Or.inl (Or.inl h)
  · by_cases h2 : nI n < x
    · exact Or.inl (Or.inr h2)
    · refine Or.inr ⟨x.toNatClampNeg, ?_⟩
      have e : x = nI x.toNatClampNeg := by
        apply Int32.toInt_inj.mp
        have h0 : ¬ x.toInt < 0 := fun z => h (by rw [Int32.lt_iff_toInt_lt]; exact z)
        have hm : x.toInt < 2147483648 := Int32.toInt_lt x
        have hx : ((x.toNatClampNeg : Nat) : Int) = x.toInt := by
          show ((x.toInt.toNat : Nat) : Int) = x.toInt
          omega
        unfold nI
        rw [Int32.toInt_ofNat_of_lt (by omega)]
        exact hx.symm
      refine ⟨?_, e⟩
      have hm : x.toInt < 2147483648 := Int32.toInt_lt x
      have hc : x.toNatClampNeg < 2147483648 := by
        show x.toInt.toNat < 2147483648
        omega
      rcases Nat.lt_or_ge n x.toNatClampNeg with z | z
      · exfalso
        apply h2
        rw [e]
        exact (nI_ltI hn hc).mpr z
      · exact z
