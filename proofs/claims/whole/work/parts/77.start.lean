/-! the law from its entry -/
theorem sel_tp {s : State} {args : Array Value} {C : String} {n : Nat} (hins : (Cond.instantiable C n).before args s = true) (hpriv : (Cond.privateMethod yX2_tellPosition).before args s = true) (hinst : (Cond.instanceMethod yX2_tellPosition).before args s = true) (hsel : (Cond.selects RX3 yX2_lookBehind yX2_lookBehind).before args s = true) : (Cond.selects C yX2_tellPosition yX2_tellPosition).before args s = true := by
  obtain ⟨c, k, hc, hk, -⟩ := Cond.instantiable_spec hins
  obtain ⟨mk, methM, hnamed, hmethM, -, -⟩ := Cond.instanceMethod_spec hinst
  obtain ⟨c2, r2, m2, q1, q2, q3, q4, kE, hkE, hni⟩ := Cond.selects_spec hsel
  have hfound : s.methodFound? yX2_tellPosition.cls yX2_tellPosition.name yX2_tellPosition.desc = some mk := State.methodFound?_of_named hnamed ⟨by decide, by decide⟩
  have e1 := findClass_of_methodNamed hnamed
  have e2 := findClass_of_methodNamed q3
  have hcls : mk.cls = m2.cls := Option.some.inj (e1.symm.trans e2)
  have hsl : selectMethod {} s.vm c mk = .method mk := selectMethod_private hmethM (Cond.privateMethod_at hpriv mk methM hnamed hmethM)
  simp only [Cond.before, Cond.holds, Cond.value, hc, hfound, hnamed, hsl, hcls, hkE]
  simp; exact hni
theorem arr_at {s : State} {args : Array Value} {ty : FieldType} (h : (Cond.arrayClass ty).before args s = true) : ∃ c : ClassId, ArrOfT s c ty ∧ s.vm.findClass ("[" ++ ty.toString) = some c := by
  obtain ⟨c, k, comp, h1, h2, h3⟩ := Cond.arrayClass_spec h
  exact ⟨c, fun n z => ⟨fun k h => (by cases h), k, h2, comp, h3⟩, h1⟩
theorem arr_st {s : State} (h : va_AO nSt s) : ∃ c : ClassId, ArrOfT s c (.object nSt) ∧ va_RA s c (.object nSt) := by
  obtain ⟨comp, c, k, h1, h2, h3, h4, h5⟩ := Cond.arrayOver_spec h
  exact ⟨c, fun n z => ⟨fun k h => (by cases h), k, h3, comp, h4⟩, k, comp, h3, h4, h1, h5⟩
theorem kn_at {s : State} {C : String} {T : u_T} {N n : Nat} (tw : ∀ w, TW w → w.before #[] s = true) (uw : ∀ w ∈ u_ws C T N, TW w) (hi : TW (.instantiable C n)) : ∃ (c : ClassId) (i : Nat → Nat), u_Kn s C T N c i := u_known (ws := u_ws C T N) (args := #[]) (n := n) (fun w hw => tw w (uw w hw)) (fun _ h => h) (tw _ hi)
set_option maxHeartbeats 4000000 in
theorem start_KB {l : Launch} {s : State} (tw : ∀ w, TW w → w.before #[] s = true) (over : va_AO nSt s) (strs : ∀ i : Nat, ∃ x : Nat, ∀ q : String × Nat × String, strL[i]? = some q → vk_R q.1 q.2.1 q.2.2 x s) (ncs : ∀ q ∈ ncL, va_Nc q.1 q.2 s) : ∃ (D : va_G) (c0 : Nat → ClassId) (s0 : Nat → Nat), ∀ a, KB (mkG l a D c0 s0) s := by
  obtain ⟨d0, i0, k0⟩ := kn_at tw uw0 tw_107
  obtain ⟨d1, i1, k1⟩ := kn_at tw uw1 tw_198
  obtain ⟨d2, i2, k2⟩ := kn_at tw uw3 tw_234
  obtain ⟨d3, i3, k3⟩ := kn_at tw uw4 tw_178
  obtain ⟨d4, i4, k4⟩ := kn_at tw uw5 tw_101
  obtain ⟨d5, i5, k5⟩ := kn_at tw uw6 tw_264
  obtain ⟨d6, i6, k6⟩ := kn_at tw uw7 tw_93
  obtain ⟨d7, i7, k7⟩ := kn_at tw uw8 tw_872
  obtain ⟨e0, a0, b0⟩ := arr_at (tw _ tw_127)
  obtain ⟨e1, a1, b1⟩ := arr_at (tw _ tw_232)
  obtain ⟨e2, a2, b2⟩ := arr_at (tw _ tw_231)
  obtain ⟨e3, a3, b3⟩ := arr_at (tw _ tw_1206)
  obtain ⟨e4, a4, b4⟩ := arr_st over
  obtain ⟨s0, hs0⟩ := Classical.axiomOfChoice strs
  refine ⟨(fun k => match k with | 0 => d0 | 1 => d1 | 2 => d2 | 3 => d3 | 4 => d4 | 5 => d5 | 6 => d6 | _ => d7, fun k => match k with | 0 => i0 | 1 => i1 | 2 => i2 | 3 => i3 | 4 => i4 | 5 => i5 | 6 => i6 | _ => i7), fun k => match k with | 0 => e0 | 1 => e1 | 2 => e2 | 3 => e3 | _ => e4, s0, fun a => ⟨⟨fun k q hq => ?_, fun k q hq => ?_⟩, tw, fun i q hq => hs0 i q hq, ncs⟩⟩
  · match k, hq with
    | 0, hq => cases hq; exact k0
    | 1, hq => cases hq; exact k1
    | 2, hq => cases hq; exact k2
    | 3, hq => cases hq; exact k3
    | 4, hq => cases hq; exact k4
    | 5, hq => cases hq; exact k5
    | 6, hq => cases hq; exact k6
    | 7, hq => cases hq; exact k7
    | k + 8, hq => simp [vwCl] at hq
  · match k, hq with
    | 0, hq => cases hq; exact ⟨a0, b0⟩
    | 1, hq => cases hq; exact ⟨a1, b1⟩
    | 2, hq => cases hq; exact ⟨a2, b2⟩
    | 3, hq => cases hq; exact ⟨a3, b3⟩
    | 4, hq => cases hq; exact ⟨a4, b4⟩
    | k + 5, hq => simp [tysG] at hq
section
variable {G : GT} {K : KT} {M : MD} {c s a cells slots : Nat} {Q : State → Prop} {el : List va_E} {pc q : Nat} {lv : List (Option Value)} {st : List Value}
theorem n_astore_n {x : Nat} {n : Fin 4} (F : Fn G K M c s a) (d : DD (mb M) pc (.astore_n n) 1 q) (h1 : ok1 lv (n : Nat) = true) (h2 : Nat.ble ((n : Nat) + 1) (ml M) = true) (k : NW G K (ml M) cells slots Q a el q (lv.set (n : Nat) (some (.ref x))) st) : NW G K (ml M) cells slots Q a el pc lv (.ref x :: st) := by
  intro H locs ls hP hS hl
  obtain ⟨d1, rfl⟩ := d
  exact lv_astore_n F.1 F.2.1 d1 rfl hl (Nat.le_of_ble_eq_true h2) rfl (fun ls hl => k H locs ls hP hS (lv_set1 h1 hl))
theorem n_istore {x : Int32} {n : Nat} (F : Fn G K M c s a) (d : DD (mb M) pc (.istore n) 2 q) (h1 : ok1 lv n = true) (h2 : Nat.ble (n + 1) (ml M) = true) (k : NW G K (ml M) cells slots Q a el q (lv.set n (some (.int x))) st) : NW G K (ml M) cells slots Q a el pc lv (.int x :: st) := by
  intro H locs ls hP hS hl
  obtain ⟨d1, rfl⟩ := d
  exact lv_istore F.1 F.2.1 d1 hl (Nat.le_of_ble_eq_true h2) rfl (fun ls hl => k H locs ls hP hS (lv_set1 h1 hl))
end
set_option maxHeartbeats 4000000 in
theorem law_head {G : GT} {K : KT} {a b : Nat} {Q : State → Prop} (F : Fn G K ML_law 601024 7293034 a) (k : NW G K 9 92 2669 Q a (allB G a) 23 [some (.ref b), some (.ref (a + 0)), some (.ref (a + 83)), some (.ref (a + 91)), some (.int (nI 0)), none, none, none, none] []) : NW G K 9 0 0 Q a [] 0 [some (.ref b), none, none, none, none, none, none, none, none] [] := by
  refine n_new (n := 0) (el' := [.inr (6, [.null, .null, .null, .null, .null, .null, .null])]) F uw7 tyX7_ok rfl tw_92 tw_93 tw_74 bk6 ⟨by decide, by decide⟩ dL_law_0 rfl rfl ?_
  refine n_dup F dL_law_3 rfl ?_
  refine n_ctor (j := 0) (el' := clB G a) [] F fMX7_init fiMX7_init rfl rfl tw_94 rfl dL_law_4 rfl rfl ⟨by decide, by decide⟩ nc_BiddenMoves rfl rfl rfl ?_
  refine n_astore_n F dL_law_7 rfl rfl ?_
  refine n_new (n := 83) (el' := clB G a ++ [.inr (7, [.null, .null, .int (nI 0), .null, .null, .null, .int (nI 0), .int (nI 0), .null, .null, .int (nI 0), .int (nI 0), .int (nI 0), .long 0])]) F uw8 tyX8_ok rfl tw_871 tw_872 tw_82 bk7 ⟨by decide, by decide⟩ dL_law_8 (clB_len G a) rfl ?_
  refine n_dup F dL_law_11 rfl ?_
  refine n_ctor (j := 83) (el' := clB G a ++ mdB G (a + 83)) (clB G a) F fMX8_init fiMX8_init rfl rfl tw_873 rfl dL_law_12 rfl rfl ⟨by decide, by decide⟩ nc_BiddenMovesModel rfl (clB_len G a) rfl ?_
  refine n_astore_n F dL_law_15 rfl rfl ?_
  refine n_iconst (x := nI 1) F dL_law_16 rfl ?_
  refine n_newa (N := 1) (n := 91) (t0 := 3) (ty := .long) (a0 := (1, .inr (.inl (fun _ => 0)))) (el' := allB G a) F tw_1206 rfl rfl (fun _ _ h => h) rfl (by decide) (by decide) ⟨by decide, by decide⟩ dL_law_17 (cm_len G a (a + 83)) rfl ?_
  refine n_astore_n F dL_law_19 rfl rfl ?_
  refine n_iconst (x := nI 0) F dL_law_20 rfl ?_
  refine n_istore F dL_law_21 rfl rfl ?_
  exact k
theorem nw_cw {l : Launch} {a : Nat} {D : va_G} {c0 : Nat → ClassId} {s0 : Nat → Nat} {K : KT} {cells slots pc : Nat} {Q : State → Prop} {lv : List (Option Value)} {st : List Value} (k : CW (mkG l a D c0 s0) K 9 cells slots Q v0 L0 pc lv st) : NW (mkG l a D c0 s0) K 9 cells slots Q a (allB (mkG l a D c0 s0) a) pc lv st := fun H locs ls hP hS hl => k H locs ls (all_gw hP.1) ⟨hS.1, fun q h1 h2 => hS.2.1 q h1 (fun z => h2 (Or.inr z)), fun q hq => Or.inr (hS.2.2 q hq)⟩ hl
theorem gA_lo {l : Launch} {a : Nat} {D : va_G} {c0 : Nat → ClassId} {s0 : Nat → Nat} {q : Nat} (h : gA (mkG l a D c0 s0) q) : a ≤ q := by
  rcases h with ⟨k, -, e⟩ | h
  · rw [e]; exact Nat.le_add_right a (ord k)
  · exact h
set_option maxHeartbeats 4000000 in
theorem whole_start {p : Program} {e : Env} {s : State} {m : MethodId} {below : List Frame} {meth : Method} {c : Code} (l : Launch) (hflags : l.flags = flags0) {b L : Nat} {xs : Nat → Int32} (hL : L ≤ 3072) (C0 : lw_At p s m meth c b L xs) : W p l e room_1 s m #[Value.ref b] below meth c s.heap [] 0 0 (lw_Z below #[Value.ref b] s) (entryFrame m ([Value.ref b] : List Value).toArray 9) := by
  obtain ⟨hx, hb, hr, hml, hown, hts, hX, hbl, hlocks, hgv⟩ := id C0
  have hs := flat_of_before _ hgv
  have wat : ∀ (i : Nat) (w : Cond), lw_tbl[i]? = some w → w.before #[Value.ref b] s = true := fun i w h => hts w (List.mem_of_getElem? h)
  have w434 : (Cond.privateMethod yX2_tellPosition).before #[Value.ref b] s = true := wat 434 _ (by decide +kernel)
  have w435 : (Cond.instanceMethod yX2_tellPosition).before #[Value.ref b] s = true := wat 435 _ (by decide +kernel)
  have w466 : (Cond.selects RX3 yX2_lookBehind yX2_lookBehind).before #[Value.ref b] s = true := wat 466 _ (by decide +kernel)
  have htb : ∀ w ∈ lw_tb2, w.before #[Value.ref b] s = true := by
    intro w hw
    rcases List.mem_append.mp hw with h | h
    · exact hts w h
    · rcases List.mem_cons.mp h with h | h
      · rw [h]; exact sel_tp (n := 4) (wat 234 (.instantiable RX3 4) (by decide +kernel)) w434 w435 w466
      · rw [List.mem_singleton.mp h]; exact sel_tp (n := 4) (wat 264 (.instantiable RX6 4) (by decide +kernel)) w434 w435 w466
  have tw : ∀ w, TW w → w.before #[] s = true := fun w ⟨i, hi, hp⟩ => pW_at (State.WarmedH.refl s) hp (htb w (List.mem_of_getElem? hi))
  have over : va_AO nSt s := va_AO.of (wat 184 (.arrayOver (.object nSt)) (by decide +kernel))
  have sr : ∀ (i : Nat) (own : String) (k : Nat) (tx : String), lw_tbl[i]? = some (.stringRef own k tx) → (Cond.exactly (.string own k) "java/lang/String").before #[Value.ref b] s = true → ∃ x : Nat, vk_R own k tx x s := fun i own k tx h1 h2 => by
    obtain ⟨x, _, _, _, h3, -⟩ := Cond.exactly_spec h2
    exact ⟨x, vk_R.of (wat i _ h1) h3⟩
  obtain ⟨x0, t0⟩ := sr 588 "BiddenMoves" 307 "an argument is out of range" (by decide +kernel) (hs _ (by decide +kernel))
  obtain ⟨x1, t1⟩ := sr 635 "BiddenMoves" 300 "no such position" (by decide +kernel) (hs _ (by decide +kernel))
  obtain ⟨x2, t2⟩ := sr 655 "BiddenMoves" 303 "no such player" (by decide +kernel) (hs _ (by decide +kernel))
  obtain ⟨x3, t3⟩ := sr 721 "BiddenMoves" 58 "a move leads to another position" (by decide +kernel) (hs _ (by decide +kernel))
  obtain ⟨x4, t4⟩ := sr 731 "BiddenMoves" 79 "the position has this move, or no room for it" (by decide +kernel) (hs _ (by decide +kernel))
  obtain ⟨x5, t5⟩ := sr 763 "BiddenMoves" 305 "no such setting" (by decide +kernel) (hs _ (by decide +kernel))
  obtain ⟨x6, t6⟩ := sr 782 "BiddenMoves" 153 "no such character in the buffer" (by decide +kernel) (hs _ (by decide +kernel))
  obtain ⟨x7, t7⟩ := sr 783 "BiddenMoves" 158 "the buffer is full" (by decide +kernel) (hs _ (by decide +kernel))
  obtain ⟨x8, t8⟩ := sr 795 "BiddenMoves" 171 "the buffer tells no board" (by decide +kernel) (hs _ (by decide +kernel))
  obtain ⟨x9, t9⟩ := sr 812 "BiddenMoves" 186 "no snapshot in this slot" (by decide +kernel) (hs _ (by decide +kernel))
  obtain ⟨x10, t10⟩ := sr 820 "BiddenMoves" 191 "no saved state" (by decide +kernel) (hs _ (by decide +kernel))
  have strs : ∀ i : Nat, ∃ x : Nat, ∀ q : String × Nat × String, strL[i]? = some q → vk_R q.1 q.2.1 q.2.2 x s := by
    intro i
    match i with
    | 0 => exact ⟨x0, fun q hq => by cases hq; exact t0⟩
    | 1 => exact ⟨x1, fun q hq => by cases hq; exact t1⟩
    | 2 => exact ⟨x2, fun q hq => by cases hq; exact t2⟩
    | 3 => exact ⟨x3, fun q hq => by cases hq; exact t3⟩
    | 4 => exact ⟨x4, fun q hq => by cases hq; exact t4⟩
    | 5 => exact ⟨x5, fun q hq => by cases hq; exact t5⟩
    | 6 => exact ⟨x6, fun q hq => by cases hq; exact t6⟩
    | 7 => exact ⟨x7, fun q hq => by cases hq; exact t7⟩
    | 8 => exact ⟨x8, fun q hq => by cases hq; exact t8⟩
    | 9 => exact ⟨x9, fun q hq => by cases hq; exact t9⟩
    | 10 => exact ⟨x10, fun q hq => by cases hq; exact t10⟩
    | i + 11 => exact ⟨0, fun q hq => by simp [strL] at hq⟩
  have ncs : ∀ q ∈ ncL, va_Nc q.1 q.2 s := by
    have nc : ∀ q : String × String, (Cond.not (.castable q.1 q.2)).before #[Value.ref b] s = true → va_Nc q.1 q.2 s := fun q h => va_Nc.of h
    refine List.forall_mem_cons.mpr ⟨nc _ (hs _ (by decide +kernel)), List.forall_mem_cons.mpr ⟨nc _ (hs _ (by decide +kernel)), List.forall_mem_cons.mpr ⟨nc _ (hs _ (by decide +kernel)), List.forall_mem_cons.mpr ⟨nc _ (hs _ (by decide +kernel)), List.forall_mem_cons.mpr ⟨nc _ (hs _ (by decide +kernel)), List.forall_mem_cons.mpr ⟨nc _ (hs _ (by decide +kernel)), fun q h => absurd h List.not_mem_nil⟩⟩⟩⟩⟩⟩
  obtain ⟨D, c0, s0, hKB⟩ := start_KB (l := l) tw over strs ncs
  have hKB := hKB s.heap.size
  have hGH : GH (mkG l s.heap.size D c0 s0) := ⟨fun i j hi hj h => ord_inj i hi j hj (by have h2 : s.heap.size + ord i = s.heap.size + ord j := h; omega), by show l.stackTraces = false; unfold Launch.stackTraces; rw [hflags]; decide⟩
  have hA : ∀ q : Nat, q < s.heap.size → ¬ gA (mkG l s.heap.size D c0 s0) q := fun q h1 h2 => absurd (gA_lo h2) (Nat.not_le.mpr h1)
  have hHB : HB (mkG l s.heap.size D c0 s0) s s.heap := ⟨vx_Zqof (args := #[Value.ref b]) (wat 574 _ (by decide +kernel)) (wat 83 _ (by decide +kernel)) (hs _ (by decide +kernel)) hA, vx_Zqof (args := #[Value.ref b]) (wat 576 _ (by decide +kernel)) (wat 83 _ (by decide +kernel)) (hs _ (by decide +kernel)) hA⟩
  have F : Fx (mkG l s.heap.size D c0 s0) (p, e, room_1, s, m, #[Value.ref b], below, meth, c) ML_law 601024 7293034 := ⟨hx, hb, hml, hown, hlocks, Nat.le_refl _, hKB, hHB, hGH, rfl, hr⟩
  have FN : Fn (mkG l s.heap.size D c0 s0) (p, e, room_1, s, m, #[Value.ref b], below, meth, c) ML_law 601024 7293034 s.heap.size := ⟨hx, hb, hml, hown, hlocks, ⟨hKB, over⟩, rfl, hr, Nat.le_refl _⟩
  have hSX : SX (mkG l s.heap.size D c0 s0) (p, e, room_1, s, m, #[Value.ref b], below, meth, c) b L xs := ⟨hX, hbl, hA b hbl, hL⟩
  have ke : ∀ (v : VV) (L : LL) (i : Nat), CW (mkG l s.heap.size D c0 s0) (p, e, room_1, s, m, #[Value.ref b], below, meth, c) 9 601024 7293034 (lw_Z below #[Value.ref b] s) v L 1614 (lwv (mkG l s.heap.size D c0 s0) b i) [] := by
    intro v L i H locs ls hP hS hl
    refine lv_iconst (v := 1) hx hb dL_law_1614.1 (by decide) ?_
    refine va_forget (fun q hq => gA_lo (hS.2.2 q hq)) ?_
    exact W.base (lw_ret (Drawn.sameBut.refl s.drawn lw_cs) hx hb hr hlocks dL_law_1615.1)
  have loop := law_loop hGH F hSX ke 600 0 92 2669 v0 L0 A0 (by omega) (Nat.zero_le L) (by decide) (by decide) IC0 IM0 WA0
  have start := law_head (b := b) FN (nw_cw loop)
  have hl := lv_entry ([.ref b]) (n := 9) (Nat.le_of_ble_eq_true rfl)
  rw [lg_entry_eq]
  exact start s.heap [] _ ⟨fun k q h => by simp [wl] at h, rfl⟩ va_S.rf hl
