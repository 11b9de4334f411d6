/-! constructors: what is made lies in a row from the address a on -/
def wl (a : Nat) : List va_E → va_W
  | [] => []
  | e :: r => (a, e) :: wl (a + 1) r
theorem wl_get : ∀ (l : List va_E) (a k : Nat), (wl a l)[k]? = (l[k]?).map (fun e => (a + k, e))
  | [], a, k => by simp [wl]
  | e :: r, a, 0 => rfl
  | e :: r, a, k + 1 => by
    show (wl (a + 1) r)[k]? = _
    rw [wl_get r (a + 1) k, List.getElem?_cons_succ, show a + 1 + k = a + (k + 1) by omega]
theorem wl_app : ∀ (l m : List va_E) (a : Nat), wl a (l ++ m) = wl a l ++ wl (a + l.length) m
  | [], m, a => rfl
  | e :: r, m, a => by
    show (a, e) :: wl (a + 1) (r ++ m) = (a, e) :: (wl (a + 1) r ++ wl (a + (r.length + 1)) m)
    rw [wl_app r m (a + 1), show a + 1 + r.length = a + (r.length + 1) by omega]
theorem wl_at {l : List va_E} {a k : Nat} {q : Nat × va_E} (h : (wl a l)[k]? = some q) : ∃ e, l[k]? = some e ∧ q = (a + k, e) := by
  rw [wl_get] at h
  cases h1 : l[k]? with
  | none => rw [h1] at h; cases h
  | some e => rw [h1] at h; exact ⟨e, rfl, (Option.some.inj h).symm⟩
theorem wl_of {l : List va_E} {a k : Nat} {e : va_E} (h : l[k]? = some e) : (wl a l)[k]? = some (a + k, e) := by rw [wl_get, h]; rfl
theorem wl_D (a : Nat) (l : List va_E) : va_D (fun q => a ≤ q) (wl a l) := by
  refine ⟨fun i j p q hi hj hpq => ?_, fun k q hk => ?_⟩
  · obtain ⟨e1, -, rfl⟩ := wl_at hi
    obtain ⟨e2, -, rfl⟩ := wl_at hj
    have : a + i = a + j := hpq
    omega
  · obtain ⟨e1, -, rfl⟩ := wl_at hk
    exact Nat.le_add_right a k
theorem wl_set (l : List va_E) (a k : Nat) (e : va_E) : (wl a l).set k (a + k, e) = wl a (l.set k e) := by
  apply List.ext_getElem?
  intro i
  rw [wl_get, List.getElem?_set, List.getElem?_set]
  have hlen : (wl a l).length = l.length := by
    have h : ∀ (l : List va_E) (a : Nat), (wl a l).length = l.length := by
      intro l
      induction l with
      | nil => intro a; rfl
      | cons e r ih => intro a; show (wl (a + 1) r).length + 1 = r.length + 1; rw [ih]
    exact h l a
  rw [hlen, wl_get]
  by_cases h : k = i
  · subst h
    by_cases h2 : k < l.length
    · simp [h2]
    · simp [h2]
  · simp [h]
/-- a world that lies in a row, and nothing behind it -/
def RW (G : GT) (a : Nat) (el : List va_E) (H : Heap) : Prop := va_P (gD G) vwCl (wl a el) H ∧ H.size = a + el.length
abbrev nSt : String := "BiddenMoves$State"
def KN (G : GT) (U : State) : Prop := KB G U ∧ va_AO nSt U
def Fn (G : GT) (K : KT) (M : MD) (c s a : Nat) : Prop :=
  (kp K).tables.exec = Jvm.exec ∧ (kc K).code = mb M ∧ (kc K).maxLocals = ml M ∧ (ks K).vm.findClass (mo M) = some (km K).cls ∧ (kM K).locks = false ∧ KN G (ks K) ∧ kR K = rmOf M c s ∧ (kM K).sig.returnType = mr M ∧ a ≤ (ks K).heap.size
def NW (G : GT) (K : KT) (nL cells slots : Nat) (Q : State → Prop) (a : Nat) (el : List va_E) (pc : Nat) (lv : List (Option Value)) (st : List Value) : Prop :=
  ∀ (H : Heap) (locs : List Loc) (ls : Array Slot), RW G a el H → va_S (fun q => a ≤ q) (ks K).heap H locs → lv_has ls nL (lvl 0 lv) → W (kp K) (gl G) (ke K) (kR K) (ks K) (km K) (ka K) (kb K) (kM K) (kc K) H locs cells slots Q (F0 (km K) pc ls st)
section
variable {G : GT} {K : KT} {M : MD} {c s a cells slots : Nat} {Q : State → Prop} {el el' : List va_E} {pc q t : Nat} {lv : List (Option Value)} {st : List Value}
theorem N_w (F : Fn G K M c s a) {w : Cond} (h : TW w) : w.before (ka K) (ks K) = true := KB.word F.2.2.2.2.2.1.1 h _
theorem N_ws (F : Fn G K M c s a) {l : List Cond} (h : ∀ w ∈ l, TW w) : ∀ w ∈ l, w.before (ka K) (ks K) = true := fun w hw => N_w F (h w hw)
theorem N_K (F : Fn G K M c s a) : va_K (gD G) vwCl (tysG G) (ks K) := F.2.2.2.2.2.1.1.1
theorem N_R (F : Fn G K M c s a) : kR K = rmOf M c s := F.2.2.2.2.2.2.1
theorem N_r (F : Fn G K M c s a) : (kM K).sig.returnType = mr M := F.2.2.2.2.2.2.2.1
theorem N_l (F : Fn G K M c s a) : (kM K).locks = false := F.2.2.2.2.1
theorem N_a (F : Fn G K M c s a) : ∀ q, (ks K).heap.size ≤ q → a ≤ q := fun q h => Nat.le_trans F.2.2.2.2.2.2.2.2 h
theorem n_aload_n {n : Fin 4} {x : Nat} (F : Fn G K M c s a) (h : lv[(n : Nat)]? = some (some (.ref x))) (d : DD (mb M) pc (.aload_n n) 1 q) (k : NW G K (ml M) cells slots Q a el q lv (.ref x :: st)) : NW G K (ml M) cells slots Q a el pc lv st := by
  intro H locs ls hP hS hl
  obtain ⟨d1, rfl⟩ := d
  exact lv_aload_n F.1 F.2.1 d1 rfl (lv_ld hl h) (k H locs ls hP hS hl)
theorem n_iload_n {n : Fin 4} {x : Int32} (F : Fn G K M c s a) (h : lv[(n : Nat)]? = some (some (.int x))) (d : DD (mb M) pc (.iload_n n) 1 q) (k : NW G K (ml M) cells slots Q a el q lv (.int x :: st)) : NW G K (ml M) cells slots Q a el pc lv st := by
  intro H locs ls hP hS hl
  obtain ⟨d1, rfl⟩ := d
  exact lv_iload_n F.1 F.2.1 d1 rfl (lv_ld hl h) (k H locs ls hP hS hl)
theorem n_iconst {n : Int} {x : Int32} (F : Fn G K M c s a) (d : DD (mb M) pc (.iconst n) 1 q) (h : Int32.ofInt n = x) (k : NW G K (ml M) cells slots Q a el q lv (.int x :: st)) : NW G K (ml M) cells slots Q a el pc lv st := by
  intro H locs ls hP hS hl
  obtain ⟨d1, rfl⟩ := d
  exact lv_iconst F.1 F.2.1 d1 h (k H locs ls hP hS hl)
theorem n_bipush {n : Int} {x : Int32} (F : Fn G K M c s a) (d : DD (mb M) pc (.bipush n) 2 q) (h : (Int8.ofInt n).toInt32 = x) (k : NW G K (ml M) cells slots Q a el q lv (.int x :: st)) : NW G K (ml M) cells slots Q a el pc lv st := by
  intro H locs ls hP hS hl
  obtain ⟨d1, rfl⟩ := d
  exact lv_bipush F.1 F.2.1 d1 h (k H locs ls hP hS hl)
theorem n_sipush {n : Int} {x : Int32} (F : Fn G K M c s a) (d : DD (mb M) pc (.sipush n) 3 q) (h : (Int16.ofInt n).toInt32 = x) (k : NW G K (ml M) cells slots Q a el q lv (.int x :: st)) : NW G K (ml M) cells slots Q a el pc lv st := by
  intro H locs ls hP hS hl
  obtain ⟨d1, rfl⟩ := d
  exact lv_sipush F.1 F.2.1 d1 h (k H locs ls hP hS hl)
theorem n_dup {x : Value} (F : Fn G K M c s a) (d : DD (mb M) pc .dup 1 q) (h : x.category = 1) (k : NW G K (ml M) cells slots Q a el q lv (x :: x :: st)) : NW G K (ml M) cells slots Q a el pc lv (x :: st) := by
  intro H locs ls hP hS hl
  obtain ⟨d1, rfl⟩ := d
  exact lv_dup F.1 F.2.1 d1 h (k H locs ls hP hS hl)
theorem n_goto {off : Int} (F : Fn G K M c s a) (d : DB (mb M) pc .goto off 3 q t) (k : NW G K (ml M) cells slots Q a el t lv st) : NW G K (ml M) cells slots Q a el pc lv st := fun H locs ls hP hS hl => lv_goto F.1 F.2.1 d.1 d.2.2 (k H locs ls hP hS hl)
theorem n_icge {x y : Nat} {off : Int} (F : Fn G K M c s a) (d : DB (mb M) pc (.if_icmp .ge) off 3 q t) (hx : x < 2147483648) (hy : y < 2147483648) (kt : y ≤ x → NW G K (ml M) cells slots Q a el t lv st) (kf : x < y → NW G K (ml M) cells slots Q a el q lv st) : NW G K (ml M) cells slots Q a el pc lv (.int (nI y) :: .int (nI x) :: st) := by
  intro H locs ls hP hS hl
  obtain ⟨d1, rfl, d3⟩ := d
  exact lv_icmp_ge F.1 F.2.1 d1 d3 (fun h => kt ((nI_leI hy hx).mp h) H locs ls hP hS hl) (fun h => kf (Nat.not_le.mp fun z => h ((nI_leI hy hx).mpr z)) H locs ls hP hS hl)
theorem n_ist1 {x : Int32} {a0 a1 : Option Value} {r : List (Option Value)} (F : Fn G K M c s a) (d : DD (mb M) pc (.istore_n 1) 1 q) (h1 : ok1 (a0 :: a1 :: r) 1 = true) (h2 : Nat.ble 2 (ml M) = true) (k : NW G K (ml M) cells slots Q a el q (a0 :: some (.int x) :: r) st) : NW G K (ml M) cells slots Q a el pc (a0 :: a1 :: r) (.int x :: st) := by
  intro H locs ls hP hS hl
  obtain ⟨d1, rfl⟩ := d
  exact lv_istore_n F.1 F.2.1 d1 rfl hl (Nat.le_of_ble_eq_true h2) rfl (fun ls hl => k H locs ls hP hS (lv_set1 (i := 1) (lv := a0 :: a1 :: r) h1 hl))
theorem n_iinc1 {x : Nat} {a0 : Option Value} {r : List (Option Value)} (F : Fn G K M c s a) (d : DD (mb M) pc (.iinc 1 1) 3 q) (h1 : ok1 (a0 :: some (.int (nI x)) :: r) 1 = true) (h2 : Nat.ble 2 (ml M) = true) (k : NW G K (ml M) cells slots Q a el q (a0 :: some (.int (nI (x + 1))) :: r) st) : NW G K (ml M) cells slots Q a el pc (a0 :: some (.int (nI x)) :: r) st := by
  intro H locs ls hP hS hl
  obtain ⟨d1, rfl⟩ := d
  obtain ⟨j, hj⟩ := List.getElem?_of_mem (lvl_mem (a0 :: some (.int (nI x)) :: r) 0 1 (.int (nI x)) rfl)
  rw [Nat.zero_add] at hj
  exact lv_iinc (v := nI (x + 1)) F.1 F.2.1 d1 hl hj (by rw [← nI_add]; rfl) (Nat.le_of_ble_eq_true h2) rfl (fun ls hl => k H locs ls hP hS (lv_set1 (i := 1) (lv := a0 :: some (.int (nI x)) :: r) h1 hl))
theorem n_obj {ix : Nat} {x : Nat} (F : Fn G K M c s a) (lk : TW (.methodLink (mo M) ix Lib.objectInit)) (ok : (Nat.ble 1 (mf M) && Nat.ble ((st.map fun v => v.category).sum + 12) (mq M)) = true) (d : DD (mb M) pc (.invokespecial ix) 3 q) (k : NW G K (ml M) cells slots Q a el q lv st) : NW G K (ml M) cells slots Q a el pc lv (.ref x :: st) := by
  intro H locs ls hP hS hl
  obtain ⟨d1, rfl⟩ := d
  rw [Bool.and_eq_true] at ok
  refine W.objInit F.1 F.2.1 F.2.2.2.1 (N_w F lk) (N_w F tw_98) (N_w F tw_99) rfl (hl.1.trans F.2.2.1.symm) rfl d1 (by rw [N_R F]; exact Nat.le_of_ble_eq_true ok.1) (by rw [N_R F]; show 2 * 0 + (st.map fun v => v.category).sum + 12 ≤ mq M; rw [Nat.mul_zero, Nat.zero_add]; exact Nat.le_of_ble_eq_true ok.2) ?_
  exact k H locs ls hP hS hl
theorem n_new {ix ci N n : Nat} {C : String} {T : u_T} {fs : List Value} {ty : Nat → FieldType} (F : Fn G K M c s a) (uw : ∀ w ∈ u_ws C T N, TW w) (hty : ∀ k, k < N → parseFieldDescriptor (T k).2.2.1 = some (ty k)) (hc : vwCl[ci]? = some (C, T, N)) (hl1 : TW (.classLink (mo M) ix C)) (hi : TW (.instantiable C N)) (hini : TW (.initialized C)) (hfs : ∀ j, j < N → defaultValue (ty j) = vp_V fs j) (z : cells + 1 ≤ c ∧ slots + N ≤ s) (d : DD (mb M) pc (.new ix) 3 q) (hn : el.length = n) (hel : el ++ [.inr (ci, fs)] = el') (k : NW G K (ml M) (cells + 1) (slots + N) Q a el' q lv (.ref (a + n) :: st)) : NW G K (ml M) cells slots Q a el pc lv st := by
  intro H locs ls hP hS hl
  obtain ⟨d1, rfl⟩ := d
  have hKn := (N_K F).1 ci _ hc
  refine W.newcK F.1 F.2.1 F.2.2.2.1 (N_w F hl1) (N_w F hi) (N_w F hini) rfl d1 (by rw [N_R F]; exact z.1) (by rw [N_R F]; exact z.2) hKn.2.1 (h := a + n) (by rw [hP.2, hn]) fun H1 kC hkC e1 z1 o1 => ?_
  refine k H1 locs ls ⟨?_, ?_⟩ ⟨Nat.le_trans hS.1 (by rw [hP.2, hn]; omega), fun x h1 h2 => (o1 x (by have := hS.1; rw [hP.2, hn] at this; omega)).trans (hS.2.1 x h1 h2), hS.2.2⟩ hl
  · rw [← hel, wl_app]
    refine (hP.1.kept (fun i x hx => o1 x.1 (by have := (hP.1 i x hx).lt; rw [hP.2, hn] at this; exact this))).app (fun i x hx => ?_)
    obtain ⟨e, he, rfl⟩ := wl_at hx
    have hz : i < 1 := (List.getElem?_eq_some_iff.mp he).1
    have hi0 : i = 0 := by omega
    subst hi0
    cases he
    rw [hn]
    exact ⟨_, hc, (u_born ty (N_ws F uw) (fun _ h => h) hKn hkC e1 hty).to hfs⟩
  · rw [z1, ← hel, List.length_append, hn]; rfl
theorem RW.push {H H1 : Heap} {n : Nat} {e : va_E} (hP : RW G a el H) (hn : el.length = n) (hel : el ++ [e] = el') (e1 : va_at (gD G) vwCl (a + n, e) H1) (z1 : H1.size = a + n + 1) (o1 : ∀ q : Nat, q < a + n → H1[q]? = H[q]?) : RW G a el' H1 := by
  refine ⟨?_, ?_⟩
  · rw [← hel, wl_app]
    refine (hP.1.kept (fun i x hx => o1 x.1 (by have := (hP.1 i x hx).lt; rw [hP.2, hn] at this; exact this))).app (fun i x hx => ?_)
    obtain ⟨e', he, rfl⟩ := wl_at hx
    have hz : i < 1 := (List.getElem?_eq_some_iff.mp he).1
    have hi0 : i = 0 := by omega
    subst hi0
    cases he
    rw [hn]
    exact e1
  · rw [z1, ← hel, List.length_append, hn]; rfl
theorem NS_push {H H1 : Heap} {locs : List Loc} {n : Nat} (hP : RW G a el H) (hn : el.length = n) (hS : va_S (fun q => a ≤ q) (ks K).heap H locs) (z1 : H1.size = a + n + 1) (o1 : ∀ q : Nat, q < a + n → H1[q]? = H[q]?) : va_S (fun q => a ≤ q) (ks K).heap H1 locs := by
  have h0 := hS.1
  rw [hP.2, hn] at h0
  exact ⟨by omega, fun x h1 h2 => (o1 x (by omega)).trans (hS.2.1 x h1 h2), hS.2.2⟩
theorem n_newa {atype : ArrayType} {N n t0 : Nat} {ty : FieldType} {a0 : vp_A} (F : Fn G K M c s a) (harr : TW (.arrayClass ty)) (hat : newarray.typeOf atype = ty) (ht : (tysG G)[t0]? = some (gc G t0, ty)) (hra : ∀ (U : State) (cA : ClassId), va_RA U cA ty → U.vm.findClass ("[" ++ ty.toString) = some cA) (hcell : vp_cell (gc G t0) a0 = arrV (gc G t0) N (fun _ => defaultValue ty)) (hN : N < 1000) (hb : N * componentBytes ty ≤ 536870912) (z : cells + 1 ≤ c ∧ slots + N ≤ s) (d : DD (mb M) pc (.newarray atype) 2 q) (hn : el.length = n) (hel : el ++ [.inl (gc G t0, a0)] = el') (k : NW G K (ml M) (cells + 1) (slots + N) Q a el' q lv (.ref (a + n) :: st)) : NW G K (ml M) cells slots Q a el pc lv (.int (nI N) :: st) := by
  intro H locs ls hP hS hl
  obtain ⟨d1, rfl⟩ := d
  subst hat
  refine va_newaK F.1 F.2.1 (N_w F harr) rfl d1 (n := nI N) (N := N) rfl (nI_pos (by omega)) (nI_clamp (by omega)) hb (by rw [N_R F]; exact z.1) (by rw [N_R F]; exact z.2) (h := a + n) (by rw [hP.2, hn]) fun H1 cA e1 z1 o1 hAr hNm => ?_
  have hcA : cA = gc G t0 := Option.some.inj (hNm.symm.trans (hra _ _ ((N_K F).2 t0 _ ht).2))
  subst hcA
  refine k H1 locs ls (hP.push hn hel ?_ z1 o1) (NS_push hP hn hS z1 o1) hl
  show H1[a + n]? = some (vp_cell _ _)
  rw [hcell]
  exact e1
theorem n_newq {ix N n : Nat} (F : Fn G K M c s a) (hl1 : TW (.classLink (mo M) ix nSt)) (hN : N < 1000) (z : cells + 1 ≤ c ∧ slots + N ≤ s) (d : DD (mb M) pc (.anewarray ix) 3 q) (hn : el.length = n) (hel : el ++ [.inl (gc G 4, N, .inr (.inr (.inr (.inr (fun _ => none)))))] = el') (k : NW G K (ml M) (cells + 1) (slots + N) Q a el' q lv (.ref (a + n) :: st)) : NW G K (ml M) cells slots Q a el pc lv (.int (nI N) :: st) := by
  intro H locs ls hP hS hl
  obtain ⟨d1, rfl⟩ := d
  have hc : (nI N).toNatClampNeg = N := nI_clamp (by omega)
  refine W.anew F.1 F.2.1 F.2.2.2.1 (N_w F hl1) (va_AO.use F.2.2.2.2.2.1.2) rfl d1 rfl (nI_pos (by omega)) (by rw [hc]; omega) (by rw [N_R F]; exact z.1) (by rw [N_R F, hc]; exact z.2) fun cA kA comp f1 f2 f3 f4 => ?_
  have hcA : cA = gc G 4 := by
    obtain ⟨kA2, comp2, g1, g2, g3, g4⟩ := ((N_K F).2 4 _ rfl).2
    exact Option.some.inj (f1.symm.trans g4)
  subst hcA
  rw [hc]
  generalize hH1 : H.push ({ cls := gc G 4, slots := Array.replicate N .null, vm := .none } : Cell) = H1
  have z1 : H1.size = a + n + 1 := by rw [← hH1, Array.size_push, hP.2, hn]
  have e1 : H1[a + n]? = some (arrV (gc G 4) N (fun _ => .null)) := by rw [← hH1, ← arrV_new, show a + n = H.size by rw [hP.2, hn], Array.getElem?_push_size]
  have o1 : ∀ q : Nat, q < a + n → H1[q]? = H[q]? := fun q hq => by rw [← hH1, Array.getElem?_push, if_neg (by rw [hP.2, hn]; omega)]
  rw [show H.size = a + n by rw [hP.2, hn]]
  refine k H1 locs ls (hP.push hn hel ?_ z1 o1) (NS_push hP hn hS z1 o1) hl
  show H1[a + n]? = some (vp_cell _ _)
  rw [vp_cell_q]
  exact e1
theorem RW.set {H H1 : Heap} {i : Nat} {e0 e : va_E} (hP : RW G a el H) (h0 : el[i]? = some e0) (hel : el.set i e = el') (e1 : va_at (gD G) vwCl (a + i, e) H1) (z1 : H1.size = H.size) (o1 : ∀ q : Nat, q ≠ a + i → H1[q]? = H[q]?) : RW G a el' H1 := by
  refine ⟨?_, ?_⟩
  · rw [← hel, ← wl_set]
    exact hP.1.set (wl_D a el) (wl_of h0) e1 o1
  · rw [z1, hP.2, ← hel, List.length_set]
theorem NS_set {H H1 : Heap} {locs : List Loc} {i m : Nat} (hS : va_S (fun q => a ≤ q) (ks K).heap H locs) (z1 : H1.size = H.size) (o1 : ∀ q : Nat, q ≠ a + i → H1[q]? = H[q]?) : va_S (fun q => a ≤ q) (ks K).heap H1 (locs ++ [⟨a + i, m⟩]) := hS.put z1 o1 (Nat.le_add_right a i)
/-- a final field of the object that is made -/
theorem n_putF {ci N n ix : Nat} {C ref : String} {T : u_T} {fs : List Value} {ty0 : Nat → FieldType} {x : Value} (F : Fn G K M c s a) (hin : (kM K).name = "<init>") (uw : ∀ w ∈ u_ws C T N, TW w) (hty : ∀ k, k < N → parseFieldDescriptor (T k).2.2.1 = some (ty0 k)) (hnm : ∀ a, a < N → ∀ b, b < N → a ≠ b → (T a).2.1 ≠ (T b).2.1) (hc : vwCl[ci]? = some (C, T, N)) (hn : n < N) (lk : TW (.fieldLink (mo M) ix ref (T n).2.1 (T n).2.2.1)) (hs : (T n).1 = ref) (hfin : (T n).2.2.2 = true) (hdecl : (T n).1 = mo M) (hna : narrow (ty0 n) x = x) (hfit : fits (ty0 n) x = true) (d : DD (mb M) pc (.putfield ix) 3 q) (he : el[0]? = some (.inr (ci, fs))) (hlen : n < fs.length) (hel : el.set 0 (.inr (ci, fs.set n x)) = el') (k : NW G K (ml M) cells slots Q a el' q lv st) : NW G K (ml M) cells slots Q a el pc lv (x :: .ref a :: st) := by
  intro H locs ls hP hS hl
  obtain ⟨d1, rfl⟩ := d
  have hts := N_ws F uw
  have hK := N_K F
  have hap := va_apart (own := mo M) hts (fun _ h => h) ty0 hty hnm hK hc
  obtain ⟨r, h1, cell, q1, q2, q3, q4⟩ := hP.1 0 _ (wl_of he)
  have hr : r = (C, T, N) := Option.some.inj (h1.symm.trans hc)
  subst hr
  obtain ⟨hSl, hfc, kC, hkC, hkind⟩ := hK.1 ci _ hc
  obtain ⟨cf, kf, fi, f, hi, hsl⟩ := hSl n hn
  have hlay := hts _ (u_in_lay hn)
  unfold u_lay at hlay
  rw [if_pos hfin] at hlay
  have hst := (u_facts hfc hkC (u_lays hts (fun _ h => h) hn) hi).1
  have hcf : (km K).cls = cf := by
    obtain ⟨_, _, c', _, _, _, -, -, hf', -, -, -, hown2, -⟩ := Cond.laysFinal_spec hlay
    have e1 : c' = cf := by have := hi.symm.trans hf'; simp at this; exact this.1.symm
    rw [hdecl] at hown2
    rw [← e1]; exact Option.some.inj (F.2.2.2.1.symm.trans hown2)
  have h6 := u_fits hfc hkC hkind (Or.inr hlay) hi (hty n hn) hna hfit
  refine W.putFinK F.1 F.2.1 F.2.2.2.1 (N_w F lk) (by rw [← hs]; exact hi) hst hcf hin (by rw [q2]; exact h6) q1 q3 (by rw [hsl]; exact k2_hasslot (q4 n hn)) rfl rfl d1 fun H' e1 e2 e3 => ?_
  rw [hsl] at e1 ⊢
  exact k H' _ ls (hP.set he hel ⟨_, hc, t_OB.to (V := updV (vp_V fs) n x) ⟨_, e1, q2, q3, t_set q4 hap hn x⟩ (fun j _ => vp_updV_set hlen x j)⟩ e2 e3) (NS_set (i := 0) hS e2 e3) hl
theorem n_put {ci N n ix : Nat} {C ref : String} {T : u_T} {fs : List Value} {ty0 : Nat → FieldType} {x : Value} (F : Fn G K M c s a) (uw : ∀ w ∈ u_ws C T N, TW w) (hty : ∀ k, k < N → parseFieldDescriptor (T k).2.2.1 = some (ty0 k)) (hnm : ∀ a, a < N → ∀ b, b < N → a ≠ b → (T a).2.1 ≠ (T b).2.1) (hc : vwCl[ci]? = some (C, T, N)) (hn : n < N) (lk : TW (.fieldLink (mo M) ix ref (T n).2.1 (T n).2.2.1)) (hs : (T n).1 = ref) (hfin : (T n).2.2.2 = false) (hna : narrow (ty0 n) x = x) (hfit : fits (ty0 n) x = true) (d : DD (mb M) pc (.putfield ix) 3 q) (he : el[0]? = some (.inr (ci, fs))) (hlen : n < fs.length) (hel : el.set 0 (.inr (ci, fs.set n x)) = el') (k : NW G K (ml M) cells slots Q a el' q lv st) : NW G K (ml M) cells slots Q a el pc lv (x :: .ref a :: st) := by
  intro H locs ls hP hS hl
  obtain ⟨d1, rfl⟩ := d
  have hts := N_ws F uw
  have hK := N_K F
  have hap := va_apart (own := mo M) hts (fun _ h => h) ty0 hty hnm hK hc
  obtain ⟨r, h1, cell, q1, q2, q3, q4⟩ := hP.1 0 _ (wl_of he)
  have hr : r = (C, T, N) := Option.some.inj (h1.symm.trans hc)
  subst hr
  obtain ⟨hSl, hfc, kC, hkC, hkind⟩ := hK.1 ci _ hc
  obtain ⟨cf, kf, fi, f, hi, hsl⟩ := hSl n hn
  have hlay := hts _ (u_in_lay hn)
  unfold u_lay at hlay
  rw [if_neg (by rw [hfin]; decide)] at hlay
  have hst := (u_facts hfc hkC (u_lays hts (fun _ h => h) hn) hi).1
  have h6 := u_store hfc hkC hkind hlay hi (hty n hn) hna hfit
  refine W.putK F.1 F.2.1 (f := f) ⟨F.2.2.2.1, N_w F lk, ⟨_, _, _, by rw [← hs]; exact hi⟩, hst⟩ (by rw [q2]; exact h6) q1 q3 (by rw [hsl]; exact k2_hasslot (q4 n hn)) rfl rfl d1 fun H' e1 e2 e3 => ?_
  rw [hsl] at e1 ⊢
  exact k H' _ ls (hP.set he hel ⟨_, hc, t_OB.to (V := updV (vp_V fs) n x) ⟨_, e1, q2, q3, t_set q4 hap hn x⟩ (fun j _ => vp_updV_set hlen x j)⟩ e2 e3) (NS_set (i := 0) hS e2 e3) hl
theorem n_get {ci N n ix : Nat} {C ref : String} {T : u_T} {fs : List Value} {x : Value} (F : Fn G K M c s a) (uw : ∀ w ∈ u_ws C T N, TW w) (hc : vwCl[ci]? = some (C, T, N)) (hn : n < N) (lk : TW (.fieldLink (mo M) ix ref (T n).2.1 (T n).2.2.1)) (hs : (T n).1 = ref) (d : DD (mb M) pc (.getfield ix) 3 q) (he : el[0]? = some (.inr (ci, fs))) (hv : fs[n]? = some x) (k : NW G K (ml M) cells slots Q a el q lv (x :: st)) : NW G K (ml M) cells slots Q a el pc lv (.ref a :: st) := by
  intro H locs ls hP hS hl
  obtain ⟨d1, rfl⟩ := d
  exact va_get F.1 F.2.1 (N_ws F uw) (fun _ h => h) F.2.2.2.1 (N_K F) hP.1 0 (wl_of he) hc n hn (N_w F lk) (fun x h => by rw [← hs]; exact h) hv d1 (k H locs ls hP hS hl)
/-- a number in a row of numbers -/
theorem n_iast {i n x y : Nat} {f : Nat → Nat} (F : Fn G K M c s a) (d : DD (mb M) pc .iastore 1 q) (he : el[i]? = some (.inl (gc G 0, n, .inl (fun j => nI (f j))))) (hx : x < n) (hn : n < 1000) (hel : el.set i (.inl (gc G 0, n, .inl (fun j => nI (upN f x y j)))) = el') (k : NW G K (ml M) cells slots Q a el' q lv st) : NW G K (ml M) cells slots Q a el pc lv (.int (nI y) :: .int (nI x) :: .ref (a + i) :: st) := by
  intro H locs ls hP hS hl
  obtain ⟨d1, rfl⟩ := d
  have hxc : (nI x).toNatClampNeg = x := nI_clamp (by omega)
  refine W.iast F.1 F.2.1 (hP.1 i _ (wl_of he)) (((N_K F).2 0 _ rfl).1 n (fun j => .int (nI (f j)))) (fun q => by cases q) (by show ¬ (nI x < 0 ∨ (arrV _ _ _).slots.size ≤ _); rw [arrV_size]; exact nI_in (N := n) hx (by omega)) rfl rfl d1 fun H1 e z oq => ?_
  rw [hxc] at e ⊢
  refine k H1 _ ls (hP.set he hel ?_ z oq) (NS_set hS z oq) hl
  show H1[a + i]? = some (vp_cell _ _)
  rw [e, vp_cell_i, vp_cell_i, arrV_store]
  congr 2
  funext q
  by_cases hq : q = x
  · subst hq; simp [updV, upN]
  · simp [updV, upN, hq]
/-- a state in a row of states -/
theorem n_aast {i i2 n x : Nat} {vs : List Value} {f : Nat → Option Nat} (F : Fn G K M c s a) (d : DD (mb M) pc .aastore 1 q) (he : el[i]? = some (.inl (gc G 4, n, .inr (.inr (.inr (.inr f)))))) (he2 : el[i2]? = some (.inr (4, vs))) (hx : x < n) (hn : n < 1000) (hel : el.set i (.inl (gc G 4, n, .inr (.inr (.inr (.inr (va_up f x (some (a + i2)))))))) = el') (k : NW G K (ml M) cells slots Q a el' q lv st) : NW G K (ml M) cells slots Q a el pc lv (.ref (a + i2) :: .int (nI x) :: .ref (a + i) :: st) := by
  intro H locs ls hP hS hl
  obtain ⟨d1, rfl⟩ := d
  have hxc : (nI x).toNatClampNeg = x := nI_clamp (by omega)
  have hc : vwCl[4]? = some (RX5, TX5, 11) := rfl
  obtain ⟨r', hr', cellV, g1, g2, g3, -⟩ := hP.1 i2 _ (wl_of he2)
  have hcls := ((N_K F).1 4 _ hc).2
  obtain ⟨kA, comp, k1, k2, k3, -⟩ := ((N_K F).2 4 _ rfl).2
  have hcomp : comp = (gD G).1 4 := Option.some.inj (k3.symm.trans hcls.1)
  subst hcomp
  obtain ⟨kC, hkC, -⟩ := hcls.2
  refine W.aast F.1 F.2.1 (hP.1 i _ (wl_of he)) (fun q h => by cases h) (fun h => by cases h) k1 k2 rfl hkC ⟨nI_pos (by omega), by show _ < (arrV _ _ _).slots.size; rw [arrV_size, hxc]; exact hx⟩ g1 (fun q h => by rw [g3] at h; cases h) (by rw [g2]; exact hkC) (by rw [g2]; exact va_assign hcls) rfl rfl d1 fun H1 e z oq => ?_
  rw [hxc] at e ⊢
  refine k H1 _ ls (hP.set he hel ?_ z oq) (NS_set hS z oq) hl
  show H1[a + i]? = some (vp_cell _ _)
  rw [e, vp_cell_q, vp_cell_q, arrV_store]
  congr 2
  funext q
  by_cases hq : q = x
  · subst hq; simp [updV, va_up, va_rf]
  · simp [updV, va_up, hq]
/-- the same row, told otherwise -/
theorem n_eq {el2 : List va_E} (h : el = el2) (k : NW G K (ml M) cells slots Q a el2 pc lv st) : NW G K (ml M) cells slots Q a el pc lv st := by rw [h]; exact k
def QnN (G : GT) (B : Nat → List va_E) (a : Nat) : Array Value → State → Outcome → State → Prop := fun _ st oc t => (oc = .returned none ∧ RW G a (B a) t.heap) ∧ va_F (fun q => a ≤ q) st t
/-- the contract of a constructor: a blank object of the kind ci at a, the last cell; behind it there lies B a -/
def NC (G : GT) (M : MD) (ci : Nat) (bl : List Value) (B : Nat → List va_E) (mc ms : Nat) : Prop := ∀ a, Met (gl G) (my M) [Cond.code (my M) (mb M) (ml M) (mr M)] (rmOf M mc ms) (va_Pc [.ref a] (fun U => RW G a [.inr (ci, bl)] U.heap ∧ KN G U)) (QnN G B a) mc ms (fun q => a ≤ q)
theorem nc_of {ci mc ms : Nat} {bl : List Value} {B : Nat → List va_E} (r : List (Option Value)) (hpl : plainName (my M).cls = true) (ho : (my M).cls = mo M) (hnm : (my M).name = "<init>") (hlv : ∀ a, lvl 0 (some (.ref a) :: r) = lv_args 0 [.ref a]) (hn : Nat.ble 1 (ml M) = true)
    (body : ∀ (a : Nat) (K : KT), Fn G K M mc ms a → (kM K).name = "<init>" → NW G K (ml M) 0 0 (MQ (kb K) (QnN G B a) (ka K) (ks K) mc ms (fun q => a ≤ q)) a [.inr (ci, bl)] 0 (some (.ref a) :: r) []) : NC G M ci bl B mc ms := by
  intro a
  refine Met.ofW (cc := mb M) (maxL := ml M) (ret := mr M) hpl rfl ?_
  intro p e s m args below meth c s₁ B hml hv
  obtain ⟨rfl, hP, hK⟩ := hv
  have hown : s.vm.findClass (my M).cls = some m.cls := findClass_of_methodNamed B.named
  have hl := lv_entry [.ref a] (n := ml M) (Nat.le_of_ble_eq_true (show Nat.ble (lg_sl [.ref a]).length (ml M) = true from hn))
  have hin : meth.name = "<init>" := ((name_of_methodNamed B.named B.method).1).trans hnm
  rw [lg_entry_eq]
  rw [← hlv] at hl
  exact body a (p, e, _, s, m, [Value.ref a].toArray, below, meth, c) ⟨B.exec, B.bytes, hml, by rw [← ho]; exact hown, B.notSynchronized, hK, rfl, B.returns, by rw [hP.2]; exact Nat.le_add_right a _⟩ hin s.heap [] _ hP va_S.rf hl
theorem n_vret {B : Nat → List va_E} (F : Fn G K M c s a) (hr : mr M = none) (d : DD (mb M) pc .return_ 1 q) (hel : el = B a) : NW G K (ml M) c s (MQ (kb K) (QnN G B a) (ka K) (ks K) c s (fun q => a ≤ q)) a el pc lv [] := by
  intro H locs ls hP hS hl
  subst hel
  exact W.vret F.1 F.2.1 ((N_r F).trans hr) (fun t ht hW => ⟨⟨rfl, by rw [ht]; exact hP⟩, hS.F ht⟩) hS.2.2 d.1 (N_l F)
theorem KN.warm {s U : State} (hW : s.WarmedH U.vm) (h : KN G s) : KN G U := ⟨h.1.warm hW, va_AO.moved hW.alike h.2⟩
theorem n_blind {j ci : Nat} {bl : List Value} : FrameBlind (va_Pc [.ref j] (fun U => RW G j [.inr (ci, bl)] U.heap ∧ KN G U)) := fun a U g mk h => ⟨h.1, h.2.1, KN.warm (s := U) (U := U.calling g mk a) (State.WarmedH.refl U) h.2.2⟩
/-- behind a constructor -/
theorem n_after {M' : MD} {ci mc ms j : Nat} {bl : List Value} {B : Nat → List va_E} {e0 : List va_E} {H : Heap} {locs : List Loc} {ls : Array Slot} {st0 : List Value} {av : Array Value} (hP : RW G a el H) (hS : va_S (fun q => a ≤ q) (ks K).heap H locs) (hl : lv_has ls (ml M) (lvl 0 lv)) (hel : el = e0 ++ [.inr (ci, bl)]) (hj : e0.length = j) (hel' : e0 ++ B (a + j) = el') (hr : va_Run (kp K) (gl G) (ke K) (kR K) (ks K) (km K) (ka K) (kb K) (kM K) (kc K) H locs cells slots mc ms (F0 (km K) pc ls st0) st (QnN G B (a + j) av) (fun q => a + j ≤ q)) (k : NW G K (ml M) (cells + mc) (slots + ms) Q a el' (pc + 3) lv st) : W (kp K) (gl G) (ke K) (kR K) (ks K) (km K) (ka K) (kb K) (kM K) (kc K) H locs cells slots Q (F0 (km K) pc ls st0) := by
  intro T hT X
  obtain ⟨r, st₀, t, T', L9, h0, X', hL, e1, e2, ⟨⟨hv, hw⟩, hz, hk⟩, hst⟩ := hr T hT X
  cases hv
  rw [h0] at hz hk
  have hlen : el.length = j + 1 := by rw [hel, List.length_append, hj]; rfl
  have hHs := hP.2
  rw [hlen] at hHs
  have hS1 : va_S (fun q => a ≤ q) (ks K).heap T'.heap (locs ++ L9) := ⟨Nat.le_trans hS.1 (by rw [e1]; exact hz), fun q h1 h2 => by
      have h3 : q < H.size := Nat.lt_of_lt_of_le h1 hS.1
      rw [e1, hk q h3 (fun z => h2 (show a ≤ q from Nat.le_trans (Nat.le_add_right a j) z))]
      exact hS.2.1 q h1 h2, fun q hq => by
    rcases List.mem_append.mp hq with h | h
    · exact hS.2.2 q h
    · exact Nat.le_trans (Nat.le_add_right a j) (hL q h)⟩
  have hP1 : RW G a el' T'.heap := by
    refine ⟨?_, ?_⟩
    · rw [← hel', wl_app, hj]
      refine va_P.app (fun i x hx => ?_) (by rw [e1]; exact hw.1)
      obtain ⟨e, he, rfl⟩ := wl_at hx
      have hi : i < j := by have := (List.getElem?_eq_some_iff.mp he).1; omega
      have h4 : (wl a el)[i]? = some (a + i, e) := wl_of (by rw [hel, List.getElem?_append_left (by omega)]; exact he)
      exact (hP.1 i _ h4).kept (by
        show T'.heap[a + i]? = H[a + i]?
        rw [e1]
        exact hk (a + i) (by omega) (by show ¬ a + j ≤ a + i; omega))
    · rw [e1, hw.2, ← hel', List.length_append, hj]
      omega
  obtain ⟨t2, a1, b1⟩ := k T'.heap (locs ++ L9) ls hP1 hS1 hl T' rfl X'
  exact ⟨t2, hst t2 a1, b1⟩
theorem RW.last {H : Heap} {e0 : List va_E} {j : Nat} {e : va_E} (hP : RW G a el H) (hel : el = e0 ++ [e]) (hj : e0.length = j) : RW G (a + j) [e] H := by
  refine ⟨fun i x hx => ?_, ?_⟩
  · obtain ⟨e', he, rfl⟩ := wl_at hx
    have hz : i < 1 := (List.getElem?_eq_some_iff.mp he).1
    have hi0 : i = 0 := by omega
    subst hi0
    cases he
    exact hP.1 j _ (wl_of (by rw [hel, List.getElem?_append_right (by omega), hj, Nat.sub_self]; rfl))
  · rw [hP.2, hel, List.length_append, hj]; rfl
theorem payN {M' : MD} (F : Fn G K M c s a) (h : TW (.code (my M') (mb M') (ml M') (mr M'))) : ∀ w ∈ [Cond.code (my M') (mb M') (ml M') (mr M')], ∀ (a' : Array Value) (U : State), (ks K).WarmedH U.vm → w.before a' U = true := by
  intro w hw a' U hW
  rw [List.mem_singleton] at hw
  subst hw
  exact (F.2.2.2.2.2.1.1.warm hW).word h a'
theorem roomN {M' : MD} (F : Fn G K M c s a) (h : rok M M' = true) {c' s' : Nat} : (rmOf M' c' s').frames + 1 ≤ (kR K).frames ∧ 8 + (ml M' + 11) + (rmOf M' c' s').locals ≤ (kR K).locals := by
  rw [N_R F]
  unfold rok at h
  rw [Bool.and_eq_true] at h
  exact ⟨Nat.le_of_ble_eq_true h.1, Nat.le_of_ble_eq_true h.2⟩
theorem preN {H : Heap} {locs : List Loc} {e0 : List va_E} {j ci : Nat} {bl : List Value} (F : Fn G K M c s a) (hP : RW G a el H) (hel : el = e0 ++ [.inr (ci, bl)]) (hj : e0.length = j) : PreS (ks K) H (va_Pc [.ref (a + j)] (fun U => RW G (a + j) [.inr (ci, bl)] U.heap ∧ KN G U)) [.ref (a + j)] := ⟨n_blind, fun U hU hW => ⟨rfl, by rw [hU]; exact hP.last hel hj, KN.warm hW F.2.2.2.2.2.1⟩⟩
theorem n_ctor {M' : MD} {ix ci mc ms j : Nat} {bl : List Value} {B : Nat → List va_E} (e0 : List va_E) (F : Fn G K M c s a) (f : MF M') (fi : TW (.instanceMethod (my M'))) (hy : (my M').name = "<init>") (hr : mr M' = none) (lk : TW (.methodLink (mo M) ix (my M'))) (ok : rok M M' = true) (d : DD (mb M) pc (.invokespecial ix) 3 q) (hn : 0 = mn M') (hw : Nat.ble ((st.map fun v => v.category).sum) 8 = true) (z : cells + mc ≤ c ∧ slots + ms ≤ s) (hM : NC G M' ci bl B mc ms) (hel : el = e0 ++ [.inr (ci, bl)]) (hj : e0.length = j) (hel' : e0 ++ B (a + j) = el') (k : NW G K (ml M) (cells + mc) (slots + ms) Q a el' q lv st) : NW G K (ml M) cells slots Q a el pc lv (.ref (a + j) :: st) := by
  intro H locs ls hP hS hl
  obtain ⟨d1, rfl⟩ := d
  obtain ⟨f1, f2, f3⟩ := f
  have hM2 := hM (a + j)
  rw [hr] at f1 hM2
  exact n_after (M' := M') hP hS hl hel hj hel' (va_runI (Ts := []) (own := mo M) (As := []) (rest := st) (nL := ml M) ⟨F.1, F.2.1, F.2.2.1, F.2.2.2.1, fun _ h => by cases h⟩ hM2 ⟨⟨rfl, rfl, (roomN F ok).1, (roomN F ok).2, (by have := payN (M' := M') F (by rw [hr]; exact f1); rw [hr] at this; exact this), List.mem_singleton.mpr rfl, N_w F f1, N_w F f2, ⟨f3.1, f3.2.1⟩, par_ok f3.2.2, N_w F lk⟩, hy, N_w F fi⟩ (preN F (locs := locs) hP hel hj) rfl hn hl.1 rfl (lv_room (Nat.le_of_ble_eq_true hw)) d1 (by rw [N_R F]; exact z)) k
theorem n_ctorN {M' : MD} {host : String} {ix ci mc ms j : Nat} {bl : List Value} {B : Nat → List va_E} (e0 : List va_E) (F : Fn G K M c s a) (f : MF M') (fi : TW (.instanceMethod (my M'))) (hy : (my M').name = "<init>") (hr : mr M' = none) (lk : TW (.methodLinkNest (mo M) ix (my M') host)) (ok : rok M M' = true) (d : DD (mb M) pc (.invokespecial ix) 3 q) (hn : 0 = mn M') (hw : Nat.ble ((st.map fun v => v.category).sum) 8 = true) (z : cells + mc ≤ c ∧ slots + ms ≤ s) (hM : NC G M' ci bl B mc ms) (hel : el = e0 ++ [.inr (ci, bl)]) (hj : e0.length = j) (hel' : e0 ++ B (a + j) = el') (k : NW G K (ml M) (cells + mc) (slots + ms) Q a el' q lv st) : NW G K (ml M) cells slots Q a el pc lv (.ref (a + j) :: st) := by
  intro H locs ls hP hS hl
  obtain ⟨d1, rfl⟩ := d
  obtain ⟨f1, f2, f3⟩ := f
  have hM2 := hM (a + j)
  rw [hr] at f1 hM2
  exact n_after (M' := M') hP hS hl hel hj hel' (va_runIN (Ts := []) (own := mo M) (As := []) (rest := st) (nL := ml M) ⟨F.1, F.2.1, F.2.2.1, F.2.2.2.1, fun _ h => by cases h⟩ hM2 ⟨⟨⟨rfl, rfl, (roomN F ok).1, (roomN F ok).2, (by have := payN (M' := M') F (by rw [hr]; exact f1); rw [hr] at this; exact this), List.mem_singleton.mpr rfl⟩, N_w F f1, N_w F f2, ⟨f3.1, f3.2.1⟩, par_ok f3.2.2, N_w F lk⟩, hy, N_w F fi⟩ (preN F (locs := locs) hP hel hj) rfl hn hl.1 rfl (lv_room (Nat.le_of_ble_eq_true hw)) d1 (by rw [N_R F]; exact z)) k
end
