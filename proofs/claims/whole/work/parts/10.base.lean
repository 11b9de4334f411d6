/-! The world as one table of numbers: 92 cells at the addresses gB G k; what is in cell k is told by v k (ints), by L (longs) and by kd k (its kind, its length). -/
abbrev VV : Type := Nat → Nat → Nat
abbrev LL : Type := Nat → Int64
abbrev GT : Type := Launch × (Nat → Nat) × Nat × va_G × (Nat → ClassId) × (Nat → Nat)
abbrev gl (G : GT) : Launch := G.1
abbrev gB (G : GT) : Nat → Nat := G.2.1
abbrev gN (G : GT) : Nat := G.2.2.1
abbrev gD (G : GT) : va_G := G.2.2.2.1
abbrev gc (G : GT) : Nat → ClassId := G.2.2.2.2.1
abbrev gs (G : GT) : Nat → Nat := G.2.2.2.2.2
def gA (G : GT) : Nat → Prop := fun q => (∃ k, k < 92 ∧ q = gB G k) ∨ gN G ≤ q
def tysG (G : GT) : List (ClassId × FieldType) := [(gc G 0, .int), (gc G 1, .char), (gc G 2, .boolean), (gc G 3, .long), (gc G 4, .object "BiddenMoves$State")]
/-- the kinds: 0 to 7 the classes of vwCl; 8 an int array, 9 of chars, 10 of booleans, 11 of states, 12 of longs; lengths; for 11 the first state -/
def kdl : List (Nat × Nat × Nat) := [(6,0,0),
  (4,0,0),(0,0,0),(8,8,0),(8,8,0),(8,32,0),(8,2,0),(8,2,0),
  (4,0,0),(0,0,0),(8,8,0),(8,8,0),(8,32,0),(8,2,0),(8,2,0),
  (4,0,0),(0,0,0),(8,8,0),(8,8,0),(8,32,0),(8,2,0),(8,2,0),
  (4,0,0),(0,0,0),(8,8,0),(8,8,0),(8,32,0),(8,2,0),(8,2,0),
  (4,0,0),(0,0,0),(8,8,0),(8,8,0),(8,32,0),(8,2,0),(8,2,0),
  (4,0,0),(0,0,0),(8,8,0),(8,8,0),(8,32,0),(8,2,0),(8,2,0),
  (4,0,0),(0,0,0),(8,8,0),(8,8,0),(8,32,0),(8,2,0),(8,2,0),
  (4,0,0),(0,0,0),(8,8,0),(8,8,0),(8,32,0),(8,2,0),(8,2,0),
  (4,0,0),(0,0,0),(8,8,0),(8,8,0),(8,32,0),(8,2,0),(8,2,0),
  (3,0,0),(11,6,22),(11,2,8),(10,2,0),
  (1,0,0),(9,60,0),(0,0,0),(8,8,0),(8,8,0),(8,32,0),(10,8,0),
  (2,0,0),(8,2,0),(8,2,0),(8,416,0),
  (5,0,0),(8,2,0),(8,2,0),(8,416,0),
  (7,0,0),(8,60,0),(8,360,0),(8,120,0),(10,2,0),(8,60,0),(8,416,0),(8,48,0),
  (12,1,0)]
def kd (k : Nat) : Nat × Nat × Nat := kdl.getD k (99,0,0)
def ce (G : GT) (v : VV) (L : LL) (k : Nat) : va_E :=
  if (kd k).1 = 0 then .inr (0, [.ref (gB G (k+1)), .ref (gB G (k+2)), .ref (gB G (k+3))])
  else if (kd k).1 = 1 then .inr (1, [.ref (gB G (k+1)), .int (nI (v k 1)), .ref (gB G (k+2)), .ref (gB G (k+6)), .int (nI (v k 4)), .int (nI (v k 5)), .int (nI (v k 6))])
  else if (kd k).1 = 2 then .inr (2, [.ref (gB G (k+1)), .ref (gB G (k+2)), .ref (gB G (k+3)), .int (nI (v k 3))])
  else if (kd k).1 = 3 then .inr (3, [.ref (gB G (k+1)), .int (nI (v k 1)), .int (nI (v k 2))])
  else if (kd k).1 = 4 then .inr (4, [.ref (gB G (k+1)), .int (nI (v k 1)), .int (nI (v k 2)), .int (nI (v k 3)), .int (nI (v k 4)), .int (nI (v k 5)), .int (nI (v k 6)), .ref (gB G (k+5)), .ref (gB G (k+6)), .int (nI (v k 9)), .int (nI (v k 10))])
  else if (kd k).1 = 5 then .inr (5, [.ref (gB G (k+1)), .ref (gB G (k+2)), .ref (gB G (k+3)), .int (nI (v k 3))])
  else if (kd k).1 = 6 then .inr (6, [.ref (gB G 1), .ref (gB G 64), .ref (gB G 66), .ref (gB G 67), .ref (gB G 68), .ref (gB G 75), .ref (gB G 79)])
  else if (kd k).1 = 7 then .inr (7, [.ref (gB G (k+1)), .ref (gB G (k+2)), .int (nI (v k 2)), .ref (gB G (k+3)), .ref (gB G (k+4)), .ref (gB G (k+5)), .int (nI (v k 6)), .int (nI (v k 7)), .ref (gB G (k+6)), .ref (gB G (k+7)), .int (nI (v k 10)), .int (nI (v k 11)), .int (nI (v k 12)), .long (L 0)])
  else if (kd k).1 = 8 then .inl (gc G 0, (kd k).2.1, .inl (fun j => nI (v k j)))
  else if (kd k).1 = 9 then .inl (gc G 1, (kd k).2.1, .inl (fun j => nI (v k j)))
  else if (kd k).1 = 10 then .inl (gc G 2, (kd k).2.1, .inl (fun j => nI (v k j)))
  else if (kd k).1 = 11 then .inl (gc G 4, (kd k).2.1, .inr (.inr (.inr (.inr (fun j => some (gB G ((kd k).2.2 + 7 * j)))))))
  else .inl (gc G 3, (kd k).2.1, .inr (.inl (fun _ => L 1)))
def fs0 (G : GT) (v : VV) (L : LL) (k : Nat) : List Value := [.ref (gB G (k+1)), .ref (gB G (k+2)), .ref (gB G (k+3))]
def fs1 (G : GT) (v : VV) (L : LL) (k : Nat) : List Value := [.ref (gB G (k+1)), .int (nI (v k 1)), .ref (gB G (k+2)), .ref (gB G (k+6)), .int (nI (v k 4)), .int (nI (v k 5)), .int (nI (v k 6))]
def fs2 (G : GT) (v : VV) (L : LL) (k : Nat) : List Value := [.ref (gB G (k+1)), .ref (gB G (k+2)), .ref (gB G (k+3)), .int (nI (v k 3))]
def fs3 (G : GT) (v : VV) (L : LL) (k : Nat) : List Value := [.ref (gB G (k+1)), .int (nI (v k 1)), .int (nI (v k 2))]
def fs4 (G : GT) (v : VV) (L : LL) (k : Nat) : List Value := [.ref (gB G (k+1)), .int (nI (v k 1)), .int (nI (v k 2)), .int (nI (v k 3)), .int (nI (v k 4)), .int (nI (v k 5)), .int (nI (v k 6)), .ref (gB G (k+5)), .ref (gB G (k+6)), .int (nI (v k 9)), .int (nI (v k 10))]
def fs5 (G : GT) (v : VV) (L : LL) (k : Nat) : List Value := [.ref (gB G (k+1)), .ref (gB G (k+2)), .ref (gB G (k+3)), .int (nI (v k 3))]
def fs6 (G : GT) (v : VV) (L : LL) (k : Nat) : List Value := [.ref (gB G 1), .ref (gB G 64), .ref (gB G 66), .ref (gB G 67), .ref (gB G 68), .ref (gB G 75), .ref (gB G 79)]
def fs7 (G : GT) (v : VV) (L : LL) (k : Nat) : List Value := [.ref (gB G (k+1)), .ref (gB G (k+2)), .int (nI (v k 2)), .ref (gB G (k+3)), .ref (gB G (k+4)), .ref (gB G (k+5)), .int (nI (v k 6)), .int (nI (v k 7)), .ref (gB G (k+6)), .ref (gB G (k+7)), .int (nI (v k 10)), .int (nI (v k 11)), .int (nI (v k 12)), .long (L 0)]
section
variable {G : GT} {v : VV} {L : LL} {k n o : Nat}
theorem ce0 (h : kd k = (0,0,0)) : ce G v L k = .inr (0, fs0 G v L k) := by simp [ce, h, fs0]
theorem ce1 (h : kd k = (1,0,0)) : ce G v L k = .inr (1, fs1 G v L k) := by simp [ce, h, fs1]
theorem ce2 (h : kd k = (2,0,0)) : ce G v L k = .inr (2, fs2 G v L k) := by simp [ce, h, fs2]
theorem ce3 (h : kd k = (3,0,0)) : ce G v L k = .inr (3, fs3 G v L k) := by simp [ce, h, fs3]
theorem ce4 (h : kd k = (4,0,0)) : ce G v L k = .inr (4, fs4 G v L k) := by simp [ce, h, fs4]
theorem ce5 (h : kd k = (5,0,0)) : ce G v L k = .inr (5, fs5 G v L k) := by simp [ce, h, fs5]
theorem ce6 (h : kd k = (6,0,0)) : ce G v L k = .inr (6, fs6 G v L k) := by simp [ce, h, fs6]
theorem ce7 (h : kd k = (7,0,0)) : ce G v L k = .inr (7, fs7 G v L k) := by simp [ce, h, fs7]
theorem ce8 (h : kd k = (8,n,0)) : ce G v L k = .inl (gc G 0, n, .inl (fun j => nI (v k j))) := by simp [ce, h]
theorem ce9 (h : kd k = (9,n,0)) : ce G v L k = .inl (gc G 1, n, .inl (fun j => nI (v k j))) := by simp [ce, h]
theorem ce10 (h : kd k = (10,n,0)) : ce G v L k = .inl (gc G 2, n, .inl (fun j => nI (v k j))) := by simp [ce, h]
theorem ce11 (h : kd k = (11,n,o)) : ce G v L k = .inl (gc G 4, n, .inr (.inr (.inr (.inr (fun j => some (gB G (o + 7 * j))))))) := by simp [ce, h]
theorem ce12 (h : kd k = (12,n,0)) : ce G v L k = .inl (gc G 3, n, .inr (.inl (fun _ => L 1))) := by simp [ce, h]
theorem kd_lt {a b c : Nat} (h : kd k = (a,b,c)) (ha : a ≠ 99) : k < 92 := by
  rcases Nat.lt_or_ge k 92 with q | q
  · exact q
  · exfalso
    have h2 : kd k = (99,0,0) := by
      unfold kd
      rw [List.getD_eq_getElem?_getD, List.getElem?_eq_none (by exact q)]
      rfl
    rw [h2] at h
    exact ha (Prod.mk.inj h).1.symm
end
def up2 (v : VV) (k j x : Nat) : VV := fun a b => if a = k ∧ b = j then x else v a b
theorem up2_s (v : VV) (k j x : Nat) : up2 v k j x k j = x := by simp [up2]
theorem up2_k (v : VV) {k j x a : Nat} (h : a ≠ k) : up2 v k j x a = v a := by funext b; simp [up2, h]
theorem up2_j (v : VV) {k j x b : Nat} (h : b ≠ j) (a : Nat) : up2 v k j x a b = v a b := by simp [up2, h]
theorem up2_row (v : VV) (k j x : Nat) : (fun b => nI (up2 v k j x k b)) = upd (fun b => nI (v k b)) j (nI x) := by
  funext b
  by_cases h : b = j
  · subst h; simp [up2, upd]
  · simp [up2, upd, h]
def up1 (L : LL) (j : Nat) (x : Int64) : LL := fun a => if a = j then x else L a
theorem ce_cong {G : GT} {v v' : VV} {L L' : LL} {k : Nat} (h : v' k = v k) (hL : L' = L) : ce G v' L' k = ce G v L k := by
  subst hL
  unfold ce
  rw [h]
def gw (G : GT) (v : VV) (L : LL) : va_W := (List.range 92).map (fun k => (gB G k, ce G v L k))
theorem gw_at {G : GT} {v : VV} {L : LL} {k : Nat} (h : k < 92) : (gw G v L)[k]? = some (gB G k, ce G v L k) := by
  unfold gw
  rw [List.getElem?_map, List.getElem?_range h]
  rfl
theorem gw_len {G : GT} {v : VV} {L : LL} : (gw G v L).length = 92 := by unfold gw; rw [List.length_map, List.length_range]
theorem gw_lt {G : GT} {v : VV} {L : LL} {k : Nat} {q : Nat × va_E} (h : (gw G v L)[k]? = some q) : k < 92 ∧ q = (gB G k, ce G v L k) := by
  have hk : k < 92 := by
    have := (List.getElem?_eq_some_iff.mp h).1
    rwa [gw_len] at this
  rw [gw_at hk] at h
  exact ⟨hk, (Option.some.inj h).symm⟩
theorem gw_set {G : GT} {v v' : VV} {L L' : LL} {k : Nat} {e : va_E} (h : k < 92) (hk : ce G v' L' k = e) (hj : ∀ j, j ≠ k → ce G v' L' j = ce G v L j) : (gw G v L).set k (gB G k, e) = gw G v' L' := by
  apply List.ext_getElem?
  intro i
  rw [List.getElem?_set]
  by_cases hi : k = i
  · subst hi
    rw [if_pos rfl, if_pos (by rw [gw_len]; exact h), gw_at h, hk]
  · rw [if_neg hi]
    rcases Nat.lt_or_ge i 92 with q | q
    · rw [gw_at q, gw_at q, hj i (fun e => hi e.symm)]
    · rw [List.getElem?_eq_none (by rw [gw_len]; exact q), List.getElem?_eq_none (by rw [gw_len]; exact q)]
/-- global: the addresses are apart, and the launch keeps no stack traces -/
def GH (G : GT) : Prop := (∀ i j, i < 92 → j < 92 → gB G i = gB G j → i = j) ∧ (gl G).stackTraces = false
theorem gw_D {G : GT} {v : VV} {L : LL} (g : GH G) : va_D (gA G) (gw G v L) := by
  refine ⟨fun i j p q hi hj hpq => ?_, fun k q hk => ?_⟩
  · obtain ⟨h1, rfl⟩ := gw_lt hi
    obtain ⟨h2, rfl⟩ := gw_lt hj
    exact g.1 i j h1 h2 hpq
  · obtain ⟨h1, rfl⟩ := gw_lt hk
    exact Or.inl ⟨k, h1, rfl⟩
/-! what is known of the tables, in every state -/
def pW : Cond → Bool
  | .fieldLinkNest _ _ _ _ _ _ => true
  | .methodLinkNest _ _ _ _ => true
  | .declares _ => true
  | .castable _ _ => true
  | w => goodWord w
theorem pW_at {s U : State} (hW : s.WarmedH U.vm) {w : Cond} (h : pW w = true) {a a' : Array Value} (hb : w.before a s = true) : w.before a' U = true := by
  cases w <;> first
    | exact word_at hW (good_of_word h) hb
    | exact va_Nw.use rfl (va_Nw.warmF hW (va_Nw.of rfl hb))
    | exact va_Nw.use rfl (va_Nw.warmM hW (va_Nw.of rfl hb))
    | exact va_Nw.use rfl (va_Nw.warmD hW (va_Nw.of rfl hb))
    | exact va_Nw.use rfl (va_Nw.warmC hW (va_Nw.of rfl hb))
/-- the tables' words, and two of a private method of an abstract class -/
def lw_tb2 : List Cond := lw_tbl ++ [.selects RX3 yX2_tellPosition yX2_tellPosition, .selects RX6 yX2_tellPosition yX2_tellPosition]
/-- a word of the tables that holds in every state -/
def TW (w : Cond) : Prop := ∃ i : Nat, lw_tb2[i]? = some w ∧ pW w = true
def strL : List (String × Nat × String) := [("BiddenMoves", 307, "an argument is out of range"), ("BiddenMoves", 300, "no such position"), ("BiddenMoves", 303, "no such player"), ("BiddenMoves", 58, "a move leads to another position"), ("BiddenMoves", 79, "the position has this move, or no room for it"), ("BiddenMoves", 305, "no such setting"), ("BiddenMoves", 153, "no such character in the buffer"), ("BiddenMoves", 158, "the buffer is full"), ("BiddenMoves", 171, "the buffer tells no board"), ("BiddenMoves", 186, "no snapshot in this slot"), ("BiddenMoves", 191, "no saved state")]
def ncL : List (String × String) := [("java/lang/IndexOutOfBoundsException", "java/lang/IllegalArgumentException"), ("java/lang/IndexOutOfBoundsException", "java/lang/IllegalStateException"), ("java/lang/IllegalArgumentException", "java/lang/IndexOutOfBoundsException"), ("java/lang/IllegalArgumentException", "java/lang/IllegalStateException"), ("java/lang/IllegalStateException", "java/lang/IndexOutOfBoundsException"), ("java/lang/IllegalStateException", "java/lang/IllegalArgumentException")]
def KB (G : GT) (U : State) : Prop := va_K (gD G) vwCl (tysG G) U ∧ (∀ w, TW w → w.before #[] U = true) ∧ (∀ (i : Nat) (q : String × Nat × String), strL[i]? = some q → vk_R q.1 q.2.1 q.2.2 (gs G i) U) ∧ (∀ q ∈ ncL, va_Nc q.1 q.2 U)
theorem KB.warm {G : GT} {s U : State} (hW : s.WarmedH U.vm) (h : KB G s) : KB G U :=
  ⟨va_K.moved hW.alike h.1, fun w hw => pW_at hW hw.choose_spec.2 (h.2.1 w hw), fun i q hq => vk_R.warm hW (h.2.2.1 i q hq), fun q hq => va_Nc.moved hW.alike (h.2.2.2 q hq)⟩
theorem KB.word {G : GT} {s : State} (h : KB G s) {w : Cond} (hw : TW w) (a : Array Value) : w.before a s = true := pW_at (State.WarmedH.refl s) hw.choose_spec.2 (h.2.1 w hw)
def HB (G : GT) (U : State) (H : Heap) : Prop := vx_Zq Bundle.tN "UNASSIGNED_STACK" Bundle.steD (gA G) U H ∧ vx_Zq Bundle.tN "SUPPRESSED_SENTINEL" Bundle.listD (gA G) U H
theorem HB.moved {G : GT} {u U : State} {H : Heap} (hvm : u.vm.Alike U.vm) (h : HB G u H) : HB G U H := ⟨h.1.moved hvm, h.2.moved hvm⟩
theorem HB.kept {G : GT} {U : State} {H H1 : Heap} (h : HB G U H) (hq : ∀ a : Nat, a < H.size → ¬ gA G a → H1[a]? = H[a]?) : HB G U H1 := ⟨h.1.kept hq, h.2.kept hq⟩
def Wld (G : GT) (v : VV) (L : LL) (U : State) : Prop := va_P (gD G) vwCl (gw G v L) U.heap ∧ gN G ≤ U.heap.size ∧ KB G U ∧ HB G U U.heap
theorem Wld.calling {G : GT} {v : VV} {L : LL} {U : State} (h : Wld G v L U) (g : JFrame) (mk : MethodId) (a : Array Value) : Wld G v L (U.calling g mk a) :=
  ⟨h.1, h.2.1, KB.warm (s := U) (U := U.calling g mk a) (State.WarmedH.refl U) h.2.2.1, HB.moved (u := U) (U := U.calling g mk a) (Vm.Alike.refl U.vm) h.2.2.2⟩
/-! methods: class, name, code, locals, answer, parameters, frames and words that it needs -/
abbrev MD : Type := String × MethodName × ByteArray × Nat × Option FieldType × Nat × Nat × Nat
abbrev mo (M : MD) : String := M.1
abbrev my (M : MD) : MethodName := M.2.1
abbrev mb (M : MD) : ByteArray := M.2.2.1
abbrev ml (M : MD) : Nat := M.2.2.2.1
abbrev mr (M : MD) : Option FieldType := M.2.2.2.2.1
abbrev mn (M : MD) : Nat := M.2.2.2.2.2.1
abbrev mf (M : MD) : Nat := M.2.2.2.2.2.2.1
abbrev mq (M : MD) : Nat := M.2.2.2.2.2.2.2
def rmOf (M : MD) (c s : Nat) : Room := { frames := mf M, cells := c, slots := s, locals := mq M }
def Qn (G : GT) (Φ : Option Value → VV → LL → Prop) : Array Value → State → Outcome → State → Prop := fun _ st oc t => (∃ (r : Option Value) (v' : VV) (L' : LL), oc = .returned r ∧ Φ r v' L' ∧ Wld G v' L' t) ∧ va_F (gA G) st t
/-- the contract of a method that returns and makes nothing -/
def CC (G : GT) (M : MD) (avs : List Value) (v : VV) (L : LL) (Φ : Option Value → VV → LL → Prop) : Prop :=
  Met (gl G) (my M) [Cond.code (my M) (mb M) (ml M) (mr M)] (rmOf M 0 0) (va_Pc avs (Wld G v L)) (Qn G Φ) 0 0 (gA G)
abbrev KT : Type := Program × Env × Room × State × MethodId × Array Value × List Frame × Method × Code
abbrev kp (K : KT) : Program := K.1
abbrev ke (K : KT) : Env := K.2.1
abbrev kR (K : KT) : Room := K.2.2.1
abbrev ks (K : KT) : State := K.2.2.2.1
abbrev km (K : KT) : MethodId := K.2.2.2.2.1
abbrev ka (K : KT) : Array Value := K.2.2.2.2.2.1
abbrev kb (K : KT) : List Frame := K.2.2.2.2.2.2.1
abbrev kM (K : KT) : Method := K.2.2.2.2.2.2.2.1
abbrev kc (K : KT) : Code := K.2.2.2.2.2.2.2.2
/-! locals as a list of places -/
def lvl : Nat → List (Option Value) → List (Nat × Value)
  | _, [] => []
  | i, none :: r => lvl (i+1) r
  | i, some x :: r => (i, x) :: lvl (i+1) r
theorem lvl_mem : ∀ (lv : List (Option Value)) (o i : Nat) (x : Value), lv[i]? = some (some x) → (o + i, x) ∈ lvl o lv
  | [], _, _, _, h => by simp at h
  | a :: r, o, 0, x, h => by
    have h2 : a = some x := by simpa using h
    subst h2
    exact List.mem_cons_self
  | a :: r, o, i+1, x, h => by
    have h2 : r[i]? = some (some x) := by simpa using h
    have h3 := lvl_mem r (o+1) i x h2
    rw [show o + 1 + i = o + (i + 1) by omega] at h3
    cases a with
    | none => exact h3
    | some y => exact List.mem_cons_of_mem _ h3
theorem lvl_inv : ∀ (lv : List (Option Value)) (o j : Nat) (x : Value), (j, x) ∈ lvl o lv → ∃ i, j = o + i ∧ lv[i]? = some (some x)
  | [], _, _, _, h => by simp [lvl] at h
  | none :: r, o, j, x, h => by
    obtain ⟨i, h1, h2⟩ := lvl_inv r (o+1) j x h
    exact ⟨i + 1, by omega, by simpa using h2⟩
  | some y :: r, o, j, x, h => by
    rcases List.mem_cons.mp h with h | h
    · cases h
      exact ⟨0, rfl, rfl⟩
    · obtain ⟨i, h1, h2⟩ := lvl_inv r (o+1) j x h
      exact ⟨i + 1, by omega, by simpa using h2⟩
theorem lv_ld {ls : Array Slot} {nL i : Nat} {lv : List (Option Value)} {x : Value} (hl : lv_has ls nL (lvl 0 lv)) (h : lv[i]? = some (some x)) : ls[i]? = some (.val x) := by
  have h2 := hl.2.2 (0 + i, x) (lvl_mem lv 0 i x h)
  rwa [Nat.zero_add] at h2
def ok1 (lv : List (Option Value)) : Nat → Bool
  | 0 => true
  | k+1 => match lv[k]? with
    | some (some x) => x.category == 1
    | _ => true
theorem lv_set1 {ls : Array Slot} {nL i : Nat} {lv : List (Option Value)} {x : Value} (hok : ok1 lv i = true) (h : lv_has ls nL ((i, x) :: (lvl 0 lv).filter (fun q => !(q.1 == i) && !(q.1 + 1 == i && q.2.category == 2)))) : lv_has ls nL (lvl 0 (lv.set i (some x))) := by
  refine ⟨h.1, h.2.1, fun q hq => h.2.2 q ?_⟩
  obtain ⟨j, y⟩ := q
  obtain ⟨i2, h1, h2⟩ := lvl_inv _ 0 j y hq
  rw [Nat.zero_add] at h1
  subst h1
  rw [List.getElem?_set] at h2
  by_cases e : i = j
  · subst e
    rw [if_pos rfl] at h2
    split at h2
    · cases h2; exact List.mem_cons_self
    · cases h2
  · rw [if_neg e] at h2
    refine List.mem_cons_of_mem _ (List.mem_filter.mpr ⟨by have := lvl_mem lv 0 j y h2; rwa [Nat.zero_add] at this, ?_⟩)
    have e2 : (j == i) = false := by simp; omega
    have e3 : (j + 1 == i && y.category == 2) = false := by
      cases i with
      | zero => simp
      | succ k =>
        by_cases hjk : j = k
        · subst hjk
          simp only [ok1, h2] at hok
          have : y.category = 1 := by simpa using hok
          simp [this]
        · have : (j + 1 == k + 1) = false := by simp; omega
          simp [this]
    show (!(j == i) && !(j + 1 == i && y.category == 2)) = true
    rw [e2, e3]; rfl
theorem lv_set2 {ls : Array Slot} {nL i : Nat} {lv : List (Option Value)} {x : Value} (hok : ok1 lv i = true) (h : lv_has ls nL ((i, x) :: (lvl 0 lv).filter (fun q => !(q.1 == i) && (!(q.1 == i + 1) && !(q.1 + 1 == i && q.2.category == 2))))) : lv_has ls nL (lvl 0 ((lv.set i (some x)).set (i+1) none)) := by
  refine ⟨h.1, h.2.1, fun q hq => h.2.2 q ?_⟩
  obtain ⟨j, y⟩ := q
  obtain ⟨i2, h1, h2⟩ := lvl_inv _ 0 j y hq
  rw [Nat.zero_add] at h1
  subst h1
  rw [List.getElem?_set] at h2
  by_cases e9 : i + 1 = j
  · rw [if_pos e9] at h2
    split at h2 <;> cases h2
  rw [if_neg e9, List.getElem?_set] at h2
  by_cases e : i = j
  · subst e
    rw [if_pos rfl] at h2
    split at h2
    · cases h2; exact List.mem_cons_self
    · cases h2
  · rw [if_neg e] at h2
    refine List.mem_cons_of_mem _ (List.mem_filter.mpr ⟨by have := lvl_mem lv 0 j y h2; rwa [Nat.zero_add] at this, ?_⟩)
    have e2 : (j == i) = false := by simp; omega
    have e4 : (j == i + 1) = false := by simp; omega
    have e3 : (j + 1 == i && y.category == 2) = false := by
      cases i with
      | zero => simp
      | succ k =>
        by_cases hjk : j = k
        · subst hjk
          simp only [ok1, h2] at hok
          have : y.category = 1 := by simpa using hok
          simp [this]
        · have : (j + 1 == k + 1) = false := by simp; omega
          simp [this]
    show (!(j == i) && (!(j == i + 1) && !(j + 1 == i && y.category == 2))) = true
    rw [e2, e3, e4]; rfl
/-- the walk: at pc, with these locals, this stack, this world -/
def CW (G : GT) (K : KT) (nL cells slots : Nat) (Q : State → Prop) (v : VV) (L : LL) (pc : Nat) (lv : List (Option Value)) (st : List Value) : Prop :=
  ∀ (H : Heap) (locs : List Loc) (ls : Array Slot), va_P (gD G) vwCl (gw G v L) H → va_S (gA G) (ks K).heap H locs → lv_has ls nL (lvl 0 lv) → W (kp K) (gl G) (ke K) (kR K) (ks K) (km K) (ka K) (kb K) (kM K) (kc K) H locs cells slots Q (F0 (km K) pc ls st)
/-- what is fixed in a walk -/
def Fx (G : GT) (K : KT) (M : MD) (c s : Nat) : Prop :=
  (kp K).tables.exec = Jvm.exec ∧ (kc K).code = mb M ∧ (kc K).maxLocals = ml M ∧ (ks K).vm.findClass (mo M) = some (km K).cls ∧ (kM K).locks = false ∧ gN G ≤ (ks K).heap.size ∧ KB G (ks K) ∧ HB G (ks K) (ks K).heap ∧ GH G ∧ kR K = rmOf M c s ∧ (kM K).sig.returnType = mr M
theorem cc_of {G : GT} {M : MD} {avs : List Value} {v : VV} {L : LL} {Φ : Option Value → VV → LL → Prop} (g : GH G) (lv0 : List (Option Value)) (hpl : plainName (my M).cls = true) (ho : (my M).cls = mo M) (hlv : lvl 0 lv0 = lv_args 0 avs) (hn : Nat.ble (lg_sl avs).length (ml M) = true)
    (body : ∀ K : KT, Fx G K M 0 0 → CW G K (ml M) 0 0 (MQ (kb K) (Qn G Φ) (ka K) (ks K) 0 0 (gA G)) v L 0 lv0 []) : CC G M avs v L Φ := by
  refine Met.ofW (cc := mb M) (maxL := ml M) (ret := mr M) hpl rfl ?_
  intro p e s m args below meth c s₁ B hml hv
  obtain ⟨rfl, hP, hN, hK, hH⟩ := hv
  have hown : s.vm.findClass (my M).cls = some m.cls := findClass_of_methodNamed B.named
  have hl := lv_entry avs (n := ml M) (Nat.le_of_ble_eq_true hn)
  rw [lg_entry_eq]
  rw [← hlv] at hl
  exact body (p, e, _, s, m, avs.toArray, below, meth, c) ⟨B.exec, B.bytes, hml, by rw [← ho]; exact hown, B.notSynchronized, hN, hK, hH, g, rfl, B.returns⟩ s.heap [] _ hP va_S.rf hl
/-- the state behind a call has the world -/
theorem wld_of {G : GT} {K : KT} {M : MD} {c s : Nat} (F : Fx G K M c s) {v : VV} {L : LL} {H : Heap} {locs : List Loc} (hP : va_P (gD G) vwCl (gw G v L) H) (hS : va_S (gA G) (ks K).heap H locs) {U : State} (hU : U.heap = H) (hW : (ks K).WarmedH U.vm) : Wld G v L U := by
  obtain ⟨-, -, -, -, -, hN, hK, hH, -⟩ := F
  refine ⟨by rw [hU]; exact hP, by rw [hU]; exact Nat.le_trans hN hS.1, hK.warm hW, ?_⟩
  rw [hU]
  exact (hH.kept (H1 := H) (fun a h1 h2 => hS.2.1 a h1 h2)).moved hW.alike
