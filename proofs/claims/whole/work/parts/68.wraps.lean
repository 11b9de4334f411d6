theorem hML_addMove : MH ML_addMove [(0, 10, 13, 13), (0, 10, 17, 15), (0, 10, 21, 17)] := ⟨tw_713, tw_73, by decide +kernel, tw_712⟩
set_option maxHeartbeats 4000000 in
theorem w_addMove0 {G : GT} {v : VV} {L : LL} {a' : AS} {x0 : Int32} {y1 y2 : Int32} (g : GH G) (h : CC G MX7_addMove [.ref (gB G 0), .int y1, .int y2] v L (gI (PC v L a' x0))) : CH G ML_addMove [(0, 10, 13, 13), (0, 10, 17, 15), (0, 10, 21, 17)] [.ref (gB G 0), .int y1, .int y2, .ref (gB G 91)] v L (gI (WF v a' 0 x0)) := by
  refine ch_of g tw_713 [some (.ref (gB G 0)), some (.int y1), some (.int y2), some (.ref (gB G 91)), none] rfl rfl rfl rfl (fun K F tab => ?_)
  refine r_aload_n F dL_addMove_0 rfl ?_
  refine r_iconst (x := 0) F dL_addMove_1 rfl ?_
  refine r_aload_n F dL_addMove_2 rfl ?_
  refine r_iload_n F dL_addMove_3 rfl ?_
  refine r_iload_n F dL_addMove_4 rfl ?_
  refine r_callV2j F fMX7_addMove tw_717 rfl rfl rfl rfl dL_addMove_5 rfl rfl z16 (h) ?_
  rintro x9 v1 L1 ⟨rfl, rfl, f1, i1⟩
  refine r_i2l F dL_addMove_8 rfl ?_
  refine r_last F dL_addMove_9 ?_
  refine r_goto F dL_addMove_10 ?_
  refine r_iconst (x := 0) F dL_addMove_25 rfl ?_
  exact r_iretH F rfl dL_addMove_26 ⟨_, rfl, rfl, f1, i1, fun _ => up1_s1 _ _⟩
set_option maxHeartbeats 4000000 in
theorem w_addMove1 {G : GT} {v : VV} {L : LL} {a : AS} {x0 : Int32} {y1 y2 : Int32} (g : GH G) (h : CX G MX7_addMove [.ref (gB G 0), .int y1, .int y2] v L eIX (PX v L a)) : CH G ML_addMove [(0, 10, 13, 13), (0, 10, 17, 15), (0, 10, 21, 17)] [.ref (gB G 0), .int y1, .int y2, .ref (gB G 91)] v L (gI (WF v a 1 x0)) := by
  refine ch_of g tw_713 [some (.ref (gB G 0)), some (.int y1), some (.int y2), some (.ref (gB G 91)), none] rfl rfl rfl rfl (fun K F tab => ?_)
  refine r_aload_n F dL_addMove_0 rfl ?_
  refine r_iconst (x := 0) F dL_addMove_1 rfl ?_
  refine r_aload_n F dL_addMove_2 rfl ?_
  refine r_iload_n F dL_addMove_3 rfl ?_
  refine r_iload_n F dL_addMove_4 rfl ?_
  refine r_catchV (M' := MX7_addMove) (As := [.int y1, .int y2]) (k := 0) (ci := 6) (T := TX7) (N := 7) (pre := []) (x := ⟨0, 10, 13, 13⟩) (suf := [⟨0, 10, 17, 15⟩, ⟨0, 10, 21, 17⟩]) F fMX7_addMove tw_717 rfl rfl rfl rfl dL_addMove_5 rfl rfl h (tab.trans rfl) ⟨fun z hz => absurd hz List.not_mem_nil, by decide, by decide, tw_714, tw_628⟩ ?_
  rintro v1 L1 q9 ⟨rfl, f1, i1⟩
  refine r_ast4 F dL_addMove_13 rfl rfl ?_
  refine r_iconst (x := 1) F dL_addMove_15 rfl ?_
  exact r_iretH1 F rfl dL_addMove_16 ⟨_, rfl, rfl, f1, i1, fun e => absurd e (by decide)⟩
set_option maxHeartbeats 4000000 in
theorem w_addMove2 {G : GT} {v : VV} {L : LL} {a : AS} {x0 : Int32} {y1 y2 : Int32} (g : GH G) (h : CX G MX7_addMove [.ref (gB G 0), .int y1, .int y2] v L eIA (PX v L a)) : CH G ML_addMove [(0, 10, 13, 13), (0, 10, 17, 15), (0, 10, 21, 17)] [.ref (gB G 0), .int y1, .int y2, .ref (gB G 91)] v L (gI (WF v a 2 x0)) := by
  refine ch_of g tw_713 [some (.ref (gB G 0)), some (.int y1), some (.int y2), some (.ref (gB G 91)), none] rfl rfl rfl rfl (fun K F tab => ?_)
  refine r_aload_n F dL_addMove_0 rfl ?_
  refine r_iconst (x := 0) F dL_addMove_1 rfl ?_
  refine r_aload_n F dL_addMove_2 rfl ?_
  refine r_iload_n F dL_addMove_3 rfl ?_
  refine r_iload_n F dL_addMove_4 rfl ?_
  refine r_catchV (M' := MX7_addMove) (As := [.int y1, .int y2]) (k := 0) (ci := 6) (T := TX7) (N := 7) (pre := [⟨0, 10, 13, 13⟩]) (x := ⟨0, 10, 17, 15⟩) (suf := [⟨0, 10, 21, 17⟩]) F fMX7_addMove tw_717 rfl rfl rfl rfl dL_addMove_5 rfl rfl h (tab.trans rfl) ⟨List.forall_mem_cons.mpr ⟨Or.inr ⟨by decide, _, tw_714, by decide⟩, fun z hz => absurd hz List.not_mem_nil⟩, by decide, by decide, tw_715, tw_549⟩ ?_
  rintro v1 L1 q9 ⟨rfl, f1, i1⟩
  refine r_ast4 F dL_addMove_17 rfl rfl ?_
  refine r_iconst (x := 2) F dL_addMove_19 rfl ?_
  exact r_iretH1 F rfl dL_addMove_20 ⟨_, rfl, rfl, f1, i1, fun e => absurd e (by decide)⟩
set_option maxHeartbeats 4000000 in
theorem w_addMove3 {G : GT} {v : VV} {L : LL} {a : AS} {x0 : Int32} {y1 y2 : Int32} (g : GH G) (h : CX G MX7_addMove [.ref (gB G 0), .int y1, .int y2] v L eIS (PX v L a)) : CH G ML_addMove [(0, 10, 13, 13), (0, 10, 17, 15), (0, 10, 21, 17)] [.ref (gB G 0), .int y1, .int y2, .ref (gB G 91)] v L (gI (WF v a 3 x0)) := by
  refine ch_of g tw_713 [some (.ref (gB G 0)), some (.int y1), some (.int y2), some (.ref (gB G 91)), none] rfl rfl rfl rfl (fun K F tab => ?_)
  refine r_aload_n F dL_addMove_0 rfl ?_
  refine r_iconst (x := 0) F dL_addMove_1 rfl ?_
  refine r_aload_n F dL_addMove_2 rfl ?_
  refine r_iload_n F dL_addMove_3 rfl ?_
  refine r_iload_n F dL_addMove_4 rfl ?_
  refine r_catchV (M' := MX7_addMove) (As := [.int y1, .int y2]) (k := 0) (ci := 6) (T := TX7) (N := 7) (pre := [⟨0, 10, 13, 13⟩, ⟨0, 10, 17, 15⟩]) (x := ⟨0, 10, 21, 17⟩) (suf := []) F fMX7_addMove tw_717 rfl rfl rfl rfl dL_addMove_5 rfl rfl h (tab.trans rfl) ⟨List.forall_mem_cons.mpr ⟨Or.inr ⟨by decide, _, tw_714, by decide⟩, List.forall_mem_cons.mpr ⟨Or.inr ⟨by decide, _, tw_715, by decide⟩, fun z hz => absurd hz List.not_mem_nil⟩⟩, by decide, by decide, tw_716, tw_724⟩ ?_
  rintro v1 L1 q9 ⟨rfl, f1, i1⟩
  refine r_ast4 F dL_addMove_21 rfl rfl ?_
  refine r_iconst (x := 3) F dL_addMove_23 rfl ?_
  exact r_iretH1 F rfl dL_addMove_24 ⟨_, rfl, rfl, f1, i1, fun e => absurd e (by decide)⟩
theorem hML_clearMoves : MH ML_clearMoves [(0, 9, 12, 13)] := ⟨tw_741, tw_73, by decide +kernel, tw_740⟩
set_option maxHeartbeats 4000000 in
theorem w_clearMoves0 {G : GT} {v : VV} {L : LL} {a' : AS} {x0 : Int32} {y1 : Int32} (g : GH G) (h : CC G MX7_clearMoves [.ref (gB G 0), .int y1] v L (gI (PC v L a' x0))) : CH G ML_clearMoves [(0, 9, 12, 13)] [.ref (gB G 0), .int y1, .ref (gB G 91)] v L (gI (WF v a' 0 x0)) := by
  refine ch_of g tw_741 [some (.ref (gB G 0)), some (.int y1), some (.ref (gB G 91)), none] rfl rfl rfl rfl (fun K F tab => ?_)
  refine r_aload_n F dL_clearMoves_0 rfl ?_
  refine r_iconst (x := 0) F dL_clearMoves_1 rfl ?_
  refine r_aload_n F dL_clearMoves_2 rfl ?_
  refine r_iload_n F dL_clearMoves_3 rfl ?_
  refine r_callV1j F fMX7_clearMoves tw_742 rfl rfl rfl rfl dL_clearMoves_4 rfl rfl z16 (h) ?_
  rintro x9 v1 L1 ⟨rfl, rfl, f1, i1⟩
  refine r_i2l F dL_clearMoves_7 rfl ?_
  refine r_last F dL_clearMoves_8 ?_
  refine r_goto F dL_clearMoves_9 ?_
  refine r_iconst (x := 0) F dL_clearMoves_15 rfl ?_
  exact r_iretH F rfl dL_clearMoves_16 ⟨_, rfl, rfl, f1, i1, fun _ => up1_s1 _ _⟩
set_option maxHeartbeats 4000000 in
theorem w_clearMoves1 {G : GT} {v : VV} {L : LL} {a : AS} {x0 : Int32} {y1 : Int32} (g : GH G) (h : CX G MX7_clearMoves [.ref (gB G 0), .int y1] v L eIX (PX v L a)) : CH G ML_clearMoves [(0, 9, 12, 13)] [.ref (gB G 0), .int y1, .ref (gB G 91)] v L (gI (WF v a 1 x0)) := by
  refine ch_of g tw_741 [some (.ref (gB G 0)), some (.int y1), some (.ref (gB G 91)), none] rfl rfl rfl rfl (fun K F tab => ?_)
  refine r_aload_n F dL_clearMoves_0 rfl ?_
  refine r_iconst (x := 0) F dL_clearMoves_1 rfl ?_
  refine r_aload_n F dL_clearMoves_2 rfl ?_
  refine r_iload_n F dL_clearMoves_3 rfl ?_
  refine r_catchV (M' := MX7_clearMoves) (As := [.int y1]) (k := 0) (ci := 6) (T := TX7) (N := 7) (pre := []) (x := ⟨0, 9, 12, 13⟩) (suf := []) F fMX7_clearMoves tw_742 rfl rfl rfl rfl dL_clearMoves_4 rfl rfl h (tab.trans rfl) ⟨fun z hz => absurd hz List.not_mem_nil, by decide, by decide, tw_714, tw_628⟩ ?_
  rintro v1 L1 q9 ⟨rfl, f1, i1⟩
  refine r_ast3 F dL_clearMoves_12 rfl rfl ?_
  refine r_iconst (x := 1) F dL_clearMoves_13 rfl ?_
  exact r_iretH1 F rfl dL_clearMoves_14 ⟨_, rfl, rfl, f1, i1, fun e => absurd e (by decide)⟩
theorem hML_mark : MH ML_mark [(0, 10, 13, 13), (0, 10, 17, 15)] := ⟨tw_748, tw_73, by decide +kernel, tw_747⟩
set_option maxHeartbeats 4000000 in
theorem w_mark0 {G : GT} {v : VV} {L : LL} {a' : AS} {x0 : Int32} {y1 y2 : Int32} (g : GH G) (h : CC G MX7_mark [.ref (gB G 0), .int y1, .int y2] v L (gI (PC v L a' x0))) : CH G ML_mark [(0, 10, 13, 13), (0, 10, 17, 15)] [.ref (gB G 0), .int y1, .int y2, .ref (gB G 91)] v L (gI (WF v a' 0 x0)) := by
  refine ch_of g tw_748 [some (.ref (gB G 0)), some (.int y1), some (.int y2), some (.ref (gB G 91)), none] rfl rfl rfl rfl (fun K F tab => ?_)
  refine r_aload_n F dL_mark_0 rfl ?_
  refine r_iconst (x := 0) F dL_mark_1 rfl ?_
  refine r_aload_n F dL_mark_2 rfl ?_
  refine r_iload_n F dL_mark_3 rfl ?_
  refine r_iload_n F dL_mark_4 rfl ?_
  refine r_callV2j F fMX7_mark tw_749 rfl rfl rfl rfl dL_mark_5 rfl rfl z16 (h) ?_
  rintro x9 v1 L1 ⟨rfl, rfl, f1, i1⟩
  refine r_i2l F dL_mark_8 rfl ?_
  refine r_last F dL_mark_9 ?_
  refine r_goto F dL_mark_10 ?_
  refine r_iconst (x := 0) F dL_mark_21 rfl ?_
  exact r_iretH F rfl dL_mark_22 ⟨_, rfl, rfl, f1, i1, fun _ => up1_s1 _ _⟩
set_option maxHeartbeats 4000000 in
theorem w_mark1 {G : GT} {v : VV} {L : LL} {a : AS} {x0 : Int32} {y1 y2 : Int32} (g : GH G) (h : CX G MX7_mark [.ref (gB G 0), .int y1, .int y2] v L eIX (PX v L a)) : CH G ML_mark [(0, 10, 13, 13), (0, 10, 17, 15)] [.ref (gB G 0), .int y1, .int y2, .ref (gB G 91)] v L (gI (WF v a 1 x0)) := by
  refine ch_of g tw_748 [some (.ref (gB G 0)), some (.int y1), some (.int y2), some (.ref (gB G 91)), none] rfl rfl rfl rfl (fun K F tab => ?_)
  refine r_aload_n F dL_mark_0 rfl ?_
  refine r_iconst (x := 0) F dL_mark_1 rfl ?_
  refine r_aload_n F dL_mark_2 rfl ?_
  refine r_iload_n F dL_mark_3 rfl ?_
  refine r_iload_n F dL_mark_4 rfl ?_
  refine r_catchV (M' := MX7_mark) (As := [.int y1, .int y2]) (k := 0) (ci := 6) (T := TX7) (N := 7) (pre := []) (x := ⟨0, 10, 13, 13⟩) (suf := [⟨0, 10, 17, 15⟩]) F fMX7_mark tw_749 rfl rfl rfl rfl dL_mark_5 rfl rfl h (tab.trans rfl) ⟨fun z hz => absurd hz List.not_mem_nil, by decide, by decide, tw_714, tw_628⟩ ?_
  rintro v1 L1 q9 ⟨rfl, f1, i1⟩
  refine r_ast4 F dL_mark_13 rfl rfl ?_
  refine r_iconst (x := 1) F dL_mark_15 rfl ?_
  exact r_iretH1 F rfl dL_mark_16 ⟨_, rfl, rfl, f1, i1, fun e => absurd e (by decide)⟩
set_option maxHeartbeats 4000000 in
theorem w_mark2 {G : GT} {v : VV} {L : LL} {a : AS} {x0 : Int32} {y1 y2 : Int32} (g : GH G) (h : CX G MX7_mark [.ref (gB G 0), .int y1, .int y2] v L eIA (PX v L a)) : CH G ML_mark [(0, 10, 13, 13), (0, 10, 17, 15)] [.ref (gB G 0), .int y1, .int y2, .ref (gB G 91)] v L (gI (WF v a 2 x0)) := by
  refine ch_of g tw_748 [some (.ref (gB G 0)), some (.int y1), some (.int y2), some (.ref (gB G 91)), none] rfl rfl rfl rfl (fun K F tab => ?_)
  refine r_aload_n F dL_mark_0 rfl ?_
  refine r_iconst (x := 0) F dL_mark_1 rfl ?_
  refine r_aload_n F dL_mark_2 rfl ?_
  refine r_iload_n F dL_mark_3 rfl ?_
  refine r_iload_n F dL_mark_4 rfl ?_
  refine r_catchV (M' := MX7_mark) (As := [.int y1, .int y2]) (k := 0) (ci := 6) (T := TX7) (N := 7) (pre := [⟨0, 10, 13, 13⟩]) (x := ⟨0, 10, 17, 15⟩) (suf := []) F fMX7_mark tw_749 rfl rfl rfl rfl dL_mark_5 rfl rfl h (tab.trans rfl) ⟨List.forall_mem_cons.mpr ⟨Or.inr ⟨by decide, _, tw_714, by decide⟩, fun z hz => absurd hz List.not_mem_nil⟩, by decide, by decide, tw_715, tw_549⟩ ?_
  rintro v1 L1 q9 ⟨rfl, f1, i1⟩
  refine r_ast4 F dL_mark_17 rfl rfl ?_
  refine r_iconst (x := 2) F dL_mark_19 rfl ?_
  exact r_iretH1 F rfl dL_mark_20 ⟨_, rfl, rfl, f1, i1, fun e => absurd e (by decide)⟩
theorem hML_set : MH ML_set [(0, 10, 13, 13), (0, 10, 17, 15)] := ⟨tw_755, tw_73, by decide +kernel, tw_754⟩
set_option maxHeartbeats 4000000 in
theorem w_set0 {G : GT} {v : VV} {L : LL} {a' : AS} {x0 : Int32} {y1 y2 : Int32} (g : GH G) (h : CC G MX7_set [.ref (gB G 0), .int y1, .int y2] v L (gI (PC v L a' x0))) : CH G ML_set [(0, 10, 13, 13), (0, 10, 17, 15)] [.ref (gB G 0), .int y1, .int y2, .ref (gB G 91)] v L (gI (WF v a' 0 x0)) := by
  refine ch_of g tw_755 [some (.ref (gB G 0)), some (.int y1), some (.int y2), some (.ref (gB G 91)), none] rfl rfl rfl rfl (fun K F tab => ?_)
  refine r_aload_n F dL_set_0 rfl ?_
  refine r_iconst (x := 0) F dL_set_1 rfl ?_
  refine r_aload_n F dL_set_2 rfl ?_
  refine r_iload_n F dL_set_3 rfl ?_
  refine r_iload_n F dL_set_4 rfl ?_
  refine r_callV2j F fMX7_set tw_756 rfl rfl rfl rfl dL_set_5 rfl rfl z16 (h) ?_
  rintro x9 v1 L1 ⟨rfl, rfl, f1, i1⟩
  refine r_i2l F dL_set_8 rfl ?_
  refine r_last F dL_set_9 ?_
  refine r_goto F dL_set_10 ?_
  refine r_iconst (x := 0) F dL_set_21 rfl ?_
  exact r_iretH F rfl dL_set_22 ⟨_, rfl, rfl, f1, i1, fun _ => up1_s1 _ _⟩
set_option maxHeartbeats 4000000 in
theorem w_set1 {G : GT} {v : VV} {L : LL} {a : AS} {x0 : Int32} {y1 y2 : Int32} (g : GH G) (h : CX G MX7_set [.ref (gB G 0), .int y1, .int y2] v L eIX (PX v L a)) : CH G ML_set [(0, 10, 13, 13), (0, 10, 17, 15)] [.ref (gB G 0), .int y1, .int y2, .ref (gB G 91)] v L (gI (WF v a 1 x0)) := by
  refine ch_of g tw_755 [some (.ref (gB G 0)), some (.int y1), some (.int y2), some (.ref (gB G 91)), none] rfl rfl rfl rfl (fun K F tab => ?_)
  refine r_aload_n F dL_set_0 rfl ?_
  refine r_iconst (x := 0) F dL_set_1 rfl ?_
  refine r_aload_n F dL_set_2 rfl ?_
  refine r_iload_n F dL_set_3 rfl ?_
  refine r_iload_n F dL_set_4 rfl ?_
  refine r_catchV (M' := MX7_set) (As := [.int y1, .int y2]) (k := 0) (ci := 6) (T := TX7) (N := 7) (pre := []) (x := ⟨0, 10, 13, 13⟩) (suf := [⟨0, 10, 17, 15⟩]) F fMX7_set tw_756 rfl rfl rfl rfl dL_set_5 rfl rfl h (tab.trans rfl) ⟨fun z hz => absurd hz List.not_mem_nil, by decide, by decide, tw_714, tw_628⟩ ?_
  rintro v1 L1 q9 ⟨rfl, f1, i1⟩
  refine r_ast4 F dL_set_13 rfl rfl ?_
  refine r_iconst (x := 1) F dL_set_15 rfl ?_
  exact r_iretH1 F rfl dL_set_16 ⟨_, rfl, rfl, f1, i1, fun e => absurd e (by decide)⟩
set_option maxHeartbeats 4000000 in
theorem w_set2 {G : GT} {v : VV} {L : LL} {a : AS} {x0 : Int32} {y1 y2 : Int32} (g : GH G) (h : CX G MX7_set [.ref (gB G 0), .int y1, .int y2] v L eIA (PX v L a)) : CH G ML_set [(0, 10, 13, 13), (0, 10, 17, 15)] [.ref (gB G 0), .int y1, .int y2, .ref (gB G 91)] v L (gI (WF v a 2 x0)) := by
  refine ch_of g tw_755 [some (.ref (gB G 0)), some (.int y1), some (.int y2), some (.ref (gB G 91)), none] rfl rfl rfl rfl (fun K F tab => ?_)
  refine r_aload_n F dL_set_0 rfl ?_
  refine r_iconst (x := 0) F dL_set_1 rfl ?_
  refine r_aload_n F dL_set_2 rfl ?_
  refine r_iload_n F dL_set_3 rfl ?_
  refine r_iload_n F dL_set_4 rfl ?_
  refine r_catchV (M' := MX7_set) (As := [.int y1, .int y2]) (k := 0) (ci := 6) (T := TX7) (N := 7) (pre := [⟨0, 10, 13, 13⟩]) (x := ⟨0, 10, 17, 15⟩) (suf := []) F fMX7_set tw_756 rfl rfl rfl rfl dL_set_5 rfl rfl h (tab.trans rfl) ⟨List.forall_mem_cons.mpr ⟨Or.inr ⟨by decide, _, tw_714, by decide⟩, fun z hz => absurd hz List.not_mem_nil⟩, by decide, by decide, tw_715, tw_549⟩ ?_
  rintro v1 L1 q9 ⟨rfl, f1, i1⟩
  refine r_ast4 F dL_set_17 rfl rfl ?_
  refine r_iconst (x := 2) F dL_set_19 rfl ?_
  exact r_iretH1 F rfl dL_set_20 ⟨_, rfl, rfl, f1, i1, fun e => absurd e (by decide)⟩
theorem hML_place : MH ML_place [(0, 12, 15, 13), (0, 12, 19, 15)] := ⟨tw_770, tw_73, by decide +kernel, tw_769⟩
set_option maxHeartbeats 4000000 in
theorem w_place0 {G : GT} {v : VV} {L : LL} {a' : AS} {x0 : Int32} {y1 y2 y3 : Int32} (g : GH G) (h : CC G MX7_place [.ref (gB G 0), .int y1, .int y2, .int y3] v L (gI (PC v L a' x0))) : CH G ML_place [(0, 12, 15, 13), (0, 12, 19, 15)] [.ref (gB G 0), .int y1, .int y2, .int y3, .ref (gB G 91)] v L (gI (WF v a' 0 x0)) := by
  refine ch_of g tw_770 [some (.ref (gB G 0)), some (.int y1), some (.int y2), some (.int y3), some (.ref (gB G 91)), none] rfl rfl rfl rfl (fun K F tab => ?_)
  refine r_aload F dL_place_0 rfl ?_
  refine r_iconst (x := 0) F dL_place_2 rfl ?_
  refine r_aload_n F dL_place_3 rfl ?_
  refine r_iload_n F dL_place_4 rfl ?_
  refine r_iload_n F dL_place_5 rfl ?_
  refine r_iload_n F dL_place_6 rfl ?_
  refine r_callV3j F fMX7_place tw_771 rfl rfl rfl rfl dL_place_7 rfl rfl z16 (h) ?_
  rintro x9 v1 L1 ⟨rfl, rfl, f1, i1⟩
  refine r_i2l F dL_place_10 rfl ?_
  refine r_last F dL_place_11 ?_
  refine r_goto F dL_place_12 ?_
  refine r_iconst (x := 0) F dL_place_23 rfl ?_
  exact r_iretH F rfl dL_place_24 ⟨_, rfl, rfl, f1, i1, fun _ => up1_s1 _ _⟩
set_option maxHeartbeats 4000000 in
theorem w_place1 {G : GT} {v : VV} {L : LL} {a : AS} {x0 : Int32} {y1 y2 y3 : Int32} (g : GH G) (h : CX G MX7_place [.ref (gB G 0), .int y1, .int y2, .int y3] v L eIX (PX v L a)) : CH G ML_place [(0, 12, 15, 13), (0, 12, 19, 15)] [.ref (gB G 0), .int y1, .int y2, .int y3, .ref (gB G 91)] v L (gI (WF v a 1 x0)) := by
  refine ch_of g tw_770 [some (.ref (gB G 0)), some (.int y1), some (.int y2), some (.int y3), some (.ref (gB G 91)), none] rfl rfl rfl rfl (fun K F tab => ?_)
  refine r_aload F dL_place_0 rfl ?_
  refine r_iconst (x := 0) F dL_place_2 rfl ?_
  refine r_aload_n F dL_place_3 rfl ?_
  refine r_iload_n F dL_place_4 rfl ?_
  refine r_iload_n F dL_place_5 rfl ?_
  refine r_iload_n F dL_place_6 rfl ?_
  refine r_catchV (M' := MX7_place) (As := [.int y1, .int y2, .int y3]) (k := 0) (ci := 6) (T := TX7) (N := 7) (pre := []) (x := ⟨0, 12, 15, 13⟩) (suf := [⟨0, 12, 19, 15⟩]) F fMX7_place tw_771 rfl rfl rfl rfl dL_place_7 rfl rfl h (tab.trans rfl) ⟨fun z hz => absurd hz List.not_mem_nil, by decide, by decide, tw_714, tw_628⟩ ?_
  rintro v1 L1 q9 ⟨rfl, f1, i1⟩
  refine r_ast5 F dL_place_15 rfl rfl ?_
  refine r_iconst (x := 1) F dL_place_17 rfl ?_
  exact r_iretH1 F rfl dL_place_18 ⟨_, rfl, rfl, f1, i1, fun e => absurd e (by decide)⟩
set_option maxHeartbeats 4000000 in
theorem w_place2 {G : GT} {v : VV} {L : LL} {a : AS} {x0 : Int32} {y1 y2 y3 : Int32} (g : GH G) (h : CX G MX7_place [.ref (gB G 0), .int y1, .int y2, .int y3] v L eIA (PX v L a)) : CH G ML_place [(0, 12, 15, 13), (0, 12, 19, 15)] [.ref (gB G 0), .int y1, .int y2, .int y3, .ref (gB G 91)] v L (gI (WF v a 2 x0)) := by
  refine ch_of g tw_770 [some (.ref (gB G 0)), some (.int y1), some (.int y2), some (.int y3), some (.ref (gB G 91)), none] rfl rfl rfl rfl (fun K F tab => ?_)
  refine r_aload F dL_place_0 rfl ?_
  refine r_iconst (x := 0) F dL_place_2 rfl ?_
  refine r_aload_n F dL_place_3 rfl ?_
  refine r_iload_n F dL_place_4 rfl ?_
  refine r_iload_n F dL_place_5 rfl ?_
  refine r_iload_n F dL_place_6 rfl ?_
  refine r_catchV (M' := MX7_place) (As := [.int y1, .int y2, .int y3]) (k := 0) (ci := 6) (T := TX7) (N := 7) (pre := [⟨0, 12, 15, 13⟩]) (x := ⟨0, 12, 19, 15⟩) (suf := []) F fMX7_place tw_771 rfl rfl rfl rfl dL_place_7 rfl rfl h (tab.trans rfl) ⟨List.forall_mem_cons.mpr ⟨Or.inr ⟨by decide, _, tw_714, by decide⟩, fun z hz => absurd hz List.not_mem_nil⟩, by decide, by decide, tw_715, tw_549⟩ ?_
  rintro v1 L1 q9 ⟨rfl, f1, i1⟩
  refine r_ast5 F dL_place_19 rfl rfl ?_
  refine r_iconst (x := 2) F dL_place_21 rfl ?_
  exact r_iretH1 F rfl dL_place_22 ⟨_, rfl, rfl, f1, i1, fun e => absurd e (by decide)⟩
theorem hML_append : MH ML_append [(0, 9, 12, 15), (0, 9, 15, 17)] := ⟨tw_777, tw_73, by decide +kernel, tw_776⟩
set_option maxHeartbeats 4000000 in
theorem w_append0 {G : GT} {v : VV} {L : LL} {a' : AS} {x0 : Int32} {y1 : Int32} (g : GH G) (h : CC G MX7_append [.ref (gB G 0), .int y1] v L (gI (PC v L a' x0))) : CH G ML_append [(0, 9, 12, 15), (0, 9, 15, 17)] [.ref (gB G 0), .int y1, .ref (gB G 91)] v L (gI (WF v a' 0 x0)) := by
  refine ch_of g tw_777 [some (.ref (gB G 0)), some (.int y1), some (.ref (gB G 91)), none] rfl rfl rfl rfl (fun K F tab => ?_)
  refine r_aload_n F dL_append_0 rfl ?_
  refine r_iconst (x := 0) F dL_append_1 rfl ?_
  refine r_aload_n F dL_append_2 rfl ?_
  refine r_iload_n F dL_append_3 rfl ?_
  refine r_callV1j F fMX7_append tw_778 rfl rfl rfl rfl dL_append_4 rfl rfl z16 (h) ?_
  rintro x9 v1 L1 ⟨rfl, rfl, f1, i1⟩
  refine r_i2l F dL_append_7 rfl ?_
  refine r_last F dL_append_8 ?_
  refine r_goto F dL_append_9 ?_
  refine r_iconst (x := 0) F dL_append_18 rfl ?_
  exact r_iretH F rfl dL_append_19 ⟨_, rfl, rfl, f1, i1, fun _ => up1_s1 _ _⟩
set_option maxHeartbeats 4000000 in
theorem w_append1 {G : GT} {v : VV} {L : LL} {a : AS} {x0 : Int32} {y1 : Int32} (g : GH G) (h : CX G MX7_append [.ref (gB G 0), .int y1] v L eIA (PX v L a)) : CH G ML_append [(0, 9, 12, 15), (0, 9, 15, 17)] [.ref (gB G 0), .int y1, .ref (gB G 91)] v L (gI (WF v a 1 x0)) := by
  refine ch_of g tw_777 [some (.ref (gB G 0)), some (.int y1), some (.ref (gB G 91)), none] rfl rfl rfl rfl (fun K F tab => ?_)
  refine r_aload_n F dL_append_0 rfl ?_
  refine r_iconst (x := 0) F dL_append_1 rfl ?_
  refine r_aload_n F dL_append_2 rfl ?_
  refine r_iload_n F dL_append_3 rfl ?_
  refine r_catchV (M' := MX7_append) (As := [.int y1]) (k := 0) (ci := 6) (T := TX7) (N := 7) (pre := []) (x := ⟨0, 9, 12, 15⟩) (suf := [⟨0, 9, 15, 17⟩]) F fMX7_append tw_778 rfl rfl rfl rfl dL_append_4 rfl rfl h (tab.trans rfl) ⟨fun z hz => absurd hz List.not_mem_nil, by decide, by decide, tw_715, tw_549⟩ ?_
  rintro v1 L1 q9 ⟨rfl, f1, i1⟩
  refine r_ast3 F dL_append_12 rfl rfl ?_
  refine r_iconst (x := 1) F dL_append_13 rfl ?_
  exact r_iretH1 F rfl dL_append_14 ⟨_, rfl, rfl, f1, i1, fun e => absurd e (by decide)⟩
set_option maxHeartbeats 4000000 in
theorem w_append2 {G : GT} {v : VV} {L : LL} {a : AS} {x0 : Int32} {y1 : Int32} (g : GH G) (h : CX G MX7_append [.ref (gB G 0), .int y1] v L eIS (PX v L a)) : CH G ML_append [(0, 9, 12, 15), (0, 9, 15, 17)] [.ref (gB G 0), .int y1, .ref (gB G 91)] v L (gI (WF v a 2 x0)) := by
  refine ch_of g tw_777 [some (.ref (gB G 0)), some (.int y1), some (.ref (gB G 91)), none] rfl rfl rfl rfl (fun K F tab => ?_)
  refine r_aload_n F dL_append_0 rfl ?_
  refine r_iconst (x := 0) F dL_append_1 rfl ?_
  refine r_aload_n F dL_append_2 rfl ?_
  refine r_iload_n F dL_append_3 rfl ?_
  refine r_catchV (M' := MX7_append) (As := [.int y1]) (k := 0) (ci := 6) (T := TX7) (N := 7) (pre := [⟨0, 9, 12, 15⟩]) (x := ⟨0, 9, 15, 17⟩) (suf := []) F fMX7_append tw_778 rfl rfl rfl rfl dL_append_4 rfl rfl h (tab.trans rfl) ⟨List.forall_mem_cons.mpr ⟨Or.inr ⟨by decide, _, tw_715, by decide⟩, fun z hz => absurd hz List.not_mem_nil⟩, by decide, by decide, tw_716, tw_724⟩ ?_
  rintro v1 L1 q9 ⟨rfl, f1, i1⟩
  refine r_ast3 F dL_append_15 rfl rfl ?_
  refine r_iconst (x := 2) F dL_append_16 rfl ?_
  exact r_iretH1 F rfl dL_append_17 ⟨_, rfl, rfl, f1, i1, fun e => absurd e (by decide)⟩
theorem hML_load : MH ML_load [(0, 8, 11, 15)] := ⟨tw_786, tw_73, by decide +kernel, tw_785⟩
set_option maxHeartbeats 4000000 in
theorem w_load0 {G : GT} {v : VV} {L : LL} {a' : AS} {x0 : Int32} (g : GH G) (h : CC G MX7_load [.ref (gB G 0)] v L (gI (PC v L a' x0))) : CH G ML_load [(0, 8, 11, 15)] [.ref (gB G 0), .ref (gB G 91)] v L (gI (WF v a' 0 x0)) := by
  refine ch_of g tw_786 [some (.ref (gB G 0)), some (.ref (gB G 91)), none] rfl rfl rfl rfl (fun K F tab => ?_)
  refine r_aload_n F dL_load_0 rfl ?_
  refine r_iconst (x := 0) F dL_load_1 rfl ?_
  refine r_aload_n F dL_load_2 rfl ?_
  refine r_callV0j F fMX7_load tw_787 rfl rfl rfl rfl dL_load_3 rfl rfl z16 (h) ?_
  rintro x9 v1 L1 ⟨rfl, rfl, f1, i1⟩
  refine r_i2l F dL_load_6 rfl ?_
  refine r_last F dL_load_7 ?_
  refine r_goto F dL_load_8 ?_
  refine r_iconst (x := 0) F dL_load_14 rfl ?_
  exact r_iretH F rfl dL_load_15 ⟨_, rfl, rfl, f1, i1, fun _ => up1_s1 _ _⟩
set_option maxHeartbeats 4000000 in
theorem w_load1 {G : GT} {v : VV} {L : LL} {a : AS} {x0 : Int32} (g : GH G) (h : CX G MX7_load [.ref (gB G 0)] v L eIA (PX v L a)) : CH G ML_load [(0, 8, 11, 15)] [.ref (gB G 0), .ref (gB G 91)] v L (gI (WF v a 1 x0)) := by
  refine ch_of g tw_786 [some (.ref (gB G 0)), some (.ref (gB G 91)), none] rfl rfl rfl rfl (fun K F tab => ?_)
  refine r_aload_n F dL_load_0 rfl ?_
  refine r_iconst (x := 0) F dL_load_1 rfl ?_
  refine r_aload_n F dL_load_2 rfl ?_
  refine r_catchV (M' := MX7_load) (As := []) (k := 0) (ci := 6) (T := TX7) (N := 7) (pre := []) (x := ⟨0, 8, 11, 15⟩) (suf := []) F fMX7_load tw_787 rfl rfl rfl rfl dL_load_3 rfl rfl h (tab.trans rfl) ⟨fun z hz => absurd hz List.not_mem_nil, by decide, by decide, tw_715, tw_549⟩ ?_
  rintro v1 L1 q9 ⟨rfl, f1, i1⟩
  refine r_ast2 F dL_load_11 rfl rfl ?_
  refine r_iconst (x := 1) F dL_load_12 rfl ?_
  exact r_iretH1 F rfl dL_load_13 ⟨_, rfl, rfl, f1, i1, fun e => absurd e (by decide)⟩
theorem hML_keep : MH ML_keep [(0, 9, 12, 15)] := ⟨tw_799, tw_73, by decide +kernel, tw_798⟩
set_option maxHeartbeats 4000000 in
theorem w_keep0 {G : GT} {v : VV} {L : LL} {a' : AS} {x0 : Int32} {y1 : Int32} (g : GH G) (h : CC G MX7_keep [.ref (gB G 0), .int y1] v L (gI (PC v L a' x0))) : CH G ML_keep [(0, 9, 12, 15)] [.ref (gB G 0), .int y1, .ref (gB G 91)] v L (gI (WF v a' 0 x0)) := by
  refine ch_of g tw_799 [some (.ref (gB G 0)), some (.int y1), some (.ref (gB G 91)), none] rfl rfl rfl rfl (fun K F tab => ?_)
  refine r_aload_n F dL_keep_0 rfl ?_
  refine r_iconst (x := 0) F dL_keep_1 rfl ?_
  refine r_aload_n F dL_keep_2 rfl ?_
  refine r_iload_n F dL_keep_3 rfl ?_
  refine r_callV1j F fMX7_keep tw_800 rfl rfl rfl rfl dL_keep_4 rfl rfl z16 (h) ?_
  rintro x9 v1 L1 ⟨rfl, rfl, f1, i1⟩
  refine r_i2l F dL_keep_7 rfl ?_
  refine r_last F dL_keep_8 ?_
  refine r_goto F dL_keep_9 ?_
  refine r_iconst (x := 0) F dL_keep_15 rfl ?_
  exact r_iretH F rfl dL_keep_16 ⟨_, rfl, rfl, f1, i1, fun _ => up1_s1 _ _⟩
set_option maxHeartbeats 4000000 in
theorem w_keep1 {G : GT} {v : VV} {L : LL} {a : AS} {x0 : Int32} {y1 : Int32} (g : GH G) (h : CX G MX7_keep [.ref (gB G 0), .int y1] v L eIA (PX v L a)) : CH G ML_keep [(0, 9, 12, 15)] [.ref (gB G 0), .int y1, .ref (gB G 91)] v L (gI (WF v a 1 x0)) := by
  refine ch_of g tw_799 [some (.ref (gB G 0)), some (.int y1), some (.ref (gB G 91)), none] rfl rfl rfl rfl (fun K F tab => ?_)
  refine r_aload_n F dL_keep_0 rfl ?_
  refine r_iconst (x := 0) F dL_keep_1 rfl ?_
  refine r_aload_n F dL_keep_2 rfl ?_
  refine r_iload_n F dL_keep_3 rfl ?_
  refine r_catchV (M' := MX7_keep) (As := [.int y1]) (k := 0) (ci := 6) (T := TX7) (N := 7) (pre := []) (x := ⟨0, 9, 12, 15⟩) (suf := []) F fMX7_keep tw_800 rfl rfl rfl rfl dL_keep_4 rfl rfl h (tab.trans rfl) ⟨fun z hz => absurd hz List.not_mem_nil, by decide, by decide, tw_715, tw_549⟩ ?_
  rintro v1 L1 q9 ⟨rfl, f1, i1⟩
  refine r_ast3 F dL_keep_12 rfl rfl ?_
  refine r_iconst (x := 1) F dL_keep_13 rfl ?_
  exact r_iretH1 F rfl dL_keep_14 ⟨_, rfl, rfl, f1, i1, fun e => absurd e (by decide)⟩
theorem hML_goBack : MH ML_goBack [(0, 9, 12, 15), (0, 9, 15, 17)] := ⟨tw_807, tw_73, by decide +kernel, tw_806⟩
set_option maxHeartbeats 4000000 in
theorem w_goBack0 {G : GT} {v : VV} {L : LL} {a' : AS} {x0 : Int32} {y1 : Int32} (g : GH G) (h : CC G MX7_goBack [.ref (gB G 0), .int y1] v L (gI (PC v L a' x0))) : CH G ML_goBack [(0, 9, 12, 15), (0, 9, 15, 17)] [.ref (gB G 0), .int y1, .ref (gB G 91)] v L (gI (WF v a' 0 x0)) := by
  refine ch_of g tw_807 [some (.ref (gB G 0)), some (.int y1), some (.ref (gB G 91)), none] rfl rfl rfl rfl (fun K F tab => ?_)
  refine r_aload_n F dL_goBack_0 rfl ?_
  refine r_iconst (x := 0) F dL_goBack_1 rfl ?_
  refine r_aload_n F dL_goBack_2 rfl ?_
  refine r_iload_n F dL_goBack_3 rfl ?_
  refine r_callV1j F fMX7_goBack tw_808 rfl rfl rfl rfl dL_goBack_4 rfl rfl z16 (h) ?_
  rintro x9 v1 L1 ⟨rfl, rfl, f1, i1⟩
  refine r_i2l F dL_goBack_7 rfl ?_
  refine r_last F dL_goBack_8 ?_
  refine r_goto F dL_goBack_9 ?_
  refine r_iconst (x := 0) F dL_goBack_18 rfl ?_
  exact r_iretH F rfl dL_goBack_19 ⟨_, rfl, rfl, f1, i1, fun _ => up1_s1 _ _⟩
set_option maxHeartbeats 4000000 in
theorem w_goBack1 {G : GT} {v : VV} {L : LL} {a : AS} {x0 : Int32} {y1 : Int32} (g : GH G) (h : CX G MX7_goBack [.ref (gB G 0), .int y1] v L eIA (PX v L a)) : CH G ML_goBack [(0, 9, 12, 15), (0, 9, 15, 17)] [.ref (gB G 0), .int y1, .ref (gB G 91)] v L (gI (WF v a 1 x0)) := by
  refine ch_of g tw_807 [some (.ref (gB G 0)), some (.int y1), some (.ref (gB G 91)), none] rfl rfl rfl rfl (fun K F tab => ?_)
  refine r_aload_n F dL_goBack_0 rfl ?_
  refine r_iconst (x := 0) F dL_goBack_1 rfl ?_
  refine r_aload_n F dL_goBack_2 rfl ?_
  refine r_iload_n F dL_goBack_3 rfl ?_
  refine r_catchV (M' := MX7_goBack) (As := [.int y1]) (k := 0) (ci := 6) (T := TX7) (N := 7) (pre := []) (x := ⟨0, 9, 12, 15⟩) (suf := [⟨0, 9, 15, 17⟩]) F fMX7_goBack tw_808 rfl rfl rfl rfl dL_goBack_4 rfl rfl h (tab.trans rfl) ⟨fun z hz => absurd hz List.not_mem_nil, by decide, by decide, tw_715, tw_549⟩ ?_
  rintro v1 L1 q9 ⟨rfl, f1, i1⟩
  refine r_ast3 F dL_goBack_12 rfl rfl ?_
  refine r_iconst (x := 1) F dL_goBack_13 rfl ?_
  exact r_iretH1 F rfl dL_goBack_14 ⟨_, rfl, rfl, f1, i1, fun e => absurd e (by decide)⟩
set_option maxHeartbeats 4000000 in
theorem w_goBack2 {G : GT} {v : VV} {L : LL} {a : AS} {x0 : Int32} {y1 : Int32} (g : GH G) (h : CX G MX7_goBack [.ref (gB G 0), .int y1] v L eIS (PX v L a)) : CH G ML_goBack [(0, 9, 12, 15), (0, 9, 15, 17)] [.ref (gB G 0), .int y1, .ref (gB G 91)] v L (gI (WF v a 2 x0)) := by
  refine ch_of g tw_807 [some (.ref (gB G 0)), some (.int y1), some (.ref (gB G 91)), none] rfl rfl rfl rfl (fun K F tab => ?_)
  refine r_aload_n F dL_goBack_0 rfl ?_
  refine r_iconst (x := 0) F dL_goBack_1 rfl ?_
  refine r_aload_n F dL_goBack_2 rfl ?_
  refine r_iload_n F dL_goBack_3 rfl ?_
  refine r_catchV (M' := MX7_goBack) (As := [.int y1]) (k := 0) (ci := 6) (T := TX7) (N := 7) (pre := [⟨0, 9, 12, 15⟩]) (x := ⟨0, 9, 15, 17⟩) (suf := []) F fMX7_goBack tw_808 rfl rfl rfl rfl dL_goBack_4 rfl rfl h (tab.trans rfl) ⟨List.forall_mem_cons.mpr ⟨Or.inr ⟨by decide, _, tw_715, by decide⟩, fun z hz => absurd hz List.not_mem_nil⟩, by decide, by decide, tw_716, tw_724⟩ ?_
  rintro v1 L1 q9 ⟨rfl, f1, i1⟩
  refine r_ast3 F dL_goBack_15 rfl rfl ?_
  refine r_iconst (x := 2) F dL_goBack_16 rfl ?_
  exact r_iretH1 F rfl dL_goBack_17 ⟨_, rfl, rfl, f1, i1, fun e => absurd e (by decide)⟩
theorem hML_undo : MH ML_undo [(0, 8, 11, 17)] := ⟨tw_815, tw_73, by decide +kernel, tw_814⟩
set_option maxHeartbeats 4000000 in
theorem w_undo0 {G : GT} {v : VV} {L : LL} {a' : AS} {x0 : Int32} (g : GH G) (h : CC G MX7_undo [.ref (gB G 0)] v L (gI (PC v L a' x0))) : CH G ML_undo [(0, 8, 11, 17)] [.ref (gB G 0), .ref (gB G 91)] v L (gI (WF v a' 0 x0)) := by
  refine ch_of g tw_815 [some (.ref (gB G 0)), some (.ref (gB G 91)), none] rfl rfl rfl rfl (fun K F tab => ?_)
  refine r_aload_n F dL_undo_0 rfl ?_
  refine r_iconst (x := 0) F dL_undo_1 rfl ?_
  refine r_aload_n F dL_undo_2 rfl ?_
  refine r_callV0j F fMX7_undo tw_816 rfl rfl rfl rfl dL_undo_3 rfl rfl z16 (h) ?_
  rintro x9 v1 L1 ⟨rfl, rfl, f1, i1⟩
  refine r_i2l F dL_undo_6 rfl ?_
  refine r_last F dL_undo_7 ?_
  refine r_goto F dL_undo_8 ?_
  refine r_iconst (x := 0) F dL_undo_14 rfl ?_
  exact r_iretH F rfl dL_undo_15 ⟨_, rfl, rfl, f1, i1, fun _ => up1_s1 _ _⟩
set_option maxHeartbeats 4000000 in
theorem w_undo1 {G : GT} {v : VV} {L : LL} {a : AS} {x0 : Int32} (g : GH G) (h : CX G MX7_undo [.ref (gB G 0)] v L eIS (PX v L a)) : CH G ML_undo [(0, 8, 11, 17)] [.ref (gB G 0), .ref (gB G 91)] v L (gI (WF v a 1 x0)) := by
  refine ch_of g tw_815 [some (.ref (gB G 0)), some (.ref (gB G 91)), none] rfl rfl rfl rfl (fun K F tab => ?_)
  refine r_aload_n F dL_undo_0 rfl ?_
  refine r_iconst (x := 0) F dL_undo_1 rfl ?_
  refine r_aload_n F dL_undo_2 rfl ?_
  refine r_catchV (M' := MX7_undo) (As := []) (k := 0) (ci := 6) (T := TX7) (N := 7) (pre := []) (x := ⟨0, 8, 11, 17⟩) (suf := []) F fMX7_undo tw_816 rfl rfl rfl rfl dL_undo_3 rfl rfl h (tab.trans rfl) ⟨fun z hz => absurd hz List.not_mem_nil, by decide, by decide, tw_716, tw_724⟩ ?_
  rintro v1 L1 q9 ⟨rfl, f1, i1⟩
  refine r_ast2 F dL_undo_11 rfl rfl ?_
  refine r_iconst (x := 1) F dL_undo_12 rfl ?_
  exact r_iretH1 F rfl dL_undo_13 ⟨_, rfl, rfl, f1, i1, fun e => absurd e (by decide)⟩
theorem hML_positionOf : MH ML_positionOf [(0, 10, 13, 13), (0, 10, 17, 15)] := ⟨tw_827, tw_73, by decide +kernel, tw_826⟩
set_option maxHeartbeats 4000000 in
theorem w_positionOf0 {G : GT} {v : VV} {L : LL} {a' : AS} {x0 : Int32} {y1 y2 : Int32} (g : GH G) (h : CC G MX7_positionOf [.ref (gB G 0), .int y1, .int y2] v L (gI (PC v L a' x0))) : CH G ML_positionOf [(0, 10, 13, 13), (0, 10, 17, 15)] [.ref (gB G 0), .int y1, .int y2, .ref (gB G 91)] v L (gI (WF v a' 0 x0)) := by
  refine ch_of g tw_827 [some (.ref (gB G 0)), some (.int y1), some (.int y2), some (.ref (gB G 91)), none] rfl rfl rfl rfl (fun K F tab => ?_)
  refine r_aload_n F dL_positionOf_0 rfl ?_
  refine r_iconst (x := 0) F dL_positionOf_1 rfl ?_
  refine r_aload_n F dL_positionOf_2 rfl ?_
  refine r_iload_n F dL_positionOf_3 rfl ?_
  refine r_iload_n F dL_positionOf_4 rfl ?_
  refine r_callV2j F fMX7_positionOf tw_828 rfl rfl rfl rfl dL_positionOf_5 rfl rfl z16 (h) ?_
  rintro x9 v1 L1 ⟨rfl, rfl, f1, i1⟩
  refine r_i2l F dL_positionOf_8 rfl ?_
  refine r_last F dL_positionOf_9 ?_
  refine r_goto F dL_positionOf_10 ?_
  refine r_iconst (x := 0) F dL_positionOf_21 rfl ?_
  exact r_iretH F rfl dL_positionOf_22 ⟨_, rfl, rfl, f1, i1, fun _ => up1_s1 _ _⟩
set_option maxHeartbeats 4000000 in
theorem w_positionOf1 {G : GT} {v : VV} {L : LL} {a : AS} {x0 : Int32} {y1 y2 : Int32} (g : GH G) (h : CX G MX7_positionOf [.ref (gB G 0), .int y1, .int y2] v L eIX (PX v L a)) : CH G ML_positionOf [(0, 10, 13, 13), (0, 10, 17, 15)] [.ref (gB G 0), .int y1, .int y2, .ref (gB G 91)] v L (gI (WF v a 1 x0)) := by
  refine ch_of g tw_827 [some (.ref (gB G 0)), some (.int y1), some (.int y2), some (.ref (gB G 91)), none] rfl rfl rfl rfl (fun K F tab => ?_)
  refine r_aload_n F dL_positionOf_0 rfl ?_
  refine r_iconst (x := 0) F dL_positionOf_1 rfl ?_
  refine r_aload_n F dL_positionOf_2 rfl ?_
  refine r_iload_n F dL_positionOf_3 rfl ?_
  refine r_iload_n F dL_positionOf_4 rfl ?_
  refine r_catchV (M' := MX7_positionOf) (As := [.int y1, .int y2]) (k := 0) (ci := 6) (T := TX7) (N := 7) (pre := []) (x := ⟨0, 10, 13, 13⟩) (suf := [⟨0, 10, 17, 15⟩]) F fMX7_positionOf tw_828 rfl rfl rfl rfl dL_positionOf_5 rfl rfl h (tab.trans rfl) ⟨fun z hz => absurd hz List.not_mem_nil, by decide, by decide, tw_714, tw_628⟩ ?_
  rintro v1 L1 q9 ⟨rfl, f1, i1⟩
  refine r_ast4 F dL_positionOf_13 rfl rfl ?_
  refine r_iconst (x := 1) F dL_positionOf_15 rfl ?_
  exact r_iretH1 F rfl dL_positionOf_16 ⟨_, rfl, rfl, f1, i1, fun e => absurd e (by decide)⟩
set_option maxHeartbeats 4000000 in
theorem w_positionOf2 {G : GT} {v : VV} {L : LL} {a : AS} {x0 : Int32} {y1 y2 : Int32} (g : GH G) (h : CX G MX7_positionOf [.ref (gB G 0), .int y1, .int y2] v L eIA (PX v L a)) : CH G ML_positionOf [(0, 10, 13, 13), (0, 10, 17, 15)] [.ref (gB G 0), .int y1, .int y2, .ref (gB G 91)] v L (gI (WF v a 2 x0)) := by
  refine ch_of g tw_827 [some (.ref (gB G 0)), some (.int y1), some (.int y2), some (.ref (gB G 91)), none] rfl rfl rfl rfl (fun K F tab => ?_)
  refine r_aload_n F dL_positionOf_0 rfl ?_
  refine r_iconst (x := 0) F dL_positionOf_1 rfl ?_
  refine r_aload_n F dL_positionOf_2 rfl ?_
  refine r_iload_n F dL_positionOf_3 rfl ?_
  refine r_iload_n F dL_positionOf_4 rfl ?_
  refine r_catchV (M' := MX7_positionOf) (As := [.int y1, .int y2]) (k := 0) (ci := 6) (T := TX7) (N := 7) (pre := [⟨0, 10, 13, 13⟩]) (x := ⟨0, 10, 17, 15⟩) (suf := []) F fMX7_positionOf tw_828 rfl rfl rfl rfl dL_positionOf_5 rfl rfl h (tab.trans rfl) ⟨List.forall_mem_cons.mpr ⟨Or.inr ⟨by decide, _, tw_714, by decide⟩, fun z hz => absurd hz List.not_mem_nil⟩, by decide, by decide, tw_715, tw_549⟩ ?_
  rintro v1 L1 q9 ⟨rfl, f1, i1⟩
  refine r_ast4 F dL_positionOf_17 rfl rfl ?_
  refine r_iconst (x := 2) F dL_positionOf_19 rfl ?_
  exact r_iretH1 F rfl dL_positionOf_20 ⟨_, rfl, rfl, f1, i1, fun e => absurd e (by decide)⟩
theorem hML_playerOf : MH ML_playerOf [(0, 10, 13, 13), (0, 10, 17, 15)] := ⟨tw_831, tw_73, by decide +kernel, tw_830⟩
set_option maxHeartbeats 4000000 in
theorem w_playerOf0 {G : GT} {v : VV} {L : LL} {a' : AS} {x0 : Int32} {y1 y2 : Int32} (g : GH G) (h : CC G MX7_playerOf [.ref (gB G 0), .int y1, .int y2] v L (gI (PC v L a' x0))) : CH G ML_playerOf [(0, 10, 13, 13), (0, 10, 17, 15)] [.ref (gB G 0), .int y1, .int y2, .ref (gB G 91)] v L (gI (WF v a' 0 x0)) := by
  refine ch_of g tw_831 [some (.ref (gB G 0)), some (.int y1), some (.int y2), some (.ref (gB G 91)), none] rfl rfl rfl rfl (fun K F tab => ?_)
  refine r_aload_n F dL_playerOf_0 rfl ?_
  refine r_iconst (x := 0) F dL_playerOf_1 rfl ?_
  refine r_aload_n F dL_playerOf_2 rfl ?_
  refine r_iload_n F dL_playerOf_3 rfl ?_
  refine r_iload_n F dL_playerOf_4 rfl ?_
  refine r_callV2j F fMX7_playerOf tw_832 rfl rfl rfl rfl dL_playerOf_5 rfl rfl z16 (h) ?_
  rintro x9 v1 L1 ⟨rfl, rfl, f1, i1⟩
  refine r_i2l F dL_playerOf_8 rfl ?_
  refine r_last F dL_playerOf_9 ?_
  refine r_goto F dL_playerOf_10 ?_
  refine r_iconst (x := 0) F dL_playerOf_21 rfl ?_
  exact r_iretH F rfl dL_playerOf_22 ⟨_, rfl, rfl, f1, i1, fun _ => up1_s1 _ _⟩
set_option maxHeartbeats 4000000 in
theorem w_playerOf1 {G : GT} {v : VV} {L : LL} {a : AS} {x0 : Int32} {y1 y2 : Int32} (g : GH G) (h : CX G MX7_playerOf [.ref (gB G 0), .int y1, .int y2] v L eIX (PX v L a)) : CH G ML_playerOf [(0, 10, 13, 13), (0, 10, 17, 15)] [.ref (gB G 0), .int y1, .int y2, .ref (gB G 91)] v L (gI (WF v a 1 x0)) := by
  refine ch_of g tw_831 [some (.ref (gB G 0)), some (.int y1), some (.int y2), some (.ref (gB G 91)), none] rfl rfl rfl rfl (fun K F tab => ?_)
  refine r_aload_n F dL_playerOf_0 rfl ?_
  refine r_iconst (x := 0) F dL_playerOf_1 rfl ?_
  refine r_aload_n F dL_playerOf_2 rfl ?_
  refine r_iload_n F dL_playerOf_3 rfl ?_
  refine r_iload_n F dL_playerOf_4 rfl ?_
  refine r_catchV (M' := MX7_playerOf) (As := [.int y1, .int y2]) (k := 0) (ci := 6) (T := TX7) (N := 7) (pre := []) (x := ⟨0, 10, 13, 13⟩) (suf := [⟨0, 10, 17, 15⟩]) F fMX7_playerOf tw_832 rfl rfl rfl rfl dL_playerOf_5 rfl rfl h (tab.trans rfl) ⟨fun z hz => absurd hz List.not_mem_nil, by decide, by decide, tw_714, tw_628⟩ ?_
  rintro v1 L1 q9 ⟨rfl, f1, i1⟩
  refine r_ast4 F dL_playerOf_13 rfl rfl ?_
  refine r_iconst (x := 1) F dL_playerOf_15 rfl ?_
  exact r_iretH1 F rfl dL_playerOf_16 ⟨_, rfl, rfl, f1, i1, fun e => absurd e (by decide)⟩
set_option maxHeartbeats 4000000 in
theorem w_playerOf2 {G : GT} {v : VV} {L : LL} {a : AS} {x0 : Int32} {y1 y2 : Int32} (g : GH G) (h : CX G MX7_playerOf [.ref (gB G 0), .int y1, .int y2] v L eIA (PX v L a)) : CH G ML_playerOf [(0, 10, 13, 13), (0, 10, 17, 15)] [.ref (gB G 0), .int y1, .int y2, .ref (gB G 91)] v L (gI (WF v a 2 x0)) := by
  refine ch_of g tw_831 [some (.ref (gB G 0)), some (.int y1), some (.int y2), some (.ref (gB G 91)), none] rfl rfl rfl rfl (fun K F tab => ?_)
  refine r_aload_n F dL_playerOf_0 rfl ?_
  refine r_iconst (x := 0) F dL_playerOf_1 rfl ?_
  refine r_aload_n F dL_playerOf_2 rfl ?_
  refine r_iload_n F dL_playerOf_3 rfl ?_
  refine r_iload_n F dL_playerOf_4 rfl ?_
  refine r_catchV (M' := MX7_playerOf) (As := [.int y1, .int y2]) (k := 0) (ci := 6) (T := TX7) (N := 7) (pre := [⟨0, 10, 13, 13⟩]) (x := ⟨0, 10, 17, 15⟩) (suf := []) F fMX7_playerOf tw_832 rfl rfl rfl rfl dL_playerOf_5 rfl rfl h (tab.trans rfl) ⟨List.forall_mem_cons.mpr ⟨Or.inr ⟨by decide, _, tw_714, by decide⟩, fun z hz => absurd hz List.not_mem_nil⟩, by decide, by decide, tw_715, tw_549⟩ ?_
  rintro v1 L1 q9 ⟨rfl, f1, i1⟩
  refine r_ast4 F dL_playerOf_17 rfl rfl ?_
  refine r_iconst (x := 2) F dL_playerOf_19 rfl ?_
  exact r_iretH1 F rfl dL_playerOf_20 ⟨_, rfl, rfl, f1, i1, fun e => absurd e (by decide)⟩
theorem hML_count : MH ML_count [(0, 9, 12, 15)] := ⟨tw_835, tw_73, by decide +kernel, tw_834⟩
set_option maxHeartbeats 4000000 in
theorem w_count0 {G : GT} {v : VV} {L : LL} {a' : AS} {x0 : Int32} {y1 : Int32} (g : GH G) (h : CC G MX7_count [.ref (gB G 0), .int y1] v L (gI (PC v L a' x0))) : CH G ML_count [(0, 9, 12, 15)] [.ref (gB G 0), .int y1, .ref (gB G 91)] v L (gI (WF v a' 0 x0)) := by
  refine ch_of g tw_835 [some (.ref (gB G 0)), some (.int y1), some (.ref (gB G 91)), none] rfl rfl rfl rfl (fun K F tab => ?_)
  refine r_aload_n F dL_count_0 rfl ?_
  refine r_iconst (x := 0) F dL_count_1 rfl ?_
  refine r_aload_n F dL_count_2 rfl ?_
  refine r_iload_n F dL_count_3 rfl ?_
  refine r_callV1j F fMX7_count tw_836 rfl rfl rfl rfl dL_count_4 rfl rfl z16 (h) ?_
  rintro x9 v1 L1 ⟨rfl, rfl, f1, i1⟩
  refine r_i2l F dL_count_7 rfl ?_
  refine r_last F dL_count_8 ?_
  refine r_goto F dL_count_9 ?_
  refine r_iconst (x := 0) F dL_count_15 rfl ?_
  exact r_iretH F rfl dL_count_16 ⟨_, rfl, rfl, f1, i1, fun _ => up1_s1 _ _⟩
set_option maxHeartbeats 4000000 in
theorem w_count1 {G : GT} {v : VV} {L : LL} {a : AS} {x0 : Int32} {y1 : Int32} (g : GH G) (h : CX G MX7_count [.ref (gB G 0), .int y1] v L eIA (PX v L a)) : CH G ML_count [(0, 9, 12, 15)] [.ref (gB G 0), .int y1, .ref (gB G 91)] v L (gI (WF v a 1 x0)) := by
  refine ch_of g tw_835 [some (.ref (gB G 0)), some (.int y1), some (.ref (gB G 91)), none] rfl rfl rfl rfl (fun K F tab => ?_)
  refine r_aload_n F dL_count_0 rfl ?_
  refine r_iconst (x := 0) F dL_count_1 rfl ?_
  refine r_aload_n F dL_count_2 rfl ?_
  refine r_iload_n F dL_count_3 rfl ?_
  refine r_catchV (M' := MX7_count) (As := [.int y1]) (k := 0) (ci := 6) (T := TX7) (N := 7) (pre := []) (x := ⟨0, 9, 12, 15⟩) (suf := []) F fMX7_count tw_836 rfl rfl rfl rfl dL_count_4 rfl rfl h (tab.trans rfl) ⟨fun z hz => absurd hz List.not_mem_nil, by decide, by decide, tw_715, tw_549⟩ ?_
  rintro v1 L1 q9 ⟨rfl, f1, i1⟩
  refine r_ast3 F dL_count_12 rfl rfl ?_
  refine r_iconst (x := 1) F dL_count_13 rfl ?_
  exact r_iretH1 F rfl dL_count_14 ⟨_, rfl, rfl, f1, i1, fun e => absurd e (by decide)⟩
theorem hML_setting : MH ML_setting [(0, 9, 12, 13)] := ⟨tw_839, tw_73, by decide +kernel, tw_838⟩
set_option maxHeartbeats 4000000 in
theorem w_setting0 {G : GT} {v : VV} {L : LL} {a' : AS} {x0 : Int32} {y1 : Int32} (g : GH G) (h : CC G MX7_setting [.ref (gB G 0), .int y1] v L (gI (PC v L a' x0))) : CH G ML_setting [(0, 9, 12, 13)] [.ref (gB G 0), .int y1, .ref (gB G 91)] v L (gI (WF v a' 0 x0)) := by
  refine ch_of g tw_839 [some (.ref (gB G 0)), some (.int y1), some (.ref (gB G 91)), none] rfl rfl rfl rfl (fun K F tab => ?_)
  refine r_aload_n F dL_setting_0 rfl ?_
  refine r_iconst (x := 0) F dL_setting_1 rfl ?_
  refine r_aload_n F dL_setting_2 rfl ?_
  refine r_iload_n F dL_setting_3 rfl ?_
  refine r_callV1j F fMX7_setting tw_840 rfl rfl rfl rfl dL_setting_4 rfl rfl z16 (h) ?_
  rintro x9 v1 L1 ⟨rfl, rfl, f1, i1⟩
  refine r_i2l F dL_setting_7 rfl ?_
  refine r_last F dL_setting_8 ?_
  refine r_goto F dL_setting_9 ?_
  refine r_iconst (x := 0) F dL_setting_15 rfl ?_
  exact r_iretH F rfl dL_setting_16 ⟨_, rfl, rfl, f1, i1, fun _ => up1_s1 _ _⟩
set_option maxHeartbeats 4000000 in
theorem w_setting1 {G : GT} {v : VV} {L : LL} {a : AS} {x0 : Int32} {y1 : Int32} (g : GH G) (h : CX G MX7_setting [.ref (gB G 0), .int y1] v L eIX (PX v L a)) : CH G ML_setting [(0, 9, 12, 13)] [.ref (gB G 0), .int y1, .ref (gB G 91)] v L (gI (WF v a 1 x0)) := by
  refine ch_of g tw_839 [some (.ref (gB G 0)), some (.int y1), some (.ref (gB G 91)), none] rfl rfl rfl rfl (fun K F tab => ?_)
  refine r_aload_n F dL_setting_0 rfl ?_
  refine r_iconst (x := 0) F dL_setting_1 rfl ?_
  refine r_aload_n F dL_setting_2 rfl ?_
  refine r_iload_n F dL_setting_3 rfl ?_
  refine r_catchV (M' := MX7_setting) (As := [.int y1]) (k := 0) (ci := 6) (T := TX7) (N := 7) (pre := []) (x := ⟨0, 9, 12, 13⟩) (suf := []) F fMX7_setting tw_840 rfl rfl rfl rfl dL_setting_4 rfl rfl h (tab.trans rfl) ⟨fun z hz => absurd hz List.not_mem_nil, by decide, by decide, tw_714, tw_628⟩ ?_
  rintro v1 L1 q9 ⟨rfl, f1, i1⟩
  refine r_ast3 F dL_setting_12 rfl rfl ?_
  refine r_iconst (x := 1) F dL_setting_13 rfl ?_
  exact r_iretH1 F rfl dL_setting_14 ⟨_, rfl, rfl, f1, i1, fun e => absurd e (by decide)⟩
theorem hML_force : MH ML_force [(0, 16, 19, 13), (0, 16, 23, 15)] := ⟨tw_846, tw_73, by decide +kernel, tw_845⟩
set_option maxHeartbeats 4000000 in
theorem w_force0 {G : GT} {v : VV} {L : LL} {a' : AS} {x0 : Int32} {y1 y2 y3 y4 y5 : Int32} (g : GH G) (h : CC G MX7_force [.ref (gB G 0), .int y1, .int y2, .int y3, .int y4, .int y5] v L (gI (PC v L a' x0))) : CH G ML_force [(0, 16, 19, 13), (0, 16, 23, 15)] [.ref (gB G 0), .int y1, .int y2, .int y3, .int y4, .int y5, .ref (gB G 91)] v L (gI (WF v a' 0 x0)) := by
  refine ch_of g tw_846 [some (.ref (gB G 0)), some (.int y1), some (.int y2), some (.int y3), some (.int y4), some (.int y5), some (.ref (gB G 91)), none] rfl rfl rfl rfl (fun K F tab => ?_)
  refine r_aload F dL_force_0 rfl ?_
  refine r_iconst (x := 0) F dL_force_2 rfl ?_
  refine r_aload_n F dL_force_3 rfl ?_
  refine r_iload_n F dL_force_4 rfl ?_
  refine r_iload_n F dL_force_5 rfl ?_
  refine r_iload_n F dL_force_6 rfl ?_
  refine r_iload F dL_force_7 rfl ?_
  refine r_iload F dL_force_9 rfl ?_
  refine r_callV5j F fMX7_force tw_847 rfl rfl rfl rfl dL_force_11 rfl rfl z16 (h) ?_
  rintro x9 v1 L1 ⟨rfl, rfl, f1, i1⟩
  refine r_i2l F dL_force_14 rfl ?_
  refine r_last F dL_force_15 ?_
  refine r_goto F dL_force_16 ?_
  refine r_iconst (x := 0) F dL_force_27 rfl ?_
  exact r_iretH F rfl dL_force_28 ⟨_, rfl, rfl, f1, i1, fun _ => up1_s1 _ _⟩
set_option maxHeartbeats 4000000 in
theorem w_force1 {G : GT} {v : VV} {L : LL} {a : AS} {x0 : Int32} {y1 y2 y3 y4 y5 : Int32} (g : GH G) (h : CX G MX7_force [.ref (gB G 0), .int y1, .int y2, .int y3, .int y4, .int y5] v L eIX (PX v L a)) : CH G ML_force [(0, 16, 19, 13), (0, 16, 23, 15)] [.ref (gB G 0), .int y1, .int y2, .int y3, .int y4, .int y5, .ref (gB G 91)] v L (gI (WF v a 1 x0)) := by
  refine ch_of g tw_846 [some (.ref (gB G 0)), some (.int y1), some (.int y2), some (.int y3), some (.int y4), some (.int y5), some (.ref (gB G 91)), none] rfl rfl rfl rfl (fun K F tab => ?_)
  refine r_aload F dL_force_0 rfl ?_
  refine r_iconst (x := 0) F dL_force_2 rfl ?_
  refine r_aload_n F dL_force_3 rfl ?_
  refine r_iload_n F dL_force_4 rfl ?_
  refine r_iload_n F dL_force_5 rfl ?_
  refine r_iload_n F dL_force_6 rfl ?_
  refine r_iload F dL_force_7 rfl ?_
  refine r_iload F dL_force_9 rfl ?_
  refine r_catchV (M' := MX7_force) (As := [.int y1, .int y2, .int y3, .int y4, .int y5]) (k := 0) (ci := 6) (T := TX7) (N := 7) (pre := []) (x := ⟨0, 16, 19, 13⟩) (suf := [⟨0, 16, 23, 15⟩]) F fMX7_force tw_847 rfl rfl rfl rfl dL_force_11 rfl rfl h (tab.trans rfl) ⟨fun z hz => absurd hz List.not_mem_nil, by decide, by decide, tw_714, tw_628⟩ ?_
  rintro v1 L1 q9 ⟨rfl, f1, i1⟩
  refine r_ast7 F dL_force_19 rfl rfl ?_
  refine r_iconst (x := 1) F dL_force_21 rfl ?_
  exact r_iretH1 F rfl dL_force_22 ⟨_, rfl, rfl, f1, i1, fun e => absurd e (by decide)⟩
set_option maxHeartbeats 4000000 in
theorem w_force2 {G : GT} {v : VV} {L : LL} {a : AS} {x0 : Int32} {y1 y2 y3 y4 y5 : Int32} (g : GH G) (h : CX G MX7_force [.ref (gB G 0), .int y1, .int y2, .int y3, .int y4, .int y5] v L eIA (PX v L a)) : CH G ML_force [(0, 16, 19, 13), (0, 16, 23, 15)] [.ref (gB G 0), .int y1, .int y2, .int y3, .int y4, .int y5, .ref (gB G 91)] v L (gI (WF v a 2 x0)) := by
  refine ch_of g tw_846 [some (.ref (gB G 0)), some (.int y1), some (.int y2), some (.int y3), some (.int y4), some (.int y5), some (.ref (gB G 91)), none] rfl rfl rfl rfl (fun K F tab => ?_)
  refine r_aload F dL_force_0 rfl ?_
  refine r_iconst (x := 0) F dL_force_2 rfl ?_
  refine r_aload_n F dL_force_3 rfl ?_
  refine r_iload_n F dL_force_4 rfl ?_
  refine r_iload_n F dL_force_5 rfl ?_
  refine r_iload_n F dL_force_6 rfl ?_
  refine r_iload F dL_force_7 rfl ?_
  refine r_iload F dL_force_9 rfl ?_
  refine r_catchV (M' := MX7_force) (As := [.int y1, .int y2, .int y3, .int y4, .int y5]) (k := 0) (ci := 6) (T := TX7) (N := 7) (pre := [⟨0, 16, 19, 13⟩]) (x := ⟨0, 16, 23, 15⟩) (suf := []) F fMX7_force tw_847 rfl rfl rfl rfl dL_force_11 rfl rfl h (tab.trans rfl) ⟨List.forall_mem_cons.mpr ⟨Or.inr ⟨by decide, _, tw_714, by decide⟩, fun z hz => absurd hz List.not_mem_nil⟩, by decide, by decide, tw_715, tw_549⟩ ?_
  rintro v1 L1 q9 ⟨rfl, f1, i1⟩
  refine r_ast7 F dL_force_23 rfl rfl ?_
  refine r_iconst (x := 2) F dL_force_25 rfl ?_
  exact r_iretH1 F rfl dL_force_26 ⟨_, rfl, rfl, f1, i1, fun e => absurd e (by decide)⟩
theorem hML_threshold : MH ML_threshold [(0, 14, 17, 13), (0, 14, 21, 15)] := ⟨tw_853, tw_73, by decide +kernel, tw_852⟩
set_option maxHeartbeats 4000000 in
theorem w_threshold0 {G : GT} {v : VV} {L : LL} {a' : AS} {x0 : Int32} {y1 y2 y3 y4 : Int32} (g : GH G) (h : CC G MX7_threshold [.ref (gB G 0), .int y1, .int y2, .int y3, .int y4] v L (gI (PC v L a' x0))) : CH G ML_threshold [(0, 14, 17, 13), (0, 14, 21, 15)] [.ref (gB G 0), .int y1, .int y2, .int y3, .int y4, .ref (gB G 91)] v L (gI (WF v a' 0 x0)) := by
  refine ch_of g tw_853 [some (.ref (gB G 0)), some (.int y1), some (.int y2), some (.int y3), some (.int y4), some (.ref (gB G 91)), none] rfl rfl rfl rfl (fun K F tab => ?_)
  refine r_aload F dL_threshold_0 rfl ?_
  refine r_iconst (x := 0) F dL_threshold_2 rfl ?_
  refine r_aload_n F dL_threshold_3 rfl ?_
  refine r_iload_n F dL_threshold_4 rfl ?_
  refine r_iload_n F dL_threshold_5 rfl ?_
  refine r_iload_n F dL_threshold_6 rfl ?_
  refine r_iload F dL_threshold_7 rfl ?_
  refine r_callV4j F fMX7_threshold tw_854 rfl rfl rfl rfl dL_threshold_9 rfl rfl z16 (h) ?_
  rintro x9 v1 L1 ⟨rfl, rfl, f1, i1⟩
  refine r_i2l F dL_threshold_12 rfl ?_
  refine r_last F dL_threshold_13 ?_
  refine r_goto F dL_threshold_14 ?_
  refine r_iconst (x := 0) F dL_threshold_25 rfl ?_
  exact r_iretH F rfl dL_threshold_26 ⟨_, rfl, rfl, f1, i1, fun _ => up1_s1 _ _⟩
set_option maxHeartbeats 4000000 in
theorem w_threshold1 {G : GT} {v : VV} {L : LL} {a : AS} {x0 : Int32} {y1 y2 y3 y4 : Int32} (g : GH G) (h : CX G MX7_threshold [.ref (gB G 0), .int y1, .int y2, .int y3, .int y4] v L eIX (PX v L a)) : CH G ML_threshold [(0, 14, 17, 13), (0, 14, 21, 15)] [.ref (gB G 0), .int y1, .int y2, .int y3, .int y4, .ref (gB G 91)] v L (gI (WF v a 1 x0)) := by
  refine ch_of g tw_853 [some (.ref (gB G 0)), some (.int y1), some (.int y2), some (.int y3), some (.int y4), some (.ref (gB G 91)), none] rfl rfl rfl rfl (fun K F tab => ?_)
  refine r_aload F dL_threshold_0 rfl ?_
  refine r_iconst (x := 0) F dL_threshold_2 rfl ?_
  refine r_aload_n F dL_threshold_3 rfl ?_
  refine r_iload_n F dL_threshold_4 rfl ?_
  refine r_iload_n F dL_threshold_5 rfl ?_
  refine r_iload_n F dL_threshold_6 rfl ?_
  refine r_iload F dL_threshold_7 rfl ?_
  refine r_catchV (M' := MX7_threshold) (As := [.int y1, .int y2, .int y3, .int y4]) (k := 0) (ci := 6) (T := TX7) (N := 7) (pre := []) (x := ⟨0, 14, 17, 13⟩) (suf := [⟨0, 14, 21, 15⟩]) F fMX7_threshold tw_854 rfl rfl rfl rfl dL_threshold_9 rfl rfl h (tab.trans rfl) ⟨fun z hz => absurd hz List.not_mem_nil, by decide, by decide, tw_714, tw_628⟩ ?_
  rintro v1 L1 q9 ⟨rfl, f1, i1⟩
  refine r_ast6 F dL_threshold_17 rfl rfl ?_
  refine r_iconst (x := 1) F dL_threshold_19 rfl ?_
  exact r_iretH1 F rfl dL_threshold_20 ⟨_, rfl, rfl, f1, i1, fun e => absurd e (by decide)⟩
set_option maxHeartbeats 4000000 in
theorem w_threshold2 {G : GT} {v : VV} {L : LL} {a : AS} {x0 : Int32} {y1 y2 y3 y4 : Int32} (g : GH G) (h : CX G MX7_threshold [.ref (gB G 0), .int y1, .int y2, .int y3, .int y4] v L eIA (PX v L a)) : CH G ML_threshold [(0, 14, 17, 13), (0, 14, 21, 15)] [.ref (gB G 0), .int y1, .int y2, .int y3, .int y4, .ref (gB G 91)] v L (gI (WF v a 2 x0)) := by
  refine ch_of g tw_853 [some (.ref (gB G 0)), some (.int y1), some (.int y2), some (.int y3), some (.int y4), some (.ref (gB G 91)), none] rfl rfl rfl rfl (fun K F tab => ?_)
  refine r_aload F dL_threshold_0 rfl ?_
  refine r_iconst (x := 0) F dL_threshold_2 rfl ?_
  refine r_aload_n F dL_threshold_3 rfl ?_
  refine r_iload_n F dL_threshold_4 rfl ?_
  refine r_iload_n F dL_threshold_5 rfl ?_
  refine r_iload_n F dL_threshold_6 rfl ?_
  refine r_iload F dL_threshold_7 rfl ?_
  refine r_catchV (M' := MX7_threshold) (As := [.int y1, .int y2, .int y3, .int y4]) (k := 0) (ci := 6) (T := TX7) (N := 7) (pre := [⟨0, 14, 17, 13⟩]) (x := ⟨0, 14, 21, 15⟩) (suf := []) F fMX7_threshold tw_854 rfl rfl rfl rfl dL_threshold_9 rfl rfl h (tab.trans rfl) ⟨List.forall_mem_cons.mpr ⟨Or.inr ⟨by decide, _, tw_714, by decide⟩, fun z hz => absurd hz List.not_mem_nil⟩, by decide, by decide, tw_715, tw_549⟩ ?_
  rintro v1 L1 q9 ⟨rfl, f1, i1⟩
  refine r_ast6 F dL_threshold_21 rfl rfl ?_
  refine r_iconst (x := 2) F dL_threshold_23 rfl ?_
  exact r_iretH1 F rfl dL_threshold_24 ⟨_, rfl, rfl, f1, i1, fun e => absurd e (by decide)⟩
theorem hML_advice : MH ML_advice [(0, 9, 12, 13)] := ⟨tw_857, tw_73, by decide +kernel, tw_856⟩
set_option maxHeartbeats 4000000 in
theorem w_advice0 {G : GT} {v : VV} {L : LL} {a' : AS} {x0 : Int32} {y1 : Int32} (g : GH G) (h : CC G MX7_advice [.ref (gB G 0), .int y1] v L (gI (PC v L a' x0))) : CH G ML_advice [(0, 9, 12, 13)] [.ref (gB G 0), .int y1, .ref (gB G 91)] v L (gI (WF v a' 0 x0)) := by
  refine ch_of g tw_857 [some (.ref (gB G 0)), some (.int y1), some (.ref (gB G 91)), none] rfl rfl rfl rfl (fun K F tab => ?_)
  refine r_aload_n F dL_advice_0 rfl ?_
  refine r_iconst (x := 0) F dL_advice_1 rfl ?_
  refine r_aload_n F dL_advice_2 rfl ?_
  refine r_iload_n F dL_advice_3 rfl ?_
  refine r_callV1j F fMX7_advice tw_858 rfl rfl rfl rfl dL_advice_4 rfl rfl z16 (h) ?_
  rintro x9 v1 L1 ⟨rfl, rfl, f1, i1⟩
  refine r_i2l F dL_advice_7 rfl ?_
  refine r_last F dL_advice_8 ?_
  refine r_goto F dL_advice_9 ?_
  refine r_iconst (x := 0) F dL_advice_15 rfl ?_
  exact r_iretH F rfl dL_advice_16 ⟨_, rfl, rfl, f1, i1, fun _ => up1_s1 _ _⟩
set_option maxHeartbeats 4000000 in
theorem w_advice1 {G : GT} {v : VV} {L : LL} {a : AS} {x0 : Int32} {y1 : Int32} (g : GH G) (h : CX G MX7_advice [.ref (gB G 0), .int y1] v L eIX (PX v L a)) : CH G ML_advice [(0, 9, 12, 13)] [.ref (gB G 0), .int y1, .ref (gB G 91)] v L (gI (WF v a 1 x0)) := by
  refine ch_of g tw_857 [some (.ref (gB G 0)), some (.int y1), some (.ref (gB G 91)), none] rfl rfl rfl rfl (fun K F tab => ?_)
  refine r_aload_n F dL_advice_0 rfl ?_
  refine r_iconst (x := 0) F dL_advice_1 rfl ?_
  refine r_aload_n F dL_advice_2 rfl ?_
  refine r_iload_n F dL_advice_3 rfl ?_
  refine r_catchV (M' := MX7_advice) (As := [.int y1]) (k := 0) (ci := 6) (T := TX7) (N := 7) (pre := []) (x := ⟨0, 9, 12, 13⟩) (suf := []) F fMX7_advice tw_858 rfl rfl rfl rfl dL_advice_4 rfl rfl h (tab.trans rfl) ⟨fun z hz => absurd hz List.not_mem_nil, by decide, by decide, tw_714, tw_628⟩ ?_
  rintro v1 L1 q9 ⟨rfl, f1, i1⟩
  refine r_ast3 F dL_advice_12 rfl rfl ?_
  refine r_iconst (x := 1) F dL_advice_13 rfl ?_
  exact r_iretH1 F rfl dL_advice_14 ⟨_, rfl, rfl, f1, i1, fun e => absurd e (by decide)⟩
theorem hML_refuted : MH ML_refuted [(0, 10, 13, 13), (0, 10, 17, 15)] := ⟨tw_861, tw_73, by decide +kernel, tw_860⟩
set_option maxHeartbeats 4000000 in
theorem w_refuted0 {G : GT} {v : VV} {L : LL} {a' : AS} {x0 : Int32} {y1 y2 : Int32} (g : GH G) (h : CC G MX7_refuted [.ref (gB G 0), .int y1, .int y2] v L (gI (PC v L a' x0))) : CH G ML_refuted [(0, 10, 13, 13), (0, 10, 17, 15)] [.ref (gB G 0), .int y1, .int y2, .ref (gB G 91)] v L (gI (WF v a' 0 x0)) := by
  refine ch_of g tw_861 [some (.ref (gB G 0)), some (.int y1), some (.int y2), some (.ref (gB G 91)), none] rfl rfl rfl rfl (fun K F tab => ?_)
  refine r_aload_n F dL_refuted_0 rfl ?_
  refine r_iconst (x := 0) F dL_refuted_1 rfl ?_
  refine r_aload_n F dL_refuted_2 rfl ?_
  refine r_iload_n F dL_refuted_3 rfl ?_
  refine r_iload_n F dL_refuted_4 rfl ?_
  refine r_callV2j F fMX7_refuted tw_862 rfl rfl rfl rfl dL_refuted_5 rfl rfl z16 (h) ?_
  rintro x9 v1 L1 ⟨rfl, rfl, f1, i1⟩
  refine r_i2l F dL_refuted_8 rfl ?_
  refine r_last F dL_refuted_9 ?_
  refine r_goto F dL_refuted_10 ?_
  refine r_iconst (x := 0) F dL_refuted_21 rfl ?_
  exact r_iretH F rfl dL_refuted_22 ⟨_, rfl, rfl, f1, i1, fun _ => up1_s1 _ _⟩
set_option maxHeartbeats 4000000 in
theorem w_refuted1 {G : GT} {v : VV} {L : LL} {a : AS} {x0 : Int32} {y1 y2 : Int32} (g : GH G) (h : CX G MX7_refuted [.ref (gB G 0), .int y1, .int y2] v L eIX (PX v L a)) : CH G ML_refuted [(0, 10, 13, 13), (0, 10, 17, 15)] [.ref (gB G 0), .int y1, .int y2, .ref (gB G 91)] v L (gI (WF v a 1 x0)) := by
  refine ch_of g tw_861 [some (.ref (gB G 0)), some (.int y1), some (.int y2), some (.ref (gB G 91)), none] rfl rfl rfl rfl (fun K F tab => ?_)
  refine r_aload_n F dL_refuted_0 rfl ?_
  refine r_iconst (x := 0) F dL_refuted_1 rfl ?_
  refine r_aload_n F dL_refuted_2 rfl ?_
  refine r_iload_n F dL_refuted_3 rfl ?_
  refine r_iload_n F dL_refuted_4 rfl ?_
  refine r_catchV (M' := MX7_refuted) (As := [.int y1, .int y2]) (k := 0) (ci := 6) (T := TX7) (N := 7) (pre := []) (x := ⟨0, 10, 13, 13⟩) (suf := [⟨0, 10, 17, 15⟩]) F fMX7_refuted tw_862 rfl rfl rfl rfl dL_refuted_5 rfl rfl h (tab.trans rfl) ⟨fun z hz => absurd hz List.not_mem_nil, by decide, by decide, tw_714, tw_628⟩ ?_
  rintro v1 L1 q9 ⟨rfl, f1, i1⟩
  refine r_ast4 F dL_refuted_13 rfl rfl ?_
  refine r_iconst (x := 1) F dL_refuted_15 rfl ?_
  exact r_iretH1 F rfl dL_refuted_16 ⟨_, rfl, rfl, f1, i1, fun e => absurd e (by decide)⟩
set_option maxHeartbeats 4000000 in
theorem w_refuted2 {G : GT} {v : VV} {L : LL} {a : AS} {x0 : Int32} {y1 y2 : Int32} (g : GH G) (h : CX G MX7_refuted [.ref (gB G 0), .int y1, .int y2] v L eIA (PX v L a)) : CH G ML_refuted [(0, 10, 13, 13), (0, 10, 17, 15)] [.ref (gB G 0), .int y1, .int y2, .ref (gB G 91)] v L (gI (WF v a 2 x0)) := by
  refine ch_of g tw_861 [some (.ref (gB G 0)), some (.int y1), some (.int y2), some (.ref (gB G 91)), none] rfl rfl rfl rfl (fun K F tab => ?_)
  refine r_aload_n F dL_refuted_0 rfl ?_
  refine r_iconst (x := 0) F dL_refuted_1 rfl ?_
  refine r_aload_n F dL_refuted_2 rfl ?_
  refine r_iload_n F dL_refuted_3 rfl ?_
  refine r_iload_n F dL_refuted_4 rfl ?_
  refine r_catchV (M' := MX7_refuted) (As := [.int y1, .int y2]) (k := 0) (ci := 6) (T := TX7) (N := 7) (pre := [⟨0, 10, 13, 13⟩]) (x := ⟨0, 10, 17, 15⟩) (suf := []) F fMX7_refuted tw_862 rfl rfl rfl rfl dL_refuted_5 rfl rfl h (tab.trans rfl) ⟨List.forall_mem_cons.mpr ⟨Or.inr ⟨by decide, _, tw_714, by decide⟩, fun z hz => absurd hz List.not_mem_nil⟩, by decide, by decide, tw_715, tw_549⟩ ?_
  rintro v1 L1 q9 ⟨rfl, f1, i1⟩
  refine r_ast4 F dL_refuted_17 rfl rfl ?_
  refine r_iconst (x := 2) F dL_refuted_19 rfl ?_
  exact r_iretH1 F rfl dL_refuted_20 ⟨_, rfl, rfl, f1, i1, fun e => absurd e (by decide)⟩
theorem hML_bestMove : MH ML_bestMove [(0, 10, 13, 13), (0, 10, 17, 15)] := ⟨tw_865, tw_73, by decide +kernel, tw_864⟩
set_option maxHeartbeats 4000000 in
theorem w_bestMove0 {G : GT} {v : VV} {L : LL} {a' : AS} {x0 : Int32} {y1 y2 : Int32} (g : GH G) (h : CC G MX7_bestMove [.ref (gB G 0), .int y1, .int y2] v L (gI (PC v L a' x0))) : CH G ML_bestMove [(0, 10, 13, 13), (0, 10, 17, 15)] [.ref (gB G 0), .int y1, .int y2, .ref (gB G 91)] v L (gI (WF v a' 0 x0)) := by
  refine ch_of g tw_865 [some (.ref (gB G 0)), some (.int y1), some (.int y2), some (.ref (gB G 91)), none] rfl rfl rfl rfl (fun K F tab => ?_)
  refine r_aload_n F dL_bestMove_0 rfl ?_
  refine r_iconst (x := 0) F dL_bestMove_1 rfl ?_
  refine r_aload_n F dL_bestMove_2 rfl ?_
  refine r_iload_n F dL_bestMove_3 rfl ?_
  refine r_iload_n F dL_bestMove_4 rfl ?_
  refine r_callV2j F fMX7_bestMove tw_866 rfl rfl rfl rfl dL_bestMove_5 rfl rfl z16 (h) ?_
  rintro x9 v1 L1 ⟨rfl, rfl, f1, i1⟩
  refine r_i2l F dL_bestMove_8 rfl ?_
  refine r_last F dL_bestMove_9 ?_
  refine r_goto F dL_bestMove_10 ?_
  refine r_iconst (x := 0) F dL_bestMove_21 rfl ?_
  exact r_iretH F rfl dL_bestMove_22 ⟨_, rfl, rfl, f1, i1, fun _ => up1_s1 _ _⟩
set_option maxHeartbeats 4000000 in
theorem w_bestMove1 {G : GT} {v : VV} {L : LL} {a : AS} {x0 : Int32} {y1 y2 : Int32} (g : GH G) (h : CX G MX7_bestMove [.ref (gB G 0), .int y1, .int y2] v L eIX (PX v L a)) : CH G ML_bestMove [(0, 10, 13, 13), (0, 10, 17, 15)] [.ref (gB G 0), .int y1, .int y2, .ref (gB G 91)] v L (gI (WF v a 1 x0)) := by
  refine ch_of g tw_865 [some (.ref (gB G 0)), some (.int y1), some (.int y2), some (.ref (gB G 91)), none] rfl rfl rfl rfl (fun K F tab => ?_)
  refine r_aload_n F dL_bestMove_0 rfl ?_
  refine r_iconst (x := 0) F dL_bestMove_1 rfl ?_
  refine r_aload_n F dL_bestMove_2 rfl ?_
  refine r_iload_n F dL_bestMove_3 rfl ?_
  refine r_iload_n F dL_bestMove_4 rfl ?_
  refine r_catchV (M' := MX7_bestMove) (As := [.int y1, .int y2]) (k := 0) (ci := 6) (T := TX7) (N := 7) (pre := []) (x := ⟨0, 10, 13, 13⟩) (suf := [⟨0, 10, 17, 15⟩]) F fMX7_bestMove tw_866 rfl rfl rfl rfl dL_bestMove_5 rfl rfl h (tab.trans rfl) ⟨fun z hz => absurd hz List.not_mem_nil, by decide, by decide, tw_714, tw_628⟩ ?_
  rintro v1 L1 q9 ⟨rfl, f1, i1⟩
  refine r_ast4 F dL_bestMove_13 rfl rfl ?_
  refine r_iconst (x := 1) F dL_bestMove_15 rfl ?_
  exact r_iretH1 F rfl dL_bestMove_16 ⟨_, rfl, rfl, f1, i1, fun e => absurd e (by decide)⟩
set_option maxHeartbeats 4000000 in
theorem w_bestMove2 {G : GT} {v : VV} {L : LL} {a : AS} {x0 : Int32} {y1 y2 : Int32} (g : GH G) (h : CX G MX7_bestMove [.ref (gB G 0), .int y1, .int y2] v L eIA (PX v L a)) : CH G ML_bestMove [(0, 10, 13, 13), (0, 10, 17, 15)] [.ref (gB G 0), .int y1, .int y2, .ref (gB G 91)] v L (gI (WF v a 2 x0)) := by
  refine ch_of g tw_865 [some (.ref (gB G 0)), some (.int y1), some (.int y2), some (.ref (gB G 91)), none] rfl rfl rfl rfl (fun K F tab => ?_)
  refine r_aload_n F dL_bestMove_0 rfl ?_
  refine r_iconst (x := 0) F dL_bestMove_1 rfl ?_
  refine r_aload_n F dL_bestMove_2 rfl ?_
  refine r_iload_n F dL_bestMove_3 rfl ?_
  refine r_iload_n F dL_bestMove_4 rfl ?_
  refine r_catchV (M' := MX7_bestMove) (As := [.int y1, .int y2]) (k := 0) (ci := 6) (T := TX7) (N := 7) (pre := [⟨0, 10, 13, 13⟩]) (x := ⟨0, 10, 17, 15⟩) (suf := []) F fMX7_bestMove tw_866 rfl rfl rfl rfl dL_bestMove_5 rfl rfl h (tab.trans rfl) ⟨List.forall_mem_cons.mpr ⟨Or.inr ⟨by decide, _, tw_714, by decide⟩, fun z hz => absurd hz List.not_mem_nil⟩, by decide, by decide, tw_715, tw_549⟩ ?_
  rintro v1 L1 q9 ⟨rfl, f1, i1⟩
  refine r_ast4 F dL_bestMove_17 rfl rfl ?_
  refine r_iconst (x := 2) F dL_bestMove_19 rfl ?_
  exact r_iretH1 F rfl dL_bestMove_20 ⟨_, rfl, rfl, f1, i1, fun e => absurd e (by decide)⟩
theorem hML_winIn : MH ML_winIn [(0, 9, 12, 13)] := ⟨tw_869, tw_73, by decide +kernel, tw_868⟩
set_option maxHeartbeats 4000000 in
theorem w_winIn0 {G : GT} {v : VV} {L : LL} {a' : AS} {x0 : Int32} {y1 : Int32} (g : GH G) (h : CC G MX7_winIn [.ref (gB G 0), .int y1] v L (gI (PC v L a' x0))) : CH G ML_winIn [(0, 9, 12, 13)] [.ref (gB G 0), .int y1, .ref (gB G 91)] v L (gI (WF v a' 0 x0)) := by
  refine ch_of g tw_869 [some (.ref (gB G 0)), some (.int y1), some (.ref (gB G 91)), none] rfl rfl rfl rfl (fun K F tab => ?_)
  refine r_aload_n F dL_winIn_0 rfl ?_
  refine r_iconst (x := 0) F dL_winIn_1 rfl ?_
  refine r_aload_n F dL_winIn_2 rfl ?_
  refine r_iload_n F dL_winIn_3 rfl ?_
  refine r_callV1j F fMX7_winIn tw_870 rfl rfl rfl rfl dL_winIn_4 rfl rfl z16 (h) ?_
  rintro x9 v1 L1 ⟨rfl, rfl, f1, i1⟩
  refine r_i2l F dL_winIn_7 rfl ?_
  refine r_last F dL_winIn_8 ?_
  refine r_goto F dL_winIn_9 ?_
  refine r_iconst (x := 0) F dL_winIn_15 rfl ?_
  exact r_iretH F rfl dL_winIn_16 ⟨_, rfl, rfl, f1, i1, fun _ => up1_s1 _ _⟩
set_option maxHeartbeats 4000000 in
theorem w_winIn1 {G : GT} {v : VV} {L : LL} {a : AS} {x0 : Int32} {y1 : Int32} (g : GH G) (h : CX G MX7_winIn [.ref (gB G 0), .int y1] v L eIX (PX v L a)) : CH G ML_winIn [(0, 9, 12, 13)] [.ref (gB G 0), .int y1, .ref (gB G 91)] v L (gI (WF v a 1 x0)) := by
  refine ch_of g tw_869 [some (.ref (gB G 0)), some (.int y1), some (.ref (gB G 91)), none] rfl rfl rfl rfl (fun K F tab => ?_)
  refine r_aload_n F dL_winIn_0 rfl ?_
  refine r_iconst (x := 0) F dL_winIn_1 rfl ?_
  refine r_aload_n F dL_winIn_2 rfl ?_
  refine r_iload_n F dL_winIn_3 rfl ?_
  refine r_catchV (M' := MX7_winIn) (As := [.int y1]) (k := 0) (ci := 6) (T := TX7) (N := 7) (pre := []) (x := ⟨0, 9, 12, 13⟩) (suf := []) F fMX7_winIn tw_870 rfl rfl rfl rfl dL_winIn_4 rfl rfl h (tab.trans rfl) ⟨fun z hz => absurd hz List.not_mem_nil, by decide, by decide, tw_714, tw_628⟩ ?_
  rintro v1 L1 q9 ⟨rfl, f1, i1⟩
  refine r_ast3 F dL_winIn_12 rfl rfl ?_
  refine r_iconst (x := 1) F dL_winIn_13 rfl ?_
  exact r_iretH1 F rfl dL_winIn_14 ⟨_, rfl, rfl, f1, i1, fun e => absurd e (by decide)⟩
