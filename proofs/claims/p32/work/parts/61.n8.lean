section GD
variable {X : Cx} {own : String} {b : ByteArray} {mx : Nat} {rt : Option FieldType} {nm : String} {R : Room} {Qf : List Frame → Array Value → State → State → Prop} {c n pc : Nat} {L : List (Nat × Value)} {st : List Value} {h : Hp}
theorem g_ishr {x y : Int32} (hd : decode b pc = .ok (.ishr, 1)) (k : G X own b mx rt nm R Qf c n (pc + 1) L (.int (x >>> (y &&& 31)) :: st) h) : G X own b mx rt nm R Qf c n pc L (.int y :: .int x :: st) h :=
  fun p ev s m args below meth cd H locs ls hI hR hS hl => lv_ishr hI.1 hI.2.1 hd (k p ev s m args below meth cd H locs ls hI hR hS hl)
theorem g_ifD_ne {x : Int32} (h0 : decode b pc = .ok (.ifCond .ne 7, 3)) (h1 : decode b (pc + 3) = .ok (.iconst 1, 1)) (h2 : decode b (pc + 4) = .ok (.goto 4, 3)) (h3 : decode b (pc + 7) = .ok (.iconst 0, 1)) (k : G X own b mx rt nm R Qf c n (pc + 8) L (.int (bI (decide (x = 0))) :: st) h) : G X own b mx rt nm R Qf c n pc L (.int x :: st) h := by
  refine g_if_ne (tgt := pc + 7) h0 (by omega) (fun cc => ?_) (fun cc => ?_)
  · refine g_iconst (v := 0) h3 (by decide) ?_
    have e : (0 : Int32) = bI (decide (x = 0)) := bI_f cc
    rw [e]
    exact k
  · refine g_iconst (v := 1) h1 (by decide) ?_
    refine g_goto (tgt := pc + 8) h2 (by omega) ?_
    have e : (1 : Int32) = bI (decide (x = 0)) := bI_t cc
    rw [e]
    exact k
theorem g_icmpD_ne {x y : Int32} (h0 : decode b pc = .ok (.if_icmp .ne 7, 3)) (h1 : decode b (pc + 3) = .ok (.iconst 1, 1)) (h2 : decode b (pc + 4) = .ok (.goto 4, 3)) (h3 : decode b (pc + 7) = .ok (.iconst 0, 1)) (k : G X own b mx rt nm R Qf c n (pc + 8) L (.int (bI (decide (x = y))) :: st) h) : G X own b mx rt nm R Qf c n pc L (.int y :: .int x :: st) h := by
  refine g_icmp_ne (tgt := pc + 7) h0 (by omega) (fun cc => ?_) (fun cc => ?_)
  · refine g_iconst (v := 0) h3 (by decide) ?_
    have e : (0 : Int32) = bI (decide (x = y)) := bI_f cc
    rw [e]
    exact k
  · refine g_iconst (v := 1) h1 (by decide) ?_
    refine g_goto (tgt := pc + 8) h2 (by omega) ?_
    have e : (1 : Int32) = bI (decide (x = y)) := bI_t cc
    rw [e]
    exact k
theorem g_ifD_eq {x : Int32} (h0 : decode b pc = .ok (.ifCond .eq 7, 3)) (h1 : decode b (pc + 3) = .ok (.iconst 1, 1)) (h2 : decode b (pc + 4) = .ok (.goto 4, 3)) (h3 : decode b (pc + 7) = .ok (.iconst 0, 1)) (k : G X own b mx rt nm R Qf c n (pc + 8) L (.int (bI (decide (¬ x = 0))) :: st) h) : G X own b mx rt nm R Qf c n pc L (.int x :: st) h := by
  refine g_if_eq (tgt := pc + 7) h0 (by omega) (fun cc => ?_) (fun cc => ?_)
  · refine g_iconst (v := 0) h3 (by decide) ?_
    have e : (0 : Int32) = bI (decide (¬ x = 0)) := bI_f (fun z => z cc)
    rw [e]
    exact k
  · refine g_iconst (v := 1) h1 (by decide) ?_
    refine g_goto (tgt := pc + 8) h2 (by omega) ?_
    have e : (1 : Int32) = bI (decide (¬ x = 0)) := bI_t cc
    rw [e]
    exact k
theorem g_icmpD_eq {x y : Int32} (h0 : decode b pc = .ok (.if_icmp .eq 7, 3)) (h1 : decode b (pc + 3) = .ok (.iconst 1, 1)) (h2 : decode b (pc + 4) = .ok (.goto 4, 3)) (h3 : decode b (pc + 7) = .ok (.iconst 0, 1)) (k : G X own b mx rt nm R Qf c n (pc + 8) L (.int (bI (decide (¬ x = y))) :: st) h) : G X own b mx rt nm R Qf c n pc L (.int y :: .int x :: st) h := by
  refine g_icmp_eq (tgt := pc + 7) h0 (by omega) (fun cc => ?_) (fun cc => ?_)
  · refine g_iconst (v := 0) h3 (by decide) ?_
    have e : (0 : Int32) = bI (decide (¬ x = y)) := bI_f (fun z => z cc)
    rw [e]
    exact k
  · refine g_iconst (v := 1) h1 (by decide) ?_
    refine g_goto (tgt := pc + 8) h2 (by omega) ?_
    have e : (1 : Int32) = bI (decide (¬ x = y)) := bI_t cc
    rw [e]
    exact k
theorem g_ifD_lt {x : Int32} (h0 : decode b pc = .ok (.ifCond .lt 7, 3)) (h1 : decode b (pc + 3) = .ok (.iconst 1, 1)) (h2 : decode b (pc + 4) = .ok (.goto 4, 3)) (h3 : decode b (pc + 7) = .ok (.iconst 0, 1)) (k : G X own b mx rt nm R Qf c n (pc + 8) L (.int (bI (decide (¬ x < 0))) :: st) h) : G X own b mx rt nm R Qf c n pc L (.int x :: st) h := by
  refine g_if_lt (tgt := pc + 7) h0 (by omega) (fun cc => ?_) (fun cc => ?_)
  · refine g_iconst (v := 0) h3 (by decide) ?_
    have e : (0 : Int32) = bI (decide (¬ x < 0)) := bI_f (fun z => z cc)
    rw [e]
    exact k
  · refine g_iconst (v := 1) h1 (by decide) ?_
    refine g_goto (tgt := pc + 8) h2 (by omega) ?_
    have e : (1 : Int32) = bI (decide (¬ x < 0)) := bI_t cc
    rw [e]
    exact k
theorem g_icmpD_lt {x y : Int32} (h0 : decode b pc = .ok (.if_icmp .lt 7, 3)) (h1 : decode b (pc + 3) = .ok (.iconst 1, 1)) (h2 : decode b (pc + 4) = .ok (.goto 4, 3)) (h3 : decode b (pc + 7) = .ok (.iconst 0, 1)) (k : G X own b mx rt nm R Qf c n (pc + 8) L (.int (bI (decide (¬ x < y))) :: st) h) : G X own b mx rt nm R Qf c n pc L (.int y :: .int x :: st) h := by
  refine g_icmp_lt (tgt := pc + 7) h0 (by omega) (fun cc => ?_) (fun cc => ?_)
  · refine g_iconst (v := 0) h3 (by decide) ?_
    have e : (0 : Int32) = bI (decide (¬ x < y)) := bI_f (fun z => z cc)
    rw [e]
    exact k
  · refine g_iconst (v := 1) h1 (by decide) ?_
    refine g_goto (tgt := pc + 8) h2 (by omega) ?_
    have e : (1 : Int32) = bI (decide (¬ x < y)) := bI_t cc
    rw [e]
    exact k
theorem g_ifD_le {x : Int32} (h0 : decode b pc = .ok (.ifCond .le 7, 3)) (h1 : decode b (pc + 3) = .ok (.iconst 1, 1)) (h2 : decode b (pc + 4) = .ok (.goto 4, 3)) (h3 : decode b (pc + 7) = .ok (.iconst 0, 1)) (k : G X own b mx rt nm R Qf c n (pc + 8) L (.int (bI (decide (¬ x ≤ 0))) :: st) h) : G X own b mx rt nm R Qf c n pc L (.int x :: st) h := by
  refine g_if_le (tgt := pc + 7) h0 (by omega) (fun cc => ?_) (fun cc => ?_)
  · refine g_iconst (v := 0) h3 (by decide) ?_
    have e : (0 : Int32) = bI (decide (¬ x ≤ 0)) := bI_f (fun z => z cc)
    rw [e]
    exact k
  · refine g_iconst (v := 1) h1 (by decide) ?_
    refine g_goto (tgt := pc + 8) h2 (by omega) ?_
    have e : (1 : Int32) = bI (decide (¬ x ≤ 0)) := bI_t cc
    rw [e]
    exact k
theorem g_icmpD_le {x y : Int32} (h0 : decode b pc = .ok (.if_icmp .le 7, 3)) (h1 : decode b (pc + 3) = .ok (.iconst 1, 1)) (h2 : decode b (pc + 4) = .ok (.goto 4, 3)) (h3 : decode b (pc + 7) = .ok (.iconst 0, 1)) (k : G X own b mx rt nm R Qf c n (pc + 8) L (.int (bI (decide (¬ x ≤ y))) :: st) h) : G X own b mx rt nm R Qf c n pc L (.int y :: .int x :: st) h := by
  refine g_icmp_le (tgt := pc + 7) h0 (by omega) (fun cc => ?_) (fun cc => ?_)
  · refine g_iconst (v := 0) h3 (by decide) ?_
    have e : (0 : Int32) = bI (decide (¬ x ≤ y)) := bI_f (fun z => z cc)
    rw [e]
    exact k
  · refine g_iconst (v := 1) h1 (by decide) ?_
    refine g_goto (tgt := pc + 8) h2 (by omega) ?_
    have e : (1 : Int32) = bI (decide (¬ x ≤ y)) := bI_t cc
    rw [e]
    exact k
theorem g_ifD_gt {x : Int32} (h0 : decode b pc = .ok (.ifCond .gt 7, 3)) (h1 : decode b (pc + 3) = .ok (.iconst 1, 1)) (h2 : decode b (pc + 4) = .ok (.goto 4, 3)) (h3 : decode b (pc + 7) = .ok (.iconst 0, 1)) (k : G X own b mx rt nm R Qf c n (pc + 8) L (.int (bI (decide (¬ 0 < x))) :: st) h) : G X own b mx rt nm R Qf c n pc L (.int x :: st) h := by
  refine g_if_gt (tgt := pc + 7) h0 (by omega) (fun cc => ?_) (fun cc => ?_)
  · refine g_iconst (v := 0) h3 (by decide) ?_
    have e : (0 : Int32) = bI (decide (¬ 0 < x)) := bI_f (fun z => z cc)
    rw [e]
    exact k
  · refine g_iconst (v := 1) h1 (by decide) ?_
    refine g_goto (tgt := pc + 8) h2 (by omega) ?_
    have e : (1 : Int32) = bI (decide (¬ 0 < x)) := bI_t cc
    rw [e]
    exact k
theorem g_icmpD_gt {x y : Int32} (h0 : decode b pc = .ok (.if_icmp .gt 7, 3)) (h1 : decode b (pc + 3) = .ok (.iconst 1, 1)) (h2 : decode b (pc + 4) = .ok (.goto 4, 3)) (h3 : decode b (pc + 7) = .ok (.iconst 0, 1)) (k : G X own b mx rt nm R Qf c n (pc + 8) L (.int (bI (decide (¬ y < x))) :: st) h) : G X own b mx rt nm R Qf c n pc L (.int y :: .int x :: st) h := by
  refine g_icmp_gt (tgt := pc + 7) h0 (by omega) (fun cc => ?_) (fun cc => ?_)
  · refine g_iconst (v := 0) h3 (by decide) ?_
    have e : (0 : Int32) = bI (decide (¬ y < x)) := bI_f (fun z => z cc)
    rw [e]
    exact k
  · refine g_iconst (v := 1) h1 (by decide) ?_
    refine g_goto (tgt := pc + 8) h2 (by omega) ?_
    have e : (1 : Int32) = bI (decide (¬ y < x)) := bI_t cc
    rw [e]
    exact k
theorem g_ifD_ge {x : Int32} (h0 : decode b pc = .ok (.ifCond .ge 7, 3)) (h1 : decode b (pc + 3) = .ok (.iconst 1, 1)) (h2 : decode b (pc + 4) = .ok (.goto 4, 3)) (h3 : decode b (pc + 7) = .ok (.iconst 0, 1)) (k : G X own b mx rt nm R Qf c n (pc + 8) L (.int (bI (decide (¬ 0 ≤ x))) :: st) h) : G X own b mx rt nm R Qf c n pc L (.int x :: st) h := by
  refine g_if_ge (tgt := pc + 7) h0 (by omega) (fun cc => ?_) (fun cc => ?_)
  · refine g_iconst (v := 0) h3 (by decide) ?_
    have e : (0 : Int32) = bI (decide (¬ 0 ≤ x)) := bI_f (fun z => z cc)
    rw [e]
    exact k
  · refine g_iconst (v := 1) h1 (by decide) ?_
    refine g_goto (tgt := pc + 8) h2 (by omega) ?_
    have e : (1 : Int32) = bI (decide (¬ 0 ≤ x)) := bI_t cc
    rw [e]
    exact k
theorem g_icmpD_ge {x y : Int32} (h0 : decode b pc = .ok (.if_icmp .ge 7, 3)) (h1 : decode b (pc + 3) = .ok (.iconst 1, 1)) (h2 : decode b (pc + 4) = .ok (.goto 4, 3)) (h3 : decode b (pc + 7) = .ok (.iconst 0, 1)) (k : G X own b mx rt nm R Qf c n (pc + 8) L (.int (bI (decide (¬ y ≤ x))) :: st) h) : G X own b mx rt nm R Qf c n pc L (.int y :: .int x :: st) h := by
  refine g_icmp_ge (tgt := pc + 7) h0 (by omega) (fun cc => ?_) (fun cc => ?_)
  · refine g_iconst (v := 0) h3 (by decide) ?_
    have e : (0 : Int32) = bI (decide (¬ y ≤ x)) := bI_f (fun z => z cc)
    rw [e]
    exact k
  · refine g_iconst (v := 1) h1 (by decide) ?_
    refine g_goto (tgt := pc + 8) h2 (by omega) ?_
    have e : (1 : Int32) = bI (decide (¬ y ≤ x)) := bI_t cc
    rw [e]
    exact k
end GD
