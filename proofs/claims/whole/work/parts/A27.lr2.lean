/-! the class: how strongly a sign binds -/
def stI (x : Int32) : Nat := if x = 124 then 1 else if x = 38 then 2 else if x = 33 then 3 else if x = 61 ∨ x = 60 ∨ x = 62 then 4 else if x = 43 ∨ x = 45 then 5 else if x = 42 ∨ x = 47 then 6 else 0
set_option maxRecDepth 20000 in
set_option maxHeartbeats 1000000 in
theorem d_stren {G : Gt} {l : Launch} {Z : Zt} {R : Rt} {I : It} {L : Lt} {post : Pt'} {x : Int32} (h : post (some (.int (nI (stI x)))) Z R I L) : Cx G l mX4_strengthOf 1 0 0 [.int x] Z R I L post := by
  refine Cx.of (by decide +kernel) (by exact Nat.le_of_ble_eq_true rfl) ?_
  refine Sx.iload_n dX4_strengthOf_0 rfl ?_
  by_cases k1_33 : x = 33
  · refine Sx.lookup (t := 96) dX4_strengthOf_1 (by decide) (o := 95) (by rw [k1_33]; decide) (by decide) ?_
    refine Sx.iconst (v := 3) dX4_strengthOf_96 (by decide) ?_
    refine Sx.iret dX4_strengthOf_97 rfl rfl ?_
    exact pXX (congrArg nI (show stI x = 3 by unfold stI; simp [*])) h
  by_cases k1_38 : x = 38
  · refine Sx.lookup (t := 94) dX4_strengthOf_1 (by decide) (o := 93) (by rw [k1_38]; decide) (by decide) ?_
    refine Sx.iconst (v := 2) dX4_strengthOf_94 (by decide) ?_
    refine Sx.iret dX4_strengthOf_95 rfl rfl ?_
    exact pXX (congrArg nI (show stI x = 2 by unfold stI; simp [*])) h
  by_cases k1_42 : x = 42
  · refine Sx.lookup (t := 102) dX4_strengthOf_1 (by decide) (o := 101) (by rw [k1_42]; decide) (by decide) ?_
    refine Sx.bipush (v := 6) dX4_strengthOf_102 (by decide) ?_
    refine Sx.iret dX4_strengthOf_104 rfl rfl ?_
    exact pXX (congrArg nI (show stI x = 6 by unfold stI; simp [*])) h
  by_cases k1_43 : x = 43
  · refine Sx.lookup (t := 100) dX4_strengthOf_1 (by decide) (o := 99) (by rw [k1_43]; decide) (by decide) ?_
    refine Sx.iconst (v := 5) dX4_strengthOf_100 (by decide) ?_
    refine Sx.iret dX4_strengthOf_101 rfl rfl ?_
    exact pXX (congrArg nI (show stI x = 5 by unfold stI; simp [*])) h
  by_cases k1_45 : x = 45
  · refine Sx.lookup (t := 100) dX4_strengthOf_1 (by decide) (o := 99) (by rw [k1_45]; decide) (by decide) ?_
    refine Sx.iconst (v := 5) dX4_strengthOf_100 (by decide) ?_
    refine Sx.iret dX4_strengthOf_101 rfl rfl ?_
    exact pXX (congrArg nI (show stI x = 5 by unfold stI; simp [*])) h
  by_cases k1_47 : x = 47
  · refine Sx.lookup (t := 102) dX4_strengthOf_1 (by decide) (o := 101) (by rw [k1_47]; decide) (by decide) ?_
    refine Sx.bipush (v := 6) dX4_strengthOf_102 (by decide) ?_
    refine Sx.iret dX4_strengthOf_104 rfl rfl ?_
    exact pXX (congrArg nI (show stI x = 6 by unfold stI; simp [*])) h
  by_cases k1_60 : x = 60
  · refine Sx.lookup (t := 98) dX4_strengthOf_1 (by decide) (o := 97) (by rw [k1_60]; decide) (by decide) ?_
    refine Sx.iconst (v := 4) dX4_strengthOf_98 (by decide) ?_
    refine Sx.iret dX4_strengthOf_99 rfl rfl ?_
    exact pXX (congrArg nI (show stI x = 4 by unfold stI; simp [*])) h
  by_cases k1_61 : x = 61
  · refine Sx.lookup (t := 98) dX4_strengthOf_1 (by decide) (o := 97) (by rw [k1_61]; decide) (by decide) ?_
    refine Sx.iconst (v := 4) dX4_strengthOf_98 (by decide) ?_
    refine Sx.iret dX4_strengthOf_99 rfl rfl ?_
    exact pXX (congrArg nI (show stI x = 4 by unfold stI; simp [*])) h
  by_cases k1_62 : x = 62
  · refine Sx.lookup (t := 98) dX4_strengthOf_1 (by decide) (o := 97) (by rw [k1_62]; decide) (by decide) ?_
    refine Sx.iconst (v := 4) dX4_strengthOf_98 (by decide) ?_
    refine Sx.iret dX4_strengthOf_99 rfl rfl ?_
    exact pXX (congrArg nI (show stI x = 4 by unfold stI; simp [*])) h
  by_cases k1_124 : x = 124
  · refine Sx.lookup (t := 92) dX4_strengthOf_1 (by decide) (o := 91) (by rw [k1_124]; decide) (by decide) ?_
    refine Sx.iconst (v := 1) dX4_strengthOf_92 (by decide) ?_
    refine Sx.iret dX4_strengthOf_93 rfl rfl ?_
    exact pXX (congrArg nI (show stI x = 1 by unfold stI; simp [*])) h
  refine Sx.lookup (t := 105) dX4_strengthOf_1 (by decide) (o := 104) (by rw [lv_osw k1_33 (by decide)]; rw [lv_osw k1_38 (by decide)]; rw [lv_osw k1_42 (by decide)]; rw [lv_osw k1_43 (by decide)]; rw [lv_osw k1_45 (by decide)]; rw [lv_osw k1_47 (by decide)]; rw [lv_osw k1_60 (by decide)]; rw [lv_osw k1_61 (by decide)]; rw [lv_osw k1_62 (by decide)]; rw [lv_osw k1_124 (by decide)]; rfl) (by decide) ?_
  refine Sx.iconst (v := 0) dX4_strengthOf_105 (by decide) ?_
  refine Sx.iret dX4_strengthOf_106 rfl rfl ?_
  exact pXX (congrArg nI (show stI x = 0 by unfold stI; simp [*])) h
