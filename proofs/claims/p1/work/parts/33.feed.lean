section XFD
/-- the fresh heap with tapes: n bytes in the class's, t in the model's -/
def HF (bs : List Int32) (n : Int32) (cs : List Int32) (t : Int32) : xh_H := ([(0, 9), (0, 8), (2, 640), (0, 4), (0, 3), (1, 400), (1, 400), (1, 64), (0, 6), (1, 16), (1, 16), (0, 7), (4, 64), (5, 8), (0, 2), (1, 924), (1, 924), (1, 12), (1, 14), (1, 12), (4, 13), (0, 5), (1, 12), (1, 12), (1, 12), (1, 12), (1, 12), (1, 12), (0, 0), (1, 7), (1, 84), (1, 7), (1, 7), (1, 7), (1, 896), (0, 1), (1, 60), (1, 60), (3, 60), (0, 10), (1, 640), (3, 53248), (3, 53248), (3, 65536), (3, 32768), (3, 4096), (1, 53248), (1, 13), (1, 13), (1, 13), (4, 16), (1, 8), (1, 8), (3, 4096), (1, 12), (1, 12), (1, 12), (1, 12), (1, 13), (1, 924), (1, 924), (3, 144), (1, 84), (3, 49), (3, 49), (1, 56), (1, 7), (1, 7), (1, 60), (1, 60), (3, 60), (4, 1)],
  [[0, 0, 0, 0, 0, 0, 0, 0, 0, 3, 0, 0], [0, n], bs, [], [0, 0, 0, 0], [], [], [], [], [], [], [-1], [], [], [0, 0, 0, 0, 0, 0, 0, 0], [], [], [], [], [], [], [0, -1, 0, 0, 0, 0, 0, 0, 0, 0, 0, 0, 0, 0, 0, 0], [-1, -1, -1, -1, -1, -1, -1, -1, -1, -1, -1, -1], [], [], [], [], [], [], [-1, -1, -1, -1, -1, -1, -1], [0, 1, 2, 3, 4, 5, 6, 0, 1, 2, 3, 4, 5, 6, 0, 1, 2, 3, 4, 5, 6, 0, 1, 2, 3, 4, 5, 6, 0, 1, 2, 3, 4, 5, 6, 0, 1, 2, 3, 4, 5, 6, 0, 1, 2, 3, 4, 5, 6, 0, 1, 2, 3, 4, 5, 6, 0, 1, 2, 3, 4, 5, 6, 0, 1, 2, 3, 4, 5, 6, 0, 1, 2, 3, 4, 5, 6, 0, 1, 2, 3, 4, 5, 6], [], [], [], [], [0, 0, 0, 0], [], [], [], [0, 0, t, 0, 3], cs, [], [], [], [], [], [], [], [], [], [], [], [], [], [], [], [], [], [], [], [], [], [0, 1, 2, 3, 4, 5, 6, 0, 1, 2, 3, 4, 5, 6, 0, 1, 2, 3, 4, 5, 6, 0, 1, 2, 3, 4, 5, 6, 0, 1, 2, 3, 4, 5, 6, 0, 1, 2, 3, 4, 5, 6, 0, 1, 2, 3, 4, 5, 6, 0, 1, 2, 3, 4, 5, 6, 0, 1, 2, 3, 4, 5, 6, 0, 1, 2, 3, 4, 5, 6, 0, 1, 2, 3, 4, 5, 6, 0, 1, 2, 3, 4, 5, 6], [], [], [], [], [], [], [], [], []],
  [[], [], [], [], [], [], [], [], [], [], [], [], [128, 0, 0, 0, 0, 0, 0, 0, 0, 0, 0, 0, 0, 0, 0, 0, 0, 0, 0, 0, 0, 0, 0, 0, 0, 0, 0, 0, 0, 0, 0, 0, 0, 0, 0, 0, 0, 0, 0, 0, 0, 0, 0, 0, 0, 0, 0, 0, 0, 0, 0, 0, 0, 0, 0, 0, 0, 0, 0, 0, 0, 0, 0, 0], [], [], [], [], [], [], [], [], [], [], [], [], [], [], [], [], [], [], [], [], [], [], [], [], [], [], [], [], [], [], [], [], [], [], [], [], [], [], [], [], [], [], [], [], [], [], [], [], [], [], [], [], [], [], [], [], [], [], []],
  [[some 1, some 3, some 11, some 13, some 14, some 21, some 28, some 35], [some 2], [], [some 4, some 8, some 9, some 10], [some 5, some 6, some 7], [], [], [], [some 1], [], [], [none, some 12], [], [], [some 15, some 16, some 17, some 18, some 19, some 20, some 11], [], [], [], [], [], [], [some 22, none, some 14, some 23, some 24, some 25, some 26, some 27, none, none, none, none, none, none, some 11], [], [], [], [], [], [], [some 29, none, some 30, some 31, some 32, some 33, some 34], [], [], [], [], [], [], [some 36, some 37, some 38], [], [], [], [none, some 40, none, none, none, none, none, none, none, none, none, none, none, none, none, none, some 41, some 42, some 43, some 44, some 45, some 46, some 47, some 48, some 49, some 50, none, none, none, none, none, some 51, some 52, none, some 53, none, none, none, some 54, some 55, some 56, some 57, some 58, some 59, some 60, some 61, none, none, none, none, none, none, none, some 62, some 63, some 64, some 65, some 66, some 67, none, some 68, some 69, some 70], [], [], [], [], [], [], [], [], [], [], [], [], [], [], [], [], [], [], [], [], [], [], [], [], [], [], [], [], [], [], [], []])
set_option maxRecDepth 100000 in
set_option maxHeartbeats 8000000 in
theorem pt_0 (bs cs : List Int32) (t w : Int32) : ∃ bs2, xR none 10 xi_X8_put xmi_X8_put (0, lv_args 0 [.ref 1, .int w], [], HF bs 0 cs t, 0, 0) (none, HF bs2 4 cs t, 0, 0) := by
  apply Exists.intro
  refine xR_u (stop := 3) 10 10 _ _ rfl ?_
  refine xR_u (stop := 40) 40 10 _ _ rfl ?_
  change xR none 10 xi_X8_put xmi_X8_put (40, _, _, HF _ 1 cs t, 0, 0) _
  refine xR_u (stop := 3) 10 10 _ _ rfl ?_
  refine xR_u (stop := 40) 40 10 _ _ rfl ?_
  change xR none 10 xi_X8_put xmi_X8_put (40, _, _, HF _ 2 cs t, 0, 0) _
  refine xR_u (stop := 3) 10 10 _ _ rfl ?_
  refine xR_u (stop := 40) 40 10 _ _ rfl ?_
  change xR none 10 xi_X8_put xmi_X8_put (40, _, _, HF _ 3 cs t, 0, 0) _
  refine xR_u (stop := 3) 10 10 _ _ rfl ?_
  refine xR_u (stop := 40) 40 10 _ _ rfl ?_
  change xR none 10 xi_X8_put xmi_X8_put (40, _, _, HF _ 4 cs t, 0, 0) _
  refine xR_u (stop := 3) 10 10 _ _ rfl ?_
  exact ⟨20, rfl⟩
set_option maxRecDepth 100000 in
set_option maxHeartbeats 8000000 in
theorem pt_4 (bs cs : List Int32) (t w : Int32) : ∃ bs2, xR none 10 xi_X8_put xmi_X8_put (0, lv_args 0 [.ref 1, .int w], [], HF bs 4 cs t, 0, 0) (none, HF bs2 8 cs t, 0, 0) := by
  apply Exists.intro
  refine xR_u (stop := 3) 10 10 _ _ rfl ?_
  refine xR_u (stop := 40) 40 10 _ _ rfl ?_
  change xR none 10 xi_X8_put xmi_X8_put (40, _, _, HF _ 5 cs t, 0, 0) _
  refine xR_u (stop := 3) 10 10 _ _ rfl ?_
  refine xR_u (stop := 40) 40 10 _ _ rfl ?_
  change xR none 10 xi_X8_put xmi_X8_put (40, _, _, HF _ 6 cs t, 0, 0) _
  refine xR_u (stop := 3) 10 10 _ _ rfl ?_
  refine xR_u (stop := 40) 40 10 _ _ rfl ?_
  change xR none 10 xi_X8_put xmi_X8_put (40, _, _, HF _ 7 cs t, 0, 0) _
  refine xR_u (stop := 3) 10 10 _ _ rfl ?_
  refine xR_u (stop := 40) 40 10 _ _ rfl ?_
  change xR none 10 xi_X8_put xmi_X8_put (40, _, _, HF _ 8 cs t, 0, 0) _
  refine xR_u (stop := 3) 10 10 _ _ rfl ?_
  exact ⟨20, rfl⟩
set_option maxRecDepth 100000 in
set_option maxHeartbeats 8000000 in
theorem pt_8 (bs cs : List Int32) (t w : Int32) : ∃ bs2, xR none 10 xi_X8_put xmi_X8_put (0, lv_args 0 [.ref 1, .int w], [], HF bs 8 cs t, 0, 0) (none, HF bs2 12 cs t, 0, 0) := by
  apply Exists.intro
  refine xR_u (stop := 3) 10 10 _ _ rfl ?_
  refine xR_u (stop := 40) 40 10 _ _ rfl ?_
  change xR none 10 xi_X8_put xmi_X8_put (40, _, _, HF _ 9 cs t, 0, 0) _
  refine xR_u (stop := 3) 10 10 _ _ rfl ?_
  refine xR_u (stop := 40) 40 10 _ _ rfl ?_
  change xR none 10 xi_X8_put xmi_X8_put (40, _, _, HF _ 10 cs t, 0, 0) _
  refine xR_u (stop := 3) 10 10 _ _ rfl ?_
  refine xR_u (stop := 40) 40 10 _ _ rfl ?_
  change xR none 10 xi_X8_put xmi_X8_put (40, _, _, HF _ 11 cs t, 0, 0) _
  refine xR_u (stop := 3) 10 10 _ _ rfl ?_
  refine xR_u (stop := 40) 40 10 _ _ rfl ?_
  change xR none 10 xi_X8_put xmi_X8_put (40, _, _, HF _ 12 cs t, 0, 0) _
  refine xR_u (stop := 3) 10 10 _ _ rfl ?_
  exact ⟨20, rfl⟩
set_option maxRecDepth 100000 in
set_option maxHeartbeats 8000000 in
theorem pt_12 (bs cs : List Int32) (t w : Int32) : ∃ bs2, xR none 10 xi_X8_put xmi_X8_put (0, lv_args 0 [.ref 1, .int w], [], HF bs 12 cs t, 0, 0) (none, HF bs2 16 cs t, 0, 0) := by
  apply Exists.intro
  refine xR_u (stop := 3) 10 10 _ _ rfl ?_
  refine xR_u (stop := 40) 40 10 _ _ rfl ?_
  change xR none 10 xi_X8_put xmi_X8_put (40, _, _, HF _ 13 cs t, 0, 0) _
  refine xR_u (stop := 3) 10 10 _ _ rfl ?_
  refine xR_u (stop := 40) 40 10 _ _ rfl ?_
  change xR none 10 xi_X8_put xmi_X8_put (40, _, _, HF _ 14 cs t, 0, 0) _
  refine xR_u (stop := 3) 10 10 _ _ rfl ?_
  refine xR_u (stop := 40) 40 10 _ _ rfl ?_
  change xR none 10 xi_X8_put xmi_X8_put (40, _, _, HF _ 15 cs t, 0, 0) _
  refine xR_u (stop := 3) 10 10 _ _ rfl ?_
  refine xR_u (stop := 40) 40 10 _ _ rfl ?_
  change xR none 10 xi_X8_put xmi_X8_put (40, _, _, HF _ 16 cs t, 0, 0) _
  refine xR_u (stop := 3) 10 10 _ _ rfl ?_
  exact ⟨20, rfl⟩
set_option maxRecDepth 100000 in
set_option maxHeartbeats 8000000 in
theorem pt_16 (bs cs : List Int32) (t w : Int32) : ∃ bs2, xR none 10 xi_X8_put xmi_X8_put (0, lv_args 0 [.ref 1, .int w], [], HF bs 16 cs t, 0, 0) (none, HF bs2 20 cs t, 0, 0) := by
  apply Exists.intro
  refine xR_u (stop := 3) 10 10 _ _ rfl ?_
  refine xR_u (stop := 40) 40 10 _ _ rfl ?_
  change xR none 10 xi_X8_put xmi_X8_put (40, _, _, HF _ 17 cs t, 0, 0) _
  refine xR_u (stop := 3) 10 10 _ _ rfl ?_
  refine xR_u (stop := 40) 40 10 _ _ rfl ?_
  change xR none 10 xi_X8_put xmi_X8_put (40, _, _, HF _ 18 cs t, 0, 0) _
  refine xR_u (stop := 3) 10 10 _ _ rfl ?_
  refine xR_u (stop := 40) 40 10 _ _ rfl ?_
  change xR none 10 xi_X8_put xmi_X8_put (40, _, _, HF _ 19 cs t, 0, 0) _
  refine xR_u (stop := 3) 10 10 _ _ rfl ?_
  refine xR_u (stop := 40) 40 10 _ _ rfl ?_
  change xR none 10 xi_X8_put xmi_X8_put (40, _, _, HF _ 20 cs t, 0, 0) _
  refine xR_u (stop := 3) 10 10 _ _ rfl ?_
  exact ⟨20, rfl⟩
set_option maxRecDepth 100000 in
set_option maxHeartbeats 8000000 in
theorem cm_0 (bs cs : List Int32) (n w : Int32) : ∃ cs2, xR none 10 xi_X10_come xmi_X10_come (0, lv_args 0 [.ref 39, .int w], [], HF bs n cs 0, 0, 0) (none, HF bs n cs2 4, 0, 0) := by
  apply Exists.intro
  refine xR_u (stop := 3) 10 10 _ _ rfl ?_
  refine xR_u (stop := 33) 40 10 _ _ rfl ?_
  change xR none 10 xi_X10_come xmi_X10_come (33, _, _, HF bs n _ 1, 0, 0) _
  refine xR_u (stop := 3) 10 10 _ _ rfl ?_
  refine xR_u (stop := 33) 40 10 _ _ rfl ?_
  change xR none 10 xi_X10_come xmi_X10_come (33, _, _, HF bs n _ 2, 0, 0) _
  refine xR_u (stop := 3) 10 10 _ _ rfl ?_
  refine xR_u (stop := 33) 40 10 _ _ rfl ?_
  change xR none 10 xi_X10_come xmi_X10_come (33, _, _, HF bs n _ 3, 0, 0) _
  refine xR_u (stop := 3) 10 10 _ _ rfl ?_
  refine xR_u (stop := 33) 40 10 _ _ rfl ?_
  change xR none 10 xi_X10_come xmi_X10_come (33, _, _, HF bs n _ 4, 0, 0) _
  refine xR_u (stop := 3) 10 10 _ _ rfl ?_
  exact ⟨20, rfl⟩
set_option maxRecDepth 100000 in
set_option maxHeartbeats 8000000 in
theorem cm_4 (bs cs : List Int32) (n w : Int32) : ∃ cs2, xR none 10 xi_X10_come xmi_X10_come (0, lv_args 0 [.ref 39, .int w], [], HF bs n cs 4, 0, 0) (none, HF bs n cs2 8, 0, 0) := by
  apply Exists.intro
  refine xR_u (stop := 3) 10 10 _ _ rfl ?_
  refine xR_u (stop := 33) 40 10 _ _ rfl ?_
  change xR none 10 xi_X10_come xmi_X10_come (33, _, _, HF bs n _ 5, 0, 0) _
  refine xR_u (stop := 3) 10 10 _ _ rfl ?_
  refine xR_u (stop := 33) 40 10 _ _ rfl ?_
  change xR none 10 xi_X10_come xmi_X10_come (33, _, _, HF bs n _ 6, 0, 0) _
  refine xR_u (stop := 3) 10 10 _ _ rfl ?_
  refine xR_u (stop := 33) 40 10 _ _ rfl ?_
  change xR none 10 xi_X10_come xmi_X10_come (33, _, _, HF bs n _ 7, 0, 0) _
  refine xR_u (stop := 3) 10 10 _ _ rfl ?_
  refine xR_u (stop := 33) 40 10 _ _ rfl ?_
  change xR none 10 xi_X10_come xmi_X10_come (33, _, _, HF bs n _ 8, 0, 0) _
  refine xR_u (stop := 3) 10 10 _ _ rfl ?_
  exact ⟨20, rfl⟩
set_option maxRecDepth 100000 in
set_option maxHeartbeats 8000000 in
theorem cm_8 (bs cs : List Int32) (n w : Int32) : ∃ cs2, xR none 10 xi_X10_come xmi_X10_come (0, lv_args 0 [.ref 39, .int w], [], HF bs n cs 8, 0, 0) (none, HF bs n cs2 12, 0, 0) := by
  apply Exists.intro
  refine xR_u (stop := 3) 10 10 _ _ rfl ?_
  refine xR_u (stop := 33) 40 10 _ _ rfl ?_
  change xR none 10 xi_X10_come xmi_X10_come (33, _, _, HF bs n _ 9, 0, 0) _
  refine xR_u (stop := 3) 10 10 _ _ rfl ?_
  refine xR_u (stop := 33) 40 10 _ _ rfl ?_
  change xR none 10 xi_X10_come xmi_X10_come (33, _, _, HF bs n _ 10, 0, 0) _
  refine xR_u (stop := 3) 10 10 _ _ rfl ?_
  refine xR_u (stop := 33) 40 10 _ _ rfl ?_
  change xR none 10 xi_X10_come xmi_X10_come (33, _, _, HF bs n _ 11, 0, 0) _
  refine xR_u (stop := 3) 10 10 _ _ rfl ?_
  refine xR_u (stop := 33) 40 10 _ _ rfl ?_
  change xR none 10 xi_X10_come xmi_X10_come (33, _, _, HF bs n _ 12, 0, 0) _
  refine xR_u (stop := 3) 10 10 _ _ rfl ?_
  exact ⟨20, rfl⟩
set_option maxRecDepth 100000 in
set_option maxHeartbeats 8000000 in
theorem cm_12 (bs cs : List Int32) (n w : Int32) : ∃ cs2, xR none 10 xi_X10_come xmi_X10_come (0, lv_args 0 [.ref 39, .int w], [], HF bs n cs 12, 0, 0) (none, HF bs n cs2 16, 0, 0) := by
  apply Exists.intro
  refine xR_u (stop := 3) 10 10 _ _ rfl ?_
  refine xR_u (stop := 33) 40 10 _ _ rfl ?_
  change xR none 10 xi_X10_come xmi_X10_come (33, _, _, HF bs n _ 13, 0, 0) _
  refine xR_u (stop := 3) 10 10 _ _ rfl ?_
  refine xR_u (stop := 33) 40 10 _ _ rfl ?_
  change xR none 10 xi_X10_come xmi_X10_come (33, _, _, HF bs n _ 14, 0, 0) _
  refine xR_u (stop := 3) 10 10 _ _ rfl ?_
  refine xR_u (stop := 33) 40 10 _ _ rfl ?_
  change xR none 10 xi_X10_come xmi_X10_come (33, _, _, HF bs n _ 15, 0, 0) _
  refine xR_u (stop := 3) 10 10 _ _ rfl ?_
  refine xR_u (stop := 33) 40 10 _ _ rfl ?_
  change xR none 10 xi_X10_come xmi_X10_come (33, _, _, HF bs n _ 16, 0, 0) _
  refine xR_u (stop := 3) 10 10 _ _ rfl ?_
  exact ⟨20, rfl⟩
set_option maxRecDepth 100000 in
set_option maxHeartbeats 8000000 in
theorem cm_16 (bs cs : List Int32) (n w : Int32) : ∃ cs2, xR none 10 xi_X10_come xmi_X10_come (0, lv_args 0 [.ref 39, .int w], [], HF bs n cs 16, 0, 0) (none, HF bs n cs2 20, 0, 0) := by
  apply Exists.intro
  refine xR_u (stop := 3) 10 10 _ _ rfl ?_
  refine xR_u (stop := 33) 40 10 _ _ rfl ?_
  change xR none 10 xi_X10_come xmi_X10_come (33, _, _, HF bs n _ 17, 0, 0) _
  refine xR_u (stop := 3) 10 10 _ _ rfl ?_
  refine xR_u (stop := 33) 40 10 _ _ rfl ?_
  change xR none 10 xi_X10_come xmi_X10_come (33, _, _, HF bs n _ 18, 0, 0) _
  refine xR_u (stop := 3) 10 10 _ _ rfl ?_
  refine xR_u (stop := 33) 40 10 _ _ rfl ?_
  change xR none 10 xi_X10_come xmi_X10_come (33, _, _, HF bs n _ 19, 0, 0) _
  refine xR_u (stop := 3) 10 10 _ _ rfl ?_
  refine xR_u (stop := 33) 40 10 _ _ rfl ?_
  change xR none 10 xi_X10_come xmi_X10_come (33, _, _, HF bs n _ 20, 0, 0) _
  refine xR_u (stop := 3) 10 10 _ _ rfl ?_
  exact ⟨20, rfl⟩
set_option maxRecDepth 100000 in
set_option maxHeartbeats 8000000 in
theorem op_0 (xs : Nat → Int32) : lw_C 168 xs := by
  obtain ⟨b0, p0⟩ := pt_0 [] [] 0 (xs 1)
  obtain ⟨b1, p1⟩ := pt_4 b0 [] 0 (xs 2)
  obtain ⟨b2, p2⟩ := pt_8 b1 [] 0 (xs 3)
  obtain ⟨b3, p3⟩ := pt_12 b2 [] 0 (xs 4)
  obtain ⟨b4, p4⟩ := pt_16 b3 [] 0 (xs 5)
  obtain ⟨d0, q0⟩ := cm_0 b4 [] 20 (xs 1)
  obtain ⟨d1, q1⟩ := cm_4 b4 d0 20 (xs 2)
  obtain ⟨d2, q2⟩ := cm_8 b4 d1 20 (xs 3)
  obtain ⟨d3, q3⟩ := cm_12 b4 d2 20 (xs 4)
  obtain ⟨d4, q4⟩ := cm_16 b4 d3 20 (xs 5)
  have e0 : xf_h = HF [] 0 [] 0 := rfl
  exact ⟨_, _, _, by decide, by decide, lw_0 xs (v := 20) (h1 := HF b4 20 [] 0) (h2 := HF b4 20 d4 20) (c1 := 0) (s1 := 0) (c2 := 0) (s2 := 0) (by
      rw [e0]
      refine xR_u (stop := 17) 60 11 _ _ rfl ?_
      refine xR_call rfl rfl rfl rfl p0 ?_
      refine xR_u (stop := 25) 60 11 _ _ rfl ?_
      refine xR_call rfl rfl rfl rfl p1 ?_
      refine xR_u (stop := 33) 60 11 _ _ rfl ?_
      refine xR_call rfl rfl rfl rfl p2 ?_
      refine xR_u (stop := 42) 60 11 _ _ rfl ?_
      refine xR_call rfl rfl rfl rfl p3 ?_
      refine xR_u (stop := 51) 60 11 _ _ rfl ?_
      refine xR_call rfl rfl rfl rfl p4 ?_
      exact ⟨20, rfl⟩) (by rfl) (by
      refine xR_u (stop := 22) 60 11 _ _ rfl ?_
      change xR none 11 xi_X10_feed xmi_X10_feed (22, _, _, HF b4 20 [] 0, 0, 0) _
      refine xR_call rfl rfl rfl rfl q0 ?_
      refine xR_u (stop := 27) 60 11 _ _ rfl ?_
      refine xR_call rfl rfl rfl rfl q1 ?_
      refine xR_u (stop := 32) 60 11 _ _ rfl ?_
      refine xR_call rfl rfl rfl rfl q2 ?_
      refine xR_u (stop := 38) 60 11 _ _ rfl ?_
      refine xR_call rfl rfl rfl rfl q3 ?_
      refine xR_u (stop := 44) 60 11 _ _ rfl ?_
      refine xR_call rfl rfl rfl rfl q4 ?_
      exact ⟨20, rfl⟩)⟩
end XFD
