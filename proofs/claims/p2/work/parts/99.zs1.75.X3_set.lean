/-! the class by summaries, by program -/
noncomputable def b_X3_seta {d : Nat} (P : zP d) : zK d := (xaldV 0 (xgfR 19 1 (xild 1 (xaaT (xild 2 (xild 3 (xaldV 0 (xgfI 19 0 (xfm (xasQ 0 (fun v => v) (xvret P)))))))))))
set_option maxRecDepth 100000 in
set_option maxHeartbeats 4000000 in
theorem s_X3_seta {d : Nat} [zGh] (P : zP d) : zSim X_X3_set 1 P 0 (b_X3_seta P) := by
  unfold b_X3_seta
  refine sm_aloadV_n (pc := 0) (n := 0) dX3_set_0 rfl ?_
  refine gf_X3_15 (pc := 1) rfl dX3_set_1 ?_
  refine sm_iload_n (pc := 4) (n := 1) dX3_set_4 rfl ?_
  refine sm_aaloadT (pc := 5) dX3_set_5 ?_
  refine sm_iload_n (pc := 6) (n := 2) dX3_set_6 rfl ?_
  refine sm_iload_n (pc := 7) (n := 3) dX3_set_7 rfl ?_
  refine sm_aloadV_n (pc := 8) (n := 0) dX3_set_8 rfl ?_
  refine gf_X3_7 (pc := 9) rfl dX3_set_9 ?_
  refine sm_fm (pc := 12) wd_368 wd_369 wd_6 wd_370 (by decide) dX3_set_12 ?_
  refine sm_iastoreQ (pc := 15) dX3_set_15 ?_
  exact sm_vreturn (pc := 16) dX3_set_16 rfl
noncomputable def f_X3_seta {d : Nat} : List zV → zH d → zP d → Bool := zfn 4 b_X3_seta
theorem m_X3_seta {d : Nat} : zMet (d := d) X_X3_set yX3_set 1 f_X3_seta := zmet_mk (X := X_X3_set) (by decide) rfl rfl s_X3_seta

