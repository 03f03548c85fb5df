/-! begin and empty, run -/
def skP : SK := [(0, 5, [4, 5, 2, 3, 0, 0, 0]), (1, 6, []), (1, 6, [])]
def skM : SK := [(0, 7, [2, 3, 0, 4, 5, 6, 7, 0, 0, 0, 0, 0, 8, 9, 10, 11, 12, 13, 14, 0, 15, 0, 16, 17, 18, 0, 19, 20, 21, 22, 23, 24, 25, 0, 26, 27, 28]), (1, 6, []), (1, 6, []), (1, 6, []), (2, 6, []), (1, 36, []), (2, 36, []), (1, 6, []), (1, 6, []), (1, 10, []), (1, 10, []), (1, 10, []), (2, 10, []), (1, 10, []), (1, 10, []), (1, 42, []), (1, 7, []), (2, 42, []), (1, 6, []), (1, 6, []), (1, 192, []), (1, 576, []), (1, 576, []), (1, 3, []), (1, 3, []), (1, 1024, []), (1, 10, []), (1, 10, [])]
def GM0 : AG := fun b j => if b = 0 then (if j = 8 then 12 else if j = 9 then 7 else if j = 10 then 1 else if j = 11 then 1 else 0) else 0
def GPb : AG := am_up (am_up (am_up (am_up (am_up (am_up (am_up (am_up (am_up (am_up (fun _ _ => 0) 0 4 (1)) 0 5 (1)) 0 6 (1)) 1 0 (36)) 1 1 (36)) 1 2 (36)) 1 3 (36)) 1 4 (36)) 1 5 (36)) 2 0 (0)
def GMb : AG := am_up (am_up (am_up (am_up (am_up (am_up (am_up (am_up (am_up (am_up (am_up (am_up (GM0) 7 0 (-1)) 8 0 (-1)) 7 1 (-1)) 8 1 (-1)) 7 2 (-1)) 8 2 (-1)) 7 3 (-1)) 8 3 (-1)) 7 4 (-1)) 8 4 (-1)) 7 5 (-1)) 8 5 (-1)
set_option maxHeartbeats 4000000 in
set_option maxRecDepth 100000 in
theorem run_begin : am_run gm_mt skP 200 2 32 0 (am_ent (gm_mt 32).2.1 [vR 0, vI 1, vI 1]) [] (fun _ _ => 0) = some (none, GPb) := by rfl
set_option maxHeartbeats 4000000 in
set_option maxRecDepth 100000 in
theorem run_empty : am_run gm_mt skM 200 2 71 0 (am_ent (gm_mt 71).2.1 [vR 0]) [] GM0 = some (none, GMb) := by rfl
