theorem pf_1 {w : Int32} (h : fX3_groupOf w = 1) (u : ST) : fX4_perform w u = fX4_onward 1 u := by
  unfold fX4_perform
  rw [h, if_pos rfl]

theorem pf_2 {w : Int32} (h : fX3_groupOf w = 2) (u : ST) : fX4_perform w u = fX4_movePair w u := by
  unfold fX4_perform
  rw [h, if_neg (show ¬ (2 : Int32) = 1 by decide), if_pos rfl]

theorem pf_3 {w : Int32} (h : fX3_groupOf w = 3) (u : ST) : fX4_perform w u = fX4_multiply w u := by
  unfold fX4_perform
  rw [h, if_neg (show ¬ (3 : Int32) = 1 by decide), if_neg (show ¬ (3 : Int32) = 2 by decide), if_pos rfl]

theorem pf_4 {w : Int32} (h : fX3_groupOf w = 4) (u : ST) : fX4_perform w u = fX4_combine w u := by
  unfold fX4_perform
  rw [h, if_neg (show ¬ (4 : Int32) = 1 by decide), if_neg (show ¬ (4 : Int32) = 2 by decide), if_neg (show ¬ (4 : Int32) = 3 by decide), if_pos rfl]

theorem pf_5 {w : Int32} (h : fX3_groupOf w = 5) (u : ST) : fX4_perform w u = fX4_combineWithNumber w u := by
  unfold fX4_perform
  rw [h, if_neg (show ¬ (5 : Int32) = 1 by decide), if_neg (show ¬ (5 : Int32) = 2 by decide), if_neg (show ¬ (5 : Int32) = 3 by decide), if_neg (show ¬ (5 : Int32) = 4 by decide), if_pos rfl]

theorem pf_6 {w : Int32} (h : fX3_groupOf w = 6) (u : ST) : fX4_perform w u = fX4_change w u := by
  unfold fX4_perform
  rw [h, if_neg (show ¬ (6 : Int32) = 1 by decide), if_neg (show ¬ (6 : Int32) = 2 by decide), if_neg (show ¬ (6 : Int32) = 3 by decide), if_neg (show ¬ (6 : Int32) = 4 by decide), if_neg (show ¬ (6 : Int32) = 5 by decide), if_pos rfl]

theorem pf_7 {w : Int32} (h : fX3_groupOf w = 7) (u : ST) : fX4_perform w u = fX4_setFlag w u := by
  unfold fX4_perform
  rw [h, if_neg (show ¬ (7 : Int32) = 1 by decide), if_neg (show ¬ (7 : Int32) = 2 by decide), if_neg (show ¬ (7 : Int32) = 3 by decide), if_neg (show ¬ (7 : Int32) = 4 by decide), if_neg (show ¬ (7 : Int32) = 5 by decide), if_neg (show ¬ (7 : Int32) = 6 by decide), if_pos rfl]

theorem pf_8 {w : Int32} (h : fX3_groupOf w = 8) (u : ST) : fX4_perform w u = fX4_changePair w u := by
  unfold fX4_perform
  rw [h, if_neg (show ¬ (8 : Int32) = 1 by decide), if_neg (show ¬ (8 : Int32) = 2 by decide), if_neg (show ¬ (8 : Int32) = 3 by decide), if_neg (show ¬ (8 : Int32) = 4 by decide), if_neg (show ¬ (8 : Int32) = 5 by decide), if_neg (show ¬ (8 : Int32) = 6 by decide), if_neg (show ¬ (8 : Int32) = 7 by decide), if_pos rfl]

theorem pf_9 {w : Int32} (h : fX3_groupOf w = 9) (u : ST) : fX4_perform w u = fX4_moveAtNext w u := by
  unfold fX4_perform
  rw [h, if_neg (show ¬ (9 : Int32) = 1 by decide), if_neg (show ¬ (9 : Int32) = 2 by decide), if_neg (show ¬ (9 : Int32) = 3 by decide), if_neg (show ¬ (9 : Int32) = 4 by decide), if_neg (show ¬ (9 : Int32) = 5 by decide), if_neg (show ¬ (9 : Int32) = 6 by decide), if_neg (show ¬ (9 : Int32) = 7 by decide), if_neg (show ¬ (9 : Int32) = 8 by decide), if_pos rfl]

theorem pf_10 {w : Int32} (h : fX3_groupOf w = 10) (u : ST) : fX4_perform w u = fX4_movePointed w u := by
  unfold fX4_perform
  rw [h, if_neg (show ¬ (10 : Int32) = 1 by decide), if_neg (show ¬ (10 : Int32) = 2 by decide), if_neg (show ¬ (10 : Int32) = 3 by decide), if_neg (show ¬ (10 : Int32) = 4 by decide), if_neg (show ¬ (10 : Int32) = 5 by decide), if_neg (show ¬ (10 : Int32) = 6 by decide), if_neg (show ¬ (10 : Int32) = 7 by decide), if_neg (show ¬ (10 : Int32) = 8 by decide), if_neg (show ¬ (10 : Int32) = 9 by decide), if_pos rfl]

theorem pf_11 {w : Int32} (h : fX3_groupOf w = 11) (u : ST) : fX4_perform w u = fX4_moveStacked w u := by
  unfold fX4_perform
  rw [h, if_neg (show ¬ (11 : Int32) = 1 by decide), if_neg (show ¬ (11 : Int32) = 2 by decide), if_neg (show ¬ (11 : Int32) = 3 by decide), if_neg (show ¬ (11 : Int32) = 4 by decide), if_neg (show ¬ (11 : Int32) = 5 by decide), if_neg (show ¬ (11 : Int32) = 6 by decide), if_neg (show ¬ (11 : Int32) = 7 by decide), if_neg (show ¬ (11 : Int32) = 8 by decide), if_neg (show ¬ (11 : Int32) = 9 by decide), if_neg (show ¬ (11 : Int32) = 10 by decide), if_pos rfl]

theorem pf_12 {w : Int32} (h : fX3_groupOf w = 12) (u : ST) : fX4_perform w u = fX4_moveBeside w u := by
  unfold fX4_perform
  rw [h, if_neg (show ¬ (12 : Int32) = 1 by decide), if_neg (show ¬ (12 : Int32) = 2 by decide), if_neg (show ¬ (12 : Int32) = 3 by decide), if_neg (show ¬ (12 : Int32) = 4 by decide), if_neg (show ¬ (12 : Int32) = 5 by decide), if_neg (show ¬ (12 : Int32) = 6 by decide), if_neg (show ¬ (12 : Int32) = 7 by decide), if_neg (show ¬ (12 : Int32) = 8 by decide), if_neg (show ¬ (12 : Int32) = 9 by decide), if_neg (show ¬ (12 : Int32) = 10 by decide), if_neg (show ¬ (12 : Int32) = 11 by decide), if_pos rfl]

theorem pf_13 {w : Int32} (h : fX3_groupOf w = 13) (u : ST) : fX4_perform w u = fX4_moveFromCode w u := by
  unfold fX4_perform
  rw [h, if_neg (show ¬ (13 : Int32) = 1 by decide), if_neg (show ¬ (13 : Int32) = 2 by decide), if_neg (show ¬ (13 : Int32) = 3 by decide), if_neg (show ¬ (13 : Int32) = 4 by decide), if_neg (show ¬ (13 : Int32) = 5 by decide), if_neg (show ¬ (13 : Int32) = 6 by decide), if_neg (show ¬ (13 : Int32) = 7 by decide), if_neg (show ¬ (13 : Int32) = 8 by decide), if_neg (show ¬ (13 : Int32) = 9 by decide), if_neg (show ¬ (13 : Int32) = 10 by decide), if_neg (show ¬ (13 : Int32) = 11 by decide), if_neg (show ¬ (13 : Int32) = 12 by decide), if_pos rfl]

theorem pf_14 {w : Int32} (h : fX3_groupOf w = 14) (u : ST) : fX4_perform w u = fX4_movePort w u := by
  unfold fX4_perform
  rw [h, if_neg (show ¬ (14 : Int32) = 1 by decide), if_neg (show ¬ (14 : Int32) = 2 by decide), if_neg (show ¬ (14 : Int32) = 3 by decide), if_neg (show ¬ (14 : Int32) = 4 by decide), if_neg (show ¬ (14 : Int32) = 5 by decide), if_neg (show ¬ (14 : Int32) = 6 by decide), if_neg (show ¬ (14 : Int32) = 7 by decide), if_neg (show ¬ (14 : Int32) = 8 by decide), if_neg (show ¬ (14 : Int32) = 9 by decide), if_neg (show ¬ (14 : Int32) = 10 by decide), if_neg (show ¬ (14 : Int32) = 11 by decide), if_neg (show ¬ (14 : Int32) = 12 by decide), if_neg (show ¬ (14 : Int32) = 13 by decide), if_pos rfl]

theorem pf_15 {w : Int32} (h : fX3_groupOf w = 15) (u : ST) : fX4_perform w u = fX4_setPortBit w u := by
  unfold fX4_perform
  rw [h, if_neg (show ¬ (15 : Int32) = 1 by decide), if_neg (show ¬ (15 : Int32) = 2 by decide), if_neg (show ¬ (15 : Int32) = 3 by decide), if_neg (show ¬ (15 : Int32) = 4 by decide), if_neg (show ¬ (15 : Int32) = 5 by decide), if_neg (show ¬ (15 : Int32) = 6 by decide), if_neg (show ¬ (15 : Int32) = 7 by decide), if_neg (show ¬ (15 : Int32) = 8 by decide), if_neg (show ¬ (15 : Int32) = 9 by decide), if_neg (show ¬ (15 : Int32) = 10 by decide), if_neg (show ¬ (15 : Int32) = 11 by decide), if_neg (show ¬ (15 : Int32) = 12 by decide), if_neg (show ¬ (15 : Int32) = 13 by decide), if_neg (show ¬ (15 : Int32) = 14 by decide), if_pos rfl]

theorem pf_16 {w : Int32} (h : fX3_groupOf w = 16) (u : ST) : fX4_perform w u = fX4_skipByPort w u := by
  unfold fX4_perform
  rw [h, if_neg (show ¬ (16 : Int32) = 1 by decide), if_neg (show ¬ (16 : Int32) = 2 by decide), if_neg (show ¬ (16 : Int32) = 3 by decide), if_neg (show ¬ (16 : Int32) = 4 by decide), if_neg (show ¬ (16 : Int32) = 5 by decide), if_neg (show ¬ (16 : Int32) = 6 by decide), if_neg (show ¬ (16 : Int32) = 7 by decide), if_neg (show ¬ (16 : Int32) = 8 by decide), if_neg (show ¬ (16 : Int32) = 9 by decide), if_neg (show ¬ (16 : Int32) = 10 by decide), if_neg (show ¬ (16 : Int32) = 11 by decide), if_neg (show ¬ (16 : Int32) = 12 by decide), if_neg (show ¬ (16 : Int32) = 13 by decide), if_neg (show ¬ (16 : Int32) = 14 by decide), if_neg (show ¬ (16 : Int32) = 15 by decide), if_pos rfl]

theorem pf_17 {w : Int32} (h : fX3_groupOf w = 17) (u : ST) : fX4_perform w u = fX4_skipByBit w u := by
  unfold fX4_perform
  rw [h, if_neg (show ¬ (17 : Int32) = 1 by decide), if_neg (show ¬ (17 : Int32) = 2 by decide), if_neg (show ¬ (17 : Int32) = 3 by decide), if_neg (show ¬ (17 : Int32) = 4 by decide), if_neg (show ¬ (17 : Int32) = 5 by decide), if_neg (show ¬ (17 : Int32) = 6 by decide), if_neg (show ¬ (17 : Int32) = 7 by decide), if_neg (show ¬ (17 : Int32) = 8 by decide), if_neg (show ¬ (17 : Int32) = 9 by decide), if_neg (show ¬ (17 : Int32) = 10 by decide), if_neg (show ¬ (17 : Int32) = 11 by decide), if_neg (show ¬ (17 : Int32) = 12 by decide), if_neg (show ¬ (17 : Int32) = 13 by decide), if_neg (show ¬ (17 : Int32) = 14 by decide), if_neg (show ¬ (17 : Int32) = 15 by decide), if_neg (show ¬ (17 : Int32) = 16 by decide), if_pos rfl]

theorem pf_18 {w : Int32} (h : fX3_groupOf w = 18) (u : ST) : fX4_perform w u = fX4_moveBit w u := by
  unfold fX4_perform
  rw [h, if_neg (show ¬ (18 : Int32) = 1 by decide), if_neg (show ¬ (18 : Int32) = 2 by decide), if_neg (show ¬ (18 : Int32) = 3 by decide), if_neg (show ¬ (18 : Int32) = 4 by decide), if_neg (show ¬ (18 : Int32) = 5 by decide), if_neg (show ¬ (18 : Int32) = 6 by decide), if_neg (show ¬ (18 : Int32) = 7 by decide), if_neg (show ¬ (18 : Int32) = 8 by decide), if_neg (show ¬ (18 : Int32) = 9 by decide), if_neg (show ¬ (18 : Int32) = 10 by decide), if_neg (show ¬ (18 : Int32) = 11 by decide), if_neg (show ¬ (18 : Int32) = 12 by decide), if_neg (show ¬ (18 : Int32) = 13 by decide), if_neg (show ¬ (18 : Int32) = 14 by decide), if_neg (show ¬ (18 : Int32) = 15 by decide), if_neg (show ¬ (18 : Int32) = 16 by decide), if_neg (show ¬ (18 : Int32) = 17 by decide), if_pos rfl]

theorem pf_19 {w : Int32} (h : fX3_groupOf w = 19) (u : ST) : fX4_perform w u = fX4_jumpNear w u := by
  unfold fX4_perform
  rw [h, if_neg (show ¬ (19 : Int32) = 1 by decide), if_neg (show ¬ (19 : Int32) = 2 by decide), if_neg (show ¬ (19 : Int32) = 3 by decide), if_neg (show ¬ (19 : Int32) = 4 by decide), if_neg (show ¬ (19 : Int32) = 5 by decide), if_neg (show ¬ (19 : Int32) = 6 by decide), if_neg (show ¬ (19 : Int32) = 7 by decide), if_neg (show ¬ (19 : Int32) = 8 by decide), if_neg (show ¬ (19 : Int32) = 9 by decide), if_neg (show ¬ (19 : Int32) = 10 by decide), if_neg (show ¬ (19 : Int32) = 11 by decide), if_neg (show ¬ (19 : Int32) = 12 by decide), if_neg (show ¬ (19 : Int32) = 13 by decide), if_neg (show ¬ (19 : Int32) = 14 by decide), if_neg (show ¬ (19 : Int32) = 15 by decide), if_neg (show ¬ (19 : Int32) = 16 by decide), if_neg (show ¬ (19 : Int32) = 17 by decide), if_neg (show ¬ (19 : Int32) = 18 by decide), if_pos rfl]

theorem pf_20 {w : Int32} (h : fX3_groupOf w = 20) (u : ST) : fX4_perform w u = fX4_branch w u := by
  unfold fX4_perform
  rw [h, if_neg (show ¬ (20 : Int32) = 1 by decide), if_neg (show ¬ (20 : Int32) = 2 by decide), if_neg (show ¬ (20 : Int32) = 3 by decide), if_neg (show ¬ (20 : Int32) = 4 by decide), if_neg (show ¬ (20 : Int32) = 5 by decide), if_neg (show ¬ (20 : Int32) = 6 by decide), if_neg (show ¬ (20 : Int32) = 7 by decide), if_neg (show ¬ (20 : Int32) = 8 by decide), if_neg (show ¬ (20 : Int32) = 9 by decide), if_neg (show ¬ (20 : Int32) = 10 by decide), if_neg (show ¬ (20 : Int32) = 11 by decide), if_neg (show ¬ (20 : Int32) = 12 by decide), if_neg (show ¬ (20 : Int32) = 13 by decide), if_neg (show ¬ (20 : Int32) = 14 by decide), if_neg (show ¬ (20 : Int32) = 15 by decide), if_neg (show ¬ (20 : Int32) = 16 by decide), if_neg (show ¬ (20 : Int32) = 17 by decide), if_neg (show ¬ (20 : Int32) = 18 by decide), if_neg (show ¬ (20 : Int32) = 19 by decide), if_pos rfl]

theorem pf_21 {w : Int32} (h : fX3_groupOf w = 21) (u : ST) : fX4_perform w u = fX4_jumpFar w u := by
  unfold fX4_perform
  rw [h, if_neg (show ¬ (21 : Int32) = 1 by decide), if_neg (show ¬ (21 : Int32) = 2 by decide), if_neg (show ¬ (21 : Int32) = 3 by decide), if_neg (show ¬ (21 : Int32) = 4 by decide), if_neg (show ¬ (21 : Int32) = 5 by decide), if_neg (show ¬ (21 : Int32) = 6 by decide), if_neg (show ¬ (21 : Int32) = 7 by decide), if_neg (show ¬ (21 : Int32) = 8 by decide), if_neg (show ¬ (21 : Int32) = 9 by decide), if_neg (show ¬ (21 : Int32) = 10 by decide), if_neg (show ¬ (21 : Int32) = 11 by decide), if_neg (show ¬ (21 : Int32) = 12 by decide), if_neg (show ¬ (21 : Int32) = 13 by decide), if_neg (show ¬ (21 : Int32) = 14 by decide), if_neg (show ¬ (21 : Int32) = 15 by decide), if_neg (show ¬ (21 : Int32) = 16 by decide), if_neg (show ¬ (21 : Int32) = 17 by decide), if_neg (show ¬ (21 : Int32) = 18 by decide), if_neg (show ¬ (21 : Int32) = 19 by decide), if_neg (show ¬ (21 : Int32) = 20 by decide), if_pos rfl]

theorem pf_22 {w : Int32} (h : fX3_groupOf w = 22) (u : ST) : fX4_perform w u = fX4_jumpToZ w u := by
  unfold fX4_perform
  rw [h, if_neg (show ¬ (22 : Int32) = 1 by decide), if_neg (show ¬ (22 : Int32) = 2 by decide), if_neg (show ¬ (22 : Int32) = 3 by decide), if_neg (show ¬ (22 : Int32) = 4 by decide), if_neg (show ¬ (22 : Int32) = 5 by decide), if_neg (show ¬ (22 : Int32) = 6 by decide), if_neg (show ¬ (22 : Int32) = 7 by decide), if_neg (show ¬ (22 : Int32) = 8 by decide), if_neg (show ¬ (22 : Int32) = 9 by decide), if_neg (show ¬ (22 : Int32) = 10 by decide), if_neg (show ¬ (22 : Int32) = 11 by decide), if_neg (show ¬ (22 : Int32) = 12 by decide), if_neg (show ¬ (22 : Int32) = 13 by decide), if_neg (show ¬ (22 : Int32) = 14 by decide), if_neg (show ¬ (22 : Int32) = 15 by decide), if_neg (show ¬ (22 : Int32) = 16 by decide), if_neg (show ¬ (22 : Int32) = 17 by decide), if_neg (show ¬ (22 : Int32) = 18 by decide), if_neg (show ¬ (22 : Int32) = 19 by decide), if_neg (show ¬ (22 : Int32) = 20 by decide), if_neg (show ¬ (22 : Int32) = 21 by decide), if_pos rfl]

theorem pf_23 {w : Int32} (h : fX3_groupOf w = 23) (u : ST) : fX4_perform w u = fX4_comeBack w u := by
  unfold fX4_perform
  rw [h, if_neg (show ¬ (23 : Int32) = 1 by decide), if_neg (show ¬ (23 : Int32) = 2 by decide), if_neg (show ¬ (23 : Int32) = 3 by decide), if_neg (show ¬ (23 : Int32) = 4 by decide), if_neg (show ¬ (23 : Int32) = 5 by decide), if_neg (show ¬ (23 : Int32) = 6 by decide), if_neg (show ¬ (23 : Int32) = 7 by decide), if_neg (show ¬ (23 : Int32) = 8 by decide), if_neg (show ¬ (23 : Int32) = 9 by decide), if_neg (show ¬ (23 : Int32) = 10 by decide), if_neg (show ¬ (23 : Int32) = 11 by decide), if_neg (show ¬ (23 : Int32) = 12 by decide), if_neg (show ¬ (23 : Int32) = 13 by decide), if_neg (show ¬ (23 : Int32) = 14 by decide), if_neg (show ¬ (23 : Int32) = 15 by decide), if_neg (show ¬ (23 : Int32) = 16 by decide), if_neg (show ¬ (23 : Int32) = 17 by decide), if_neg (show ¬ (23 : Int32) = 18 by decide), if_neg (show ¬ (23 : Int32) = 19 by decide), if_neg (show ¬ (23 : Int32) = 20 by decide), if_neg (show ¬ (23 : Int32) = 21 by decide), if_neg (show ¬ (23 : Int32) = 22 by decide), if_pos rfl]

theorem pf_0 {w : Int32} (h : fX3_groupOf w = 0) (u : ST) : fX4_perform w u = (u, 2) := by
  unfold fX4_perform
  rw [h, if_neg (show ¬ (0 : Int32) = 1 by decide), if_neg (show ¬ (0 : Int32) = 2 by decide), if_neg (show ¬ (0 : Int32) = 3 by decide), if_neg (show ¬ (0 : Int32) = 4 by decide), if_neg (show ¬ (0 : Int32) = 5 by decide), if_neg (show ¬ (0 : Int32) = 6 by decide), if_neg (show ¬ (0 : Int32) = 7 by decide), if_neg (show ¬ (0 : Int32) = 8 by decide), if_neg (show ¬ (0 : Int32) = 9 by decide), if_neg (show ¬ (0 : Int32) = 10 by decide), if_neg (show ¬ (0 : Int32) = 11 by decide), if_neg (show ¬ (0 : Int32) = 12 by decide), if_neg (show ¬ (0 : Int32) = 13 by decide), if_neg (show ¬ (0 : Int32) = 14 by decide), if_neg (show ¬ (0 : Int32) = 15 by decide), if_neg (show ¬ (0 : Int32) = 16 by decide), if_neg (show ¬ (0 : Int32) = 17 by decide), if_neg (show ¬ (0 : Int32) = 18 by decide), if_neg (show ¬ (0 : Int32) = 19 by decide), if_neg (show ¬ (0 : Int32) = 20 by decide), if_neg (show ¬ (0 : Int32) = 21 by decide), if_neg (show ¬ (0 : Int32) = 22 by decide), if_neg (show ¬ (0 : Int32) = 23 by decide)]

/-- one word, on both sides -/
def PS (n : Nat) (u : ST) : Prop := (fX5_isIllegal (nI n) = 0 ∧ ¬ fX3_groupOf (nI n) = 0 ∧ fX4_perform (nI n) u = Fin u (fX5_does (nI n) (sNx u (pN u)))) ∨ (fX5_isIllegal (nI n) = 1 ∧ fX3_groupOf (nI n) = 0 ∧ fX4_perform (nI n) u = (u, 2))
theorem PS.leg {n : Nat} {u : ST} {k : Int32} (h1 : fX5_isIllegal (nI n) = 0) (h2 : fX3_groupOf (nI n) = k) (hk : ¬ k = 0) (h3 : fX4_perform (nI n) u = Fin u (fX5_does (nI n) (sNx u (pN u)))) : PS n u := Or.inl ⟨h1, by rw [h2]; exact hk, h3⟩
theorem PS.ill {n : Nat} {u : ST} (h1 : fX5_isIllegal (nI n) = 1) (h2 : fX3_groupOf (nI n) = 0) : PS n u := Or.inr ⟨h1, h2, pf_0 h2 u⟩
theorem ill_ok {n : Nat} (hn : n < 65536) (h : 256 ≤ n) (h1 : ¬ n / 1024 = 36) (h2 : ¬ n / 512 = 74) (h3 : ¬ n / 2048 = 31) : fX5_isIllegal (nI n) = 0 := by
  rw [ill_rest hn h h1 h2, if_neg (by omega)]
/-! the lowest words -/
theorem PS_0 {n : Nat} (hn : n < 65536) {u : ST} (hu : IB u) (hw : IW u) (h : n / 4096 = 0) : PS n u := by
  have hg := grp_t0 hn h
  have hd := does_t0 hn h (sNx u (pN u))
  unfold fX3_lowGroupOf at hg
  rw [jn8 (by omega)] at hg
  simp only [eL0 (show n < 2147483648 by omega), eL0 (show n / 256 < 2147483648 by omega), eL1 (show n / 256 < 2147483648 by omega), eL2 (show n / 256 < 2147483648 by omega), eL3 (show n / 256 < 2147483648 by omega)] at hg
  simp only [le1023 (show n < 2147483648 by omega), le511 (show n < 2147483648 by omega), le255 (show n < 2147483648 by omega)] at hd
  by_cases c : n < 256
  · have hi := ill_low hn c
    by_cases c0 : n = 0
    · rw [if_pos c0] at hi hg
      rw [if_pos (by omega), if_pos (by omega), if_pos (by omega)] at hd
      refine PS.leg hi hg (by decide) ?_
      rw [pf_1 hg, hd]
      exact fin_data rfl rfl rfl
    · rw [if_neg c0] at hi
      rw [if_neg c0, if_pos (by omega)] at hg
      exact PS.ill hi hg
  · have hi := ill_ok hn (by omega) (by omega) (by omega) (by omega)
    rw [if_neg (by omega), if_neg (by omega)] at hg
    by_cases c1 : n / 256 = 1
    · rw [if_pos c1] at hg
      rw [if_pos (by omega), if_pos (by omega), if_neg (by omega)] at hd
      refine PS.leg hi hg (by decide) ?_
      rw [pf_2 hg, hd]
      exact g_movepair _
    rw [if_neg c1] at hg
    by_cases c2 : n / 256 = 2
    · rw [if_pos c2] at hg
      rw [if_pos (by omega), if_neg (by omega)] at hd
      refine PS.leg hi hg (by decide) ?_
      rw [pf_3 hg, hd]
      exact g_products hu hn (Or.inl c2)
    rw [if_neg c2] at hg
    by_cases c3 : n / 256 = 3
    · rw [if_pos c3] at hg
      rw [if_pos (by omega), if_neg (by omega)] at hd
      refine PS.leg hi hg (by decide) ?_
      rw [pf_3 hg, hd]
      exact g_products hu hn (Or.inr c3)
    rw [if_neg c3] at hg
    rw [if_neg (by omega)] at hd
    refine PS.leg hi hg (by decide) ?_
    rw [pf_4 hg, hd]
    exact g_two hu _ (g_skip hw)

theorem PS_1 {n : Nat} (hn : n < 65536) {u : ST} (hu : IB u) (hw : IW u) (h : n / 4096 = 1) : PS n u := by
  have hg := grp_t1 hn h
  have hi := ill_ok hn (by omega) (by omega) (by omega) (by omega)
  refine PS.leg hi hg (by decide) ?_
  rw [pf_4 hg, does_t1 hn h]
  exact g_two hu _ (g_skip hw)

theorem PS_2 {n : Nat} (hn : n < 65536) {u : ST} (hu : IB u) (hw : IW u) (h : n / 4096 = 2) : PS n u := by
  have hg := grp_t2 hn h
  have hi := ill_ok hn (by omega) (by omega) (by omega) (by omega)
  refine PS.leg hi hg (by decide) ?_
  rw [pf_4 hg, does_t2 hn h]
  exact g_two hu _ (g_skip hw)

theorem PS_3 {n : Nat} (hn : n < 65536) {u : ST} (hu : IB u) (hw : IW u) (h : n / 4096 = 3) : PS n u := by
  have hg := grp_t3 hn h
  have hi := ill_ok hn (by omega) (by omega) (by omega) (by omega)
  refine PS.leg hi hg (by decide) ?_
  rw [pf_5 hg, does_t3 hn h]
  exact g_num hu _

theorem PS_4 {n : Nat} (hn : n < 65536) {u : ST} (hu : IB u) (hw : IW u) (h : n / 4096 = 4) : PS n u := by
  have hg := grp_t4 hn h
  have hi := ill_ok hn (by omega) (by omega) (by omega) (by omega)
  refine PS.leg hi hg (by decide) ?_
  rw [pf_5 hg, does_t4 hn h]
  exact g_num hu _

theorem PS_5 {n : Nat} (hn : n < 65536) {u : ST} (hu : IB u) (hw : IW u) (h : n / 4096 = 5) : PS n u := by
  have hg := grp_t5 hn h
  have hi := ill_ok hn (by omega) (by omega) (by omega) (by omega)
  refine PS.leg hi hg (by decide) ?_
  rw [pf_5 hg, does_t5 hn h]
  exact g_num hu _

theorem PS_6 {n : Nat} (hn : n < 65536) {u : ST} (hu : IB u) (hw : IW u) (h : n / 4096 = 6) : PS n u := by
  have hg := grp_t6 hn h
  have hi := ill_ok hn (by omega) (by omega) (by omega) (by omega)
  refine PS.leg hi hg (by decide) ?_
  rw [pf_5 hg, does_t6 hn h]
  exact g_num hu _

theorem PS_7 {n : Nat} (hn : n < 65536) {u : ST} (hu : IB u) (hw : IW u) (h : n / 4096 = 7) : PS n u := by
  have hg := grp_t7 hn h
  have hi := ill_ok hn (by omega) (by omega) (by omega) (by omega)
  refine PS.leg hi hg (by decide) ?_
  rw [pf_5 hg, does_t7 hn h]
  exact g_num hu _

theorem PS_14 {n : Nat} (hn : n < 65536) {u : ST} (hu : IB u) (hw : IW u) (h : n / 4096 = 14) : PS n u := by
  have hg := grp_t14 hn h
  have hi := ill_ok hn (by omega) (by omega) (by omega) (by omega)
  refine PS.leg hi hg (by decide) ?_
  rw [pf_5 hg, does_t14 hn h]
  exact g_num hu _

theorem PS_8 {n : Nat} (hn : n < 65536) {u : ST} (hu : IB u) (hw : IW u) (h : n / 4096 = 8) : PS n u := by
  have hg := grp_t8 hn h
  have hi := ill_ok hn (by omega) (by omega) (by omega) (by omega)
  refine PS.leg hi hg (by decide) ?_
  rw [pf_12 hg, does_t8 hn h]
  exact g_beside hu _

theorem PS_10 {n : Nat} (hn : n < 65536) {u : ST} (hu : IB u) (hw : IW u) (h : n / 4096 = 10) : PS n u := by
  have hg := grp_t10 hn h
  have hi := ill_ok hn (by omega) (by omega) (by omega) (by omega)
  refine PS.leg hi hg (by decide) ?_
  rw [pf_12 hg, does_t10 hn h]
  exact g_beside hu _

theorem PS_11 {n : Nat} (hn : n < 65536) {u : ST} (hu : IB u) (hw : IW u) (h : n / 4096 = 11) : PS n u := by
  have hg := grp_t11 hn h
  have hi := ill_ok hn (by omega) (by omega) (by omega) (by omega)
  refine PS.leg hi hg (by decide) ?_
  rw [pf_14 hg, does_t11 hn h]
  exact g_port hu _

theorem PS_12 {n : Nat} (hn : n < 65536) {u : ST} (hu : IB u) (hw : IW u) (h : n / 4096 = 12) : PS n u := by
  have hg := grp_t12 hn h
  have hi := ill_ok hn (by omega) (by omega) (by omega) (by omega)
  refine PS.leg hi hg (by decide) ?_
  rw [pf_19 hg]
  exact g_near hu hn (Or.inl h)

theorem PS_13 {n : Nat} (hn : n < 65536) {u : ST} (hu : IB u) (hw : IW u) (h : n / 4096 = 13) : PS n u := by
  have hg := grp_t13 hn h
  have hi := ill_ok hn (by omega) (by omega) (by omega) (by omega)
  refine PS.leg hi hg (by decide) ?_
  rw [pf_19 hg]
  exact g_near hu hn (Or.inr h)

theorem PS_15 {n : Nat} (hn : n < 65536) {u : ST} (hu : IB u) (hw : IW u) (h : n / 4096 = 15) : PS n u := by
  have hg := grp_t15 hn h
  have hi := ill_rest hn (by omega) (by omega) (by omega)
  have hd := does_t15 hn h (sNx u (pN u))
  unfold fX3_highGroupOf at hg
  rw [ab11 (by omega), ab3 (by omega), ab10 (by omega)] at hg
  simp only [eL0 (show n / 2048 % 2 * 2048 < 2147483648 by omega), eL0 (show n / 8 % 2 * 8 < 2147483648 by omega), eL0 (show n / 1024 % 2 * 1024 < 2147483648 by omega)] at hg
  by_cases c : n / 2048 = 30
  · rw [if_pos (by omega)] at hg
    rw [if_neg (by omega)] at hi
    refine PS.leg hi hg (by decide) ?_
    rw [pf_20 hg, hd]
    exact g_branch hu hn c
  · rw [if_neg (by omega)] at hg
    have h15 : ∀ v, fX5_ofFifteen (nI n) v = (fX5_ofBit (nI n) v, 0) := fun v => by
      unfold fX5_ofFifteen
      rw [if_neg (by rw [lt63488 (by omega)]; omega)]
    by_cases c8 : n / 8 % 2 = 1
    · rw [if_neg (by omega)] at hg
      rw [if_pos ⟨by omega, c8⟩] at hi
      exact PS.ill hi hg
    · rw [if_pos (by omega)] at hg
      rw [if_neg (by omega)] at hi
      rw [h15] at hd
      by_cases c10 : n / 1024 = 62
      · rw [if_pos (by omega)] at hg
        refine PS.leg hi hg (by decide) ?_
        rw [pf_18 hg, hd]
        exact g_movebit hu hn c10
      · rw [if_neg (by omega)] at hg
        refine PS.leg hi hg (by decide) ?_
        rw [pf_17 hg, hd]
        exact g_skipbit hu hw hn (by omega)
/-! words of memory -/

theorem mg_l0 {n : Nat} (hn : n < 65536) (h : n % 16 = 0) : fX3_memoryGroupOf (nI n) = 9 := by
  have e15 : nI n &&& (15 : Int32) = nI 0 := by rw [an15 (by omega), h]
  unfold fX3_memoryGroupOf
  rw [e15]
  rfl

theorem mb_l0 {n : Nat} (hn : n < 65536) (h : n % 16 = 0) : fX5_isBadMemory (nI n) = 0 := by
  have e15 : nI n &&& (15 : Int32) = nI 0 := by rw [an15 (by omega), h]
  have ch : fX5_changes (nI n) = 0 := by unfold fX5_changes; rw [e15]; rfl
  unfold fX5_isBadMemory
  rw [e15, ch]
  by_cases c : (nI n &&& (512 : Int32)) = 0
  · simp only [if_pos c]
    rfl
  · simp only [if_neg c]
    rfl

theorem mg_l1 {n : Nat} (hn : n < 65536) (h : n % 16 = 1) : fX3_memoryGroupOf (nI n) = if fX3_isOneOf (fX3_d (nI n)) (fX3_pointer (nI n)) = 0 then 10 else 0 := by
  have e15 : nI n &&& (15 : Int32) = nI 1 := by rw [an15 (by omega), h]
  unfold fX3_memoryGroupOf
  rw [e15]
  rfl

theorem mb_l1 {n : Nat} (hn : n < 65536) (h : n % 16 = 1) : fX5_isBadMemory (nI n) = (if fX5_dOf (nI n) = 30 then 1 else (if fX5_dOf (nI n) = 31 then 1 else 0)) := by
  have e15 : nI n &&& (15 : Int32) = nI 1 := by rw [an15 (by omega), h]
  have ch : fX5_changes (nI n) = 30 := by unfold fX5_changes; rw [e15]; rfl
  unfold fX5_isBadMemory
  rw [e15, ch]
  by_cases c : (nI n &&& (512 : Int32)) = 0
  · simp only [if_pos c]
    rfl
  · simp only [if_neg c]
    rfl

theorem mg_l2 {n : Nat} (hn : n < 65536) (h : n % 16 = 2) : fX3_memoryGroupOf (nI n) = if fX3_isOneOf (fX3_d (nI n)) (fX3_pointer (nI n)) = 0 then 10 else 0 := by
  have e15 : nI n &&& (15 : Int32) = nI 2 := by rw [an15 (by omega), h]
  unfold fX3_memoryGroupOf
  rw [e15]
  rfl

theorem mb_l2 {n : Nat} (hn : n < 65536) (h : n % 16 = 2) : fX5_isBadMemory (nI n) = (if fX5_dOf (nI n) = 30 then 1 else (if fX5_dOf (nI n) = 31 then 1 else 0)) := by
  have e15 : nI n &&& (15 : Int32) = nI 2 := by rw [an15 (by omega), h]
  have ch : fX5_changes (nI n) = 30 := by unfold fX5_changes; rw [e15]; rfl
  unfold fX5_isBadMemory
  rw [e15, ch]
  by_cases c : (nI n &&& (512 : Int32)) = 0
  · simp only [if_pos c]
    rfl
  · simp only [if_neg c]
    rfl

theorem mg_l3 {n : Nat} (hn : n < 65536) (h : n % 16 = 3) : fX3_memoryGroupOf (nI n) = 0 := by
  have e15 : nI n &&& (15 : Int32) = nI 3 := by rw [an15 (by omega), h]
  unfold fX3_memoryGroupOf
  rw [e15]
  rfl

theorem mb_l3 {n : Nat} (hn : n < 65536) (h : n % 16 = 3) : fX5_isBadMemory (nI n) = 1 := by
  have e15 : nI n &&& (15 : Int32) = nI 3 := by rw [an15 (by omega), h]
  have ch : fX5_changes (nI n) = 0 := by unfold fX5_changes; rw [e15]; rfl
  unfold fX5_isBadMemory
  rw [e15, ch]
  rfl

theorem mg_l4 {n : Nat} (hn : n < 65536) (h : n % 16 = 4) : fX3_memoryGroupOf (nI n) = if (nI n &&& (512 : Int32)) = 0 then 13 else 0 := by
  have e15 : nI n &&& (15 : Int32) = nI 4 := by rw [an15 (by omega), h]
  unfold fX3_memoryGroupOf
  rw [e15]
  rfl

theorem mb_l4 {n : Nat} (hn : n < 65536) (h : n % 16 = 4) : fX5_isBadMemory (nI n) = if (nI n &&& (512 : Int32)) = 0 then 0 else 1 := by
  have e15 : nI n &&& (15 : Int32) = nI 4 := by rw [an15 (by omega), h]
  have ch : fX5_changes (nI n) = 0 := by unfold fX5_changes; rw [e15]; rfl
  unfold fX5_isBadMemory
  rw [e15, ch]
  by_cases c : (nI n &&& (512 : Int32)) = 0
  · simp only [if_pos c]
    rfl
  · simp only [if_neg c]
    rfl

theorem mg_l5 {n : Nat} (hn : n < 65536) (h : n % 16 = 5) : fX3_memoryGroupOf (nI n) = if (nI n &&& (512 : Int32)) = 0 then (if fX3_isOneOf (fX3_d (nI n)) 30 = 0 then 13 else 0) else 0 := by
  have e15 : nI n &&& (15 : Int32) = nI 5 := by rw [an15 (by omega), h]
  unfold fX3_memoryGroupOf
  rw [e15]
  rfl

theorem mb_l5 {n : Nat} (hn : n < 65536) (h : n % 16 = 5) : fX5_isBadMemory (nI n) = if (nI n &&& (512 : Int32)) = 0 then (if fX5_dOf (nI n) = 30 then 1 else (if fX5_dOf (nI n) = 31 then 1 else 0)) else 1 := by
  have e15 : nI n &&& (15 : Int32) = nI 5 := by rw [an15 (by omega), h]
  have ch : fX5_changes (nI n) = 30 := by unfold fX5_changes; rw [e15]; rfl
  unfold fX5_isBadMemory
  rw [e15, ch]
  by_cases c : (nI n &&& (512 : Int32)) = 0
  · simp only [if_pos c]
    rfl
  · simp only [if_neg c]
    rfl

theorem mg_l6 {n : Nat} (hn : n < 65536) (h : n % 16 = 6) : fX3_memoryGroupOf (nI n) = 0 := by
  have e15 : nI n &&& (15 : Int32) = nI 6 := by rw [an15 (by omega), h]
  unfold fX3_memoryGroupOf
  rw [e15]
  rfl

theorem mb_l6 {n : Nat} (hn : n < 65536) (h : n % 16 = 6) : fX5_isBadMemory (nI n) = 1 := by
  have e15 : nI n &&& (15 : Int32) = nI 6 := by rw [an15 (by omega), h]
  have ch : fX5_changes (nI n) = 0 := by unfold fX5_changes; rw [e15]; rfl
  unfold fX5_isBadMemory
  rw [e15, ch]
  rfl

theorem mg_l7 {n : Nat} (hn : n < 65536) (h : n % 16 = 7) : fX3_memoryGroupOf (nI n) = 0 := by
  have e15 : nI n &&& (15 : Int32) = nI 7 := by rw [an15 (by omega), h]
  unfold fX3_memoryGroupOf
  rw [e15]
  rfl

theorem mb_l7 {n : Nat} (hn : n < 65536) (h : n % 16 = 7) : fX5_isBadMemory (nI n) = 1 := by
  have e15 : nI n &&& (15 : Int32) = nI 7 := by rw [an15 (by omega), h]
  have ch : fX5_changes (nI n) = 0 := by unfold fX5_changes; rw [e15]; rfl
  unfold fX5_isBadMemory
  rw [e15, ch]
  rfl

theorem mg_l8 {n : Nat} (hn : n < 65536) (h : n % 16 = 8) : fX3_memoryGroupOf (nI n) = 0 := by
  have e15 : nI n &&& (15 : Int32) = nI 8 := by rw [an15 (by omega), h]
  unfold fX3_memoryGroupOf
  rw [e15]
  rfl

theorem mb_l8 {n : Nat} (hn : n < 65536) (h : n % 16 = 8) : fX5_isBadMemory (nI n) = 1 := by
  have e15 : nI n &&& (15 : Int32) = nI 8 := by rw [an15 (by omega), h]
  have ch : fX5_changes (nI n) = 0 := by unfold fX5_changes; rw [e15]; rfl
  unfold fX5_isBadMemory
  rw [e15, ch]
  rfl

theorem mg_l9 {n : Nat} (hn : n < 65536) (h : n % 16 = 9) : fX3_memoryGroupOf (nI n) = if fX3_isOneOf (fX3_d (nI n)) (fX3_pointer (nI n)) = 0 then 10 else 0 := by
  have e15 : nI n &&& (15 : Int32) = nI 9 := by rw [an15 (by omega), h]
  unfold fX3_memoryGroupOf
  rw [e15]
  rfl

theorem mb_l9 {n : Nat} (hn : n < 65536) (h : n % 16 = 9) : fX5_isBadMemory (nI n) = (if fX5_dOf (nI n) = 28 then 1 else (if fX5_dOf (nI n) = 29 then 1 else 0)) := by
  have e15 : nI n &&& (15 : Int32) = nI 9 := by rw [an15 (by omega), h]
  have ch : fX5_changes (nI n) = 28 := by unfold fX5_changes; rw [e15]; rfl
  unfold fX5_isBadMemory
  rw [e15, ch]
  by_cases c : (nI n &&& (512 : Int32)) = 0
  · simp only [if_pos c]
    rfl
  · simp only [if_neg c]
    rfl

theorem mg_l10 {n : Nat} (hn : n < 65536) (h : n % 16 = 10) : fX3_memoryGroupOf (nI n) = if fX3_isOneOf (fX3_d (nI n)) (fX3_pointer (nI n)) = 0 then 10 else 0 := by
  have e15 : nI n &&& (15 : Int32) = nI 10 := by rw [an15 (by omega), h]
  unfold fX3_memoryGroupOf
  rw [e15]
  rfl

theorem mb_l10 {n : Nat} (hn : n < 65536) (h : n % 16 = 10) : fX5_isBadMemory (nI n) = (if fX5_dOf (nI n) = 28 then 1 else (if fX5_dOf (nI n) = 29 then 1 else 0)) := by
  have e15 : nI n &&& (15 : Int32) = nI 10 := by rw [an15 (by omega), h]
  have ch : fX5_changes (nI n) = 28 := by unfold fX5_changes; rw [e15]; rfl
  unfold fX5_isBadMemory
  rw [e15, ch]
  by_cases c : (nI n &&& (512 : Int32)) = 0
  · simp only [if_pos c]
    rfl
  · simp only [if_neg c]
    rfl

theorem mg_l11 {n : Nat} (hn : n < 65536) (h : n % 16 = 11) : fX3_memoryGroupOf (nI n) = 0 := by
  have e15 : nI n &&& (15 : Int32) = nI 11 := by rw [an15 (by omega), h]
  unfold fX3_memoryGroupOf
  rw [e15]
  rfl

theorem mb_l11 {n : Nat} (hn : n < 65536) (h : n % 16 = 11) : fX5_isBadMemory (nI n) = 1 := by
  have e15 : nI n &&& (15 : Int32) = nI 11 := by rw [an15 (by omega), h]
  have ch : fX5_changes (nI n) = 0 := by unfold fX5_changes; rw [e15]; rfl
  unfold fX5_isBadMemory
  rw [e15, ch]
  rfl

theorem mg_l12 {n : Nat} (hn : n < 65536) (h : n % 16 = 12) : fX3_memoryGroupOf (nI n) = 10 := by
  have e15 : nI n &&& (15 : Int32) = nI 12 := by rw [an15 (by omega), h]
  unfold fX3_memoryGroupOf
  rw [e15]
  rfl

theorem mb_l12 {n : Nat} (hn : n < 65536) (h : n % 16 = 12) : fX5_isBadMemory (nI n) = 0 := by
  have e15 : nI n &&& (15 : Int32) = nI 12 := by rw [an15 (by omega), h]
  have ch : fX5_changes (nI n) = 0 := by unfold fX5_changes; rw [e15]; rfl
  unfold fX5_isBadMemory
  rw [e15, ch]
  by_cases c : (nI n &&& (512 : Int32)) = 0
  · simp only [if_pos c]
    rfl
  · simp only [if_neg c]
    rfl

theorem mg_l13 {n : Nat} (hn : n < 65536) (h : n % 16 = 13) : fX3_memoryGroupOf (nI n) = if fX3_isOneOf (fX3_d (nI n)) (fX3_pointer (nI n)) = 0 then 10 else 0 := by
  have e15 : nI n &&& (15 : Int32) = nI 13 := by rw [an15 (by omega), h]
  unfold fX3_memoryGroupOf
  rw [e15]
  rfl

theorem mb_l13 {n : Nat} (hn : n < 65536) (h : n % 16 = 13) : fX5_isBadMemory (nI n) = (if fX5_dOf (nI n) = 26 then 1 else (if fX5_dOf (nI n) = 27 then 1 else 0)) := by
  have e15 : nI n &&& (15 : Int32) = nI 13 := by rw [an15 (by omega), h]
  have ch : fX5_changes (nI n) = 26 := by unfold fX5_changes; rw [e15]; rfl
  unfold fX5_isBadMemory
  rw [e15, ch]
  by_cases c : (nI n &&& (512 : Int32)) = 0
  · simp only [if_pos c]
    rfl
  · simp only [if_neg c]
    rfl

theorem mg_l14 {n : Nat} (hn : n < 65536) (h : n % 16 = 14) : fX3_memoryGroupOf (nI n) = if fX3_isOneOf (fX3_d (nI n)) (fX3_pointer (nI n)) = 0 then 10 else 0 := by
  have e15 : nI n &&& (15 : Int32) = nI 14 := by rw [an15 (by omega), h]
  unfold fX3_memoryGroupOf
  rw [e15]
  rfl

theorem mb_l14 {n : Nat} (hn : n < 65536) (h : n % 16 = 14) : fX5_isBadMemory (nI n) = (if fX5_dOf (nI n) = 26 then 1 else (if fX5_dOf (nI n) = 27 then 1 else 0)) := by
  have e15 : nI n &&& (15 : Int32) = nI 14 := by rw [an15 (by omega), h]
  have ch : fX5_changes (nI n) = 26 := by unfold fX5_changes; rw [e15]; rfl
  unfold fX5_isBadMemory
  rw [e15, ch]
  by_cases c : (nI n &&& (512 : Int32)) = 0
  · simp only [if_pos c]
    rfl
  · simp only [if_neg c]
    rfl

theorem mg_l15 {n : Nat} (hn : n < 65536) (h : n % 16 = 15) : fX3_memoryGroupOf (nI n) = 11 := by
  have e15 : nI n &&& (15 : Int32) = nI 15 := by rw [an15 (by omega), h]
  unfold fX3_memoryGroupOf
  rw [e15]
  rfl

theorem mb_l15 {n : Nat} (hn : n < 65536) (h : n % 16 = 15) : fX5_isBadMemory (nI n) = 0 := by
  have e15 : nI n &&& (15 : Int32) = nI 15 := by rw [an15 (by omega), h]
  have ch : fX5_changes (nI n) = 0 := by unfold fX5_changes; rw [e15]; rfl
  unfold fX5_isBadMemory
  rw [e15, ch]
  by_cases c : (nI n &&& (512 : Int32)) = 0
  · simp only [if_pos c]
    rfl
  · simp only [if_neg c]
    rfl

theorem one_of {A : Nat} (hA : A = 26 ∨ A = 28 ∨ A = 30) (w : Int32) : (fX3_isOneOf (fX3_d w) (nI A) = 0 ↔ ¬ (fX5_dOf w = nI A ∨ fX5_dOf w = nI (A + 1))) := by
  have hr := r_m (jshr w 4) 31 (by decide)
  obtain ⟨d, hd, e⟩ := ex_nI (x := (jshr w 4) &&& (31 : Int32)) (N := 32) hr.1 (Int.lt_of_le_of_lt hr.2 (by decide)) (by decide)
  unfold fX3_isOneOf fX3_d fX5_dOf
  rw [e]
  have key : ∀ A, (A = 26 ∨ A = 28 ∨ A = 30) → ∀ d, d < 32 → ((if (nI d &&& (30 : Int32)) = nI A then (1 : Int32) else 0) = 0 ↔ ¬ (nI d = nI A ∨ nI d = nI (A + 1))) := by
    intro A hA
    rcases hA with rfl | rfl | rfl <;> decide
  exact key A hA d hd
theorem stack_l15 {n : Nat} (hn : n < 65536) (h : n % 16 = 15) (v : ST) : fX5_ofMemory (nI n) v = fX5_ofStack (nI n) v := by
  unfold fX5_ofMemory
  rw [an15 (by omega), h, if_pos (show nI 15 = 15 from rfl)]

theorem PS_mem {n : Nat} (hn : n < 65536) {u : ST} (hu : IB u) (hw : IW u) (h : n / 1024 = 36) : PS n u := by
  have hi := ill_mem hn h
  have hd := (does_t9 hn (by omega) (sNx u (pN u))).trans (nine_mem hn h _)
  have hg : fX3_groupOf (nI n) = fX3_memoryGroupOf (nI n) := by
    rw [grp_t9 hn (by omega)]
    rcases (show n / 256 = 144 ∨ n / 256 = 145 ∨ n / 256 = 146 ∨ n / 256 = 147 by omega) with c | c | c | c
    · exact mix_s0 hn c
    · exact mix_s1 hn c
    · exact mix_s2 hn c
    · exact mix_s3 hn c
  rcases (show n % 16 = 0 ∨ n % 16 = 1 ∨ n % 16 = 2 ∨ n % 16 = 3 ∨ n % 16 = 4 ∨ n % 16 = 5 ∨ n % 16 = 6 ∨ n % 16 = 7 ∨ n % 16 = 8 ∨ n % 16 = 9 ∨ n % 16 = 10 ∨ n % 16 = 11 ∨ n % 16 = 12 ∨ n % 16 = 13 ∨ n % 16 = 14 ∨ n % 16 = 15 by omega) with c | c | c | c | c | c | c | c | c | c | c | c | c | c | c | c
  · rw [mg_l0 hn c] at hg
    rw [mb_l0 hn c] at hi
    refine PS.leg hi hg (by decide) ?_
    rw [pf_9 hg, hd]
    exact g_atnext hu hw hn c
  · rw [mg_l1 hn c, (ptr_l1 hn c).1] at hg
    rw [mb_l1 hn c] at hi
    have key := one_of (A := 30) (by decide) (nI n)
    by_cases q2 : fX3_isOneOf (fX3_d (nI n)) 30 = 0
    · have k2 := not_or.mp (key.mp q2)
      rw [if_pos q2] at hg
      rw [if_neg (show ¬ fX5_dOf (nI n) = 30 from k2.1), if_neg (show ¬ fX5_dOf (nI n) = 31 from k2.2)] at hi
      refine PS.leg hi hg (by decide) ?_
      rw [pf_10 hg, hd]
      exact g_ptr_l1 hu hn c
    · rw [if_neg q2] at hg
      refine PS.ill ?_ hg
      rw [hi]
      by_cases q3 : fX5_dOf (nI n) = 30
      · rw [if_pos q3]
      · rw [if_neg q3]
        by_cases q4 : fX5_dOf (nI n) = 31
        · rw [if_pos q4]
        · exact absurd (key.mpr (not_or.mpr ⟨q3, q4⟩)) q2
  · rw [mg_l2 hn c, (ptr_l2 hn c).1] at hg
    rw [mb_l2 hn c] at hi
    have key := one_of (A := 30) (by decide) (nI n)
    by_cases q2 : fX3_isOneOf (fX3_d (nI n)) 30 = 0
    · have k2 := not_or.mp (key.mp q2)
      rw [if_pos q2] at hg
      rw [if_neg (show ¬ fX5_dOf (nI n) = 30 from k2.1), if_neg (show ¬ fX5_dOf (nI n) = 31 from k2.2)] at hi
      refine PS.leg hi hg (by decide) ?_
      rw [pf_10 hg, hd]
      exact g_ptr_l2 hu hn c
    · rw [if_neg q2] at hg
      refine PS.ill ?_ hg
      rw [hi]
      by_cases q3 : fX5_dOf (nI n) = 30
      · rw [if_pos q3]
      · rw [if_neg q3]
        by_cases q4 : fX5_dOf (nI n) = 31
        · rw [if_pos q4]
        · exact absurd (key.mpr (not_or.mpr ⟨q3, q4⟩)) q2
  · exact PS.ill (by rw [hi, mb_l3 hn c]) (by rw [hg, mg_l3 hn c])
  · rw [mg_l4 hn c] at hg
    rw [mb_l4 hn c] at hi
    by_cases q : (nI n &&& (512 : Int32)) = 0
    · rw [if_pos q] at hg hi
      refine PS.leg hi hg (by decide) ?_
      rw [pf_13 hg, hd]
      exact g_code4 hu hw hn h c
    · rw [if_neg q] at hg hi
      exact PS.ill hi hg
  · rw [mg_l5 hn c] at hg
    rw [mb_l5 hn c] at hi
    have key := one_of (A := 30) (by decide) (nI n)
    by_cases q : (nI n &&& (512 : Int32)) = 0
    · rw [if_pos q] at hg hi
      by_cases q2 : fX3_isOneOf (fX3_d (nI n)) 30 = 0
      · have k2 := not_or.mp (key.mp q2)
        rw [if_pos q2] at hg
        rw [if_neg (show ¬ fX5_dOf (nI n) = 30 from k2.1), if_neg (show ¬ fX5_dOf (nI n) = 31 from k2.2)] at hi
        refine PS.leg hi hg (by decide) ?_
        rw [pf_13 hg, hd]
        exact g_code5 hu hw hn h c
      · rw [if_neg q2] at hg
        refine PS.ill ?_ hg
        rw [hi]
        by_cases q3 : fX5_dOf (nI n) = 30
        · rw [if_pos q3]
        · rw [if_neg q3]
          by_cases q4 : fX5_dOf (nI n) = 31
          · rw [if_pos q4]
          · exact absurd (key.mpr (not_or.mpr ⟨q3, q4⟩)) q2
    · rw [if_neg q] at hg hi
      exact PS.ill hi hg
  · exact PS.ill (by rw [hi, mb_l6 hn c]) (by rw [hg, mg_l6 hn c])
  · exact PS.ill (by rw [hi, mb_l7 hn c]) (by rw [hg, mg_l7 hn c])
  · exact PS.ill (by rw [hi, mb_l8 hn c]) (by rw [hg, mg_l8 hn c])
  · rw [mg_l9 hn c, (ptr_l9 hn c).1] at hg
    rw [mb_l9 hn c] at hi
    have key := one_of (A := 28) (by decide) (nI n)
    by_cases q2 : fX3_isOneOf (fX3_d (nI n)) 28 = 0
    · have k2 := not_or.mp (key.mp q2)
      rw [if_pos q2] at hg
      rw [if_neg (show ¬ fX5_dOf (nI n) = 28 from k2.1), if_neg (show ¬ fX5_dOf (nI n) = 29 from k2.2)] at hi
      refine PS.leg hi hg (by decide) ?_
      rw [pf_10 hg, hd]
      exact g_ptr_l9 hu hn c
    · rw [if_neg q2] at hg
      refine PS.ill ?_ hg
      rw [hi]
      by_cases q3 : fX5_dOf (nI n) = 28
      · rw [if_pos q3]
      · rw [if_neg q3]
        by_cases q4 : fX5_dOf (nI n) = 29
        · rw [if_pos q4]
        · exact absurd (key.mpr (not_or.mpr ⟨q3, q4⟩)) q2
  · rw [mg_l10 hn c, (ptr_l10 hn c).1] at hg
    rw [mb_l10 hn c] at hi
    have key := one_of (A := 28) (by decide) (nI n)
    by_cases q2 : fX3_isOneOf (fX3_d (nI n)) 28 = 0
    · have k2 := not_or.mp (key.mp q2)
      rw [if_pos q2] at hg
      rw [if_neg (show ¬ fX5_dOf (nI n) = 28 from k2.1), if_neg (show ¬ fX5_dOf (nI n) = 29 from k2.2)] at hi
      refine PS.leg hi hg (by decide) ?_
      rw [pf_10 hg, hd]
      exact g_ptr_l10 hu hn c
    · rw [if_neg q2] at hg
      refine PS.ill ?_ hg
      rw [hi]
      by_cases q3 : fX5_dOf (nI n) = 28
      · rw [if_pos q3]
      · rw [if_neg q3]
        by_cases q4 : fX5_dOf (nI n) = 29
        · rw [if_pos q4]
        · exact absurd (key.mpr (not_or.mpr ⟨q3, q4⟩)) q2
  · exact PS.ill (by rw [hi, mb_l11 hn c]) (by rw [hg, mg_l11 hn c])
  · rw [mg_l12 hn c] at hg
    rw [mb_l12 hn c] at hi
    refine PS.leg hi hg (by decide) ?_
    rw [pf_10 hg, hd]
    exact g_ptr_l12 hu hn c
  · rw [mg_l13 hn c, (ptr_l13 hn c).1] at hg
    rw [mb_l13 hn c] at hi
    have key := one_of (A := 26) (by decide) (nI n)
    by_cases q2 : fX3_isOneOf (fX3_d (nI n)) 26 = 0
    · have k2 := not_or.mp (key.mp q2)
      rw [if_pos q2] at hg
      rw [if_neg (show ¬ fX5_dOf (nI n) = 26 from k2.1), if_neg (show ¬ fX5_dOf (nI n) = 27 from k2.2)] at hi
      refine PS.leg hi hg (by decide) ?_
      rw [pf_10 hg, hd]
      exact g_ptr_l13 hu hn c
    · rw [if_neg q2] at hg
      refine PS.ill ?_ hg
      rw [hi]
      by_cases q3 : fX5_dOf (nI n) = 26
      · rw [if_pos q3]
      · rw [if_neg q3]
        by_cases q4 : fX5_dOf (nI n) = 27
        · rw [if_pos q4]
        · exact absurd (key.mpr (not_or.mpr ⟨q3, q4⟩)) q2
  · rw [mg_l14 hn c, (ptr_l14 hn c).1] at hg
    rw [mb_l14 hn c] at hi
    have key := one_of (A := 26) (by decide) (nI n)
    by_cases q2 : fX3_isOneOf (fX3_d (nI n)) 26 = 0
    · have k2 := not_or.mp (key.mp q2)
      rw [if_pos q2] at hg
      rw [if_neg (show ¬ fX5_dOf (nI n) = 26 from k2.1), if_neg (show ¬ fX5_dOf (nI n) = 27 from k2.2)] at hi
      refine PS.leg hi hg (by decide) ?_
      rw [pf_10 hg, hd]
      exact g_ptr_l14 hu hn c
    · rw [if_neg q2] at hg
      refine PS.ill ?_ hg
      rw [hi]
      by_cases q3 : fX5_dOf (nI n) = 26
      · rw [if_pos q3]
      · rw [if_neg q3]
        by_cases q4 : fX5_dOf (nI n) = 27
        · rw [if_pos q4]
        · exact absurd (key.mpr (not_or.mpr ⟨q3, q4⟩)) q2
  · rw [mg_l15 hn c] at hg
    rw [mb_l15 hn c] at hi
    refine PS.leg hi hg (by decide) ?_
    rw [pf_11 hg, hd, stack_l15 hn c]
    exact g_stack hu _

/-! words of one register, and those that are none of a register -/
theorem grp_one {n : Nat} (hn : n < 65536) (h : n / 512 = 74) : fX3_groupOf (nI n) = fX3_singleGroupOf (nI n) := by
  rw [grp_t9 hn (by omega)]
  rcases (show n / 256 = 148 ∨ n / 256 = 149 by omega) with c | c
  · exact mix_s4 hn c
  · exact mix_s5 hn c
theorem ah240 {n : Nat} (hn : n < 65536) : nI n &&& (240 : Int32) = nI (n / 16 % 16 * 16) := hi_n (M := 240) (m := 0) (k := 4) (j := 4) hn (by decide) (by decide)
theorem PS_one9 {n : Nat} (hn : n < 65536) {u : ST} (hu : IB u) (hw : IW u) (h : n / 512 = 74) (c : n % 16 = 9) : PS n u := by
  have hi := ill_one hn h
  have hg := grp_one hn h
  have e15 : nI n &&& (15 : Int32) = nI 9 := by rw [an15 (by omega), c]
  have hg2 : fX3_singleGroupOf (nI n) = if nI (n / 16 % 16 * 16) = 0 then 22 else 0 := by
    unfold fX3_singleGroupOf
    rw [e15, ah240 hn]
    rfl
  have hi2 : fX5_isBadOne (nI n) = if nI n = 37897 then 0 else (if nI n = 38153 then 0 else 1) := by
    unfold fX5_isBadOne
    rw [e15]
    rfl
  rw [hg2] at hg
  rw [hi2] at hi
  simp only [eL0 (show n / 16 % 16 * 16 < 2147483648 by omega)] at hg
  simp only [eL37897 (show n < 2147483648 by omega), eL38153 (show n < 2147483648 by omega)] at hi
  by_cases c1 : n = 37897
  · subst c1
    rw [if_pos rfl] at hi
    refine PS.leg hi hg (by decide) ?_
    rw [pf_22 hg, does_t9 hn (by decide), nine_one_l9 hn h c]
    exact (g_toz hu).1
  rw [if_neg c1] at hi
  by_cases c2 : n = 38153
  · subst c2
    rw [if_pos rfl] at hi
    refine PS.leg hi hg (by decide) ?_
    rw [pf_22 hg, does_t9 hn (by decide), nine_one_l9 hn h c]
    exact (g_toz hu).2
  rw [if_neg c2] at hi
  rw [if_neg (by omega)] at hg
  exact PS.ill hi hg
theorem PS_one8 {n : Nat} (hn : n < 65536) {u : ST} (hu : IB u) (hw : IW u) (h : n / 512 = 74) (c : n % 16 = 8) : PS n u := by
  have hi := ill_one hn h
  have hg := grp_one hn h
  have hd := (does_t9 hn (by omega) (sNx u (pN u))).trans (nine_one_l8 hn h c _)
  have e15 : nI n &&& (15 : Int32) = nI 8 := by rw [an15 (by omega), c]
  have hi2 : fX5_isBadOne (nI n) = (if (nI n &&& (256 : Int32)) = 0 then 0 else (if nI n = 38152 then 0 else (if nI n = 38168 then 0 else (if nI n = 38344 then 0 else 1)))) := by
    unfold fX5_isBadOne
    rw [e15]
    rfl
  have ho : ∀ v, fX5_ofOthers (nI n) v = (if nI n = 38152 then fX5_returns (nI n) v else if nI n = 38168 then fX5_returns (nI n) v else ((if nI n = 38344 then (wD v 0 (fX5_codeByte (fX5_pair 30 v) v)) else (fX5_flag (jshl 1 ((jshr (nI n) 4) &&& 7)) (if (nI n &&& (128 : Int32)) = 0 then 1 else 0) v)), 0)) := fun v => by
    unfold fX5_ofOthers
    rw [e15, if_pos (show nI 8 ≤ 11 by decide), if_neg (show ¬ nI 8 = 9 by decide)]
  rw [sing_l8 hn c] at hg
  unfold fX3_flagGroupOf at hg
  rw [hi2] at hi
  rw [ab8 (by omega)] at hi
  rw [ab8 (by omega), ah240 hn] at hg
  simp only [eL0 (show n / 256 % 2 * 256 < 2147483648 by omega), eL0 (show n / 16 % 16 * 16 < 2147483648 by omega), eL16 (show n / 16 % 16 * 16 < 2147483648 by omega), show (nI (n / 16 % 16 * 16) = (192 : Int32)) = (n / 16 % 16 * 16 = 192) from propext (nI_eq (b := 192) (by omega) (by decide))] at hg
  simp only [eL0 (show n / 256 % 2 * 256 < 2147483648 by omega), eL38152 (show n < 2147483648 by omega), eL38168 (show n < 2147483648 by omega), eL38344 (show n < 2147483648 by omega)] at hi
  by_cases c0 : n / 256 % 2 = 0
  · rw [if_pos (by omega)] at hg hi
    refine PS.leg hi hg (by decide) ?_
    rw [pf_7 hg, hd, ho, if_neg (by rw [eL38152 (by omega)]; omega), if_neg (by rw [eL38168 (by omega)]; omega), if_neg (by rw [eL38344 (by omega)]; omega)]
    exact g_flag hu _
  rw [if_neg (by omega)] at hg hi
  by_cases c1 : n = 38152
  · subst c1
    rw [if_pos rfl] at hi
    rw [if_pos (by decide)] at hg
    refine PS.leg hi hg (by decide) ?_
    rw [pf_23 hg, hd, ho, if_pos (show nI 38152 = 38152 from rfl)]
    exact g_back hu _
  rw [if_neg c1] at hi
  by_cases c2 : n = 38168
  · subst c2
    rw [if_pos rfl] at hi
    rw [if_neg (by decide), if_pos (by decide)] at hg
    refine PS.leg hi hg (by decide) ?_
    rw [pf_23 hg, hd, ho, if_neg (show ¬ nI 38168 = 38152 by decide), if_pos (show nI 38168 = 38168 from rfl)]
    exact g_back hu _
  rw [if_neg c2] at hi
  by_cases c3 : n = 38344
  · subst c3
    rw [if_pos rfl] at hi
    rw [if_neg (by decide), if_neg (by decide), if_pos (by decide)] at hg
    refine PS.leg hi hg (by decide) ?_
    rw [pf_13 hg, hd]
    exact g_code0 hu hw
  rw [if_neg c3] at hi
  rw [if_neg (by omega), if_neg (by omega), if_neg (by omega)] at hg
  exact PS.ill hi hg
theorem PS_one {n : Nat} (hn : n < 65536) {u : ST} (hu : IB u) (hw : IW u) (h : n / 512 = 74) : PS n u := by
  have hi := ill_one hn h
  have hg := grp_one hn h
  rcases (show n % 16 = 0 ∨ n % 16 = 1 ∨ n % 16 = 2 ∨ n % 16 = 3 ∨ n % 16 = 4 ∨ n % 16 = 5 ∨ n % 16 = 6 ∨ n % 16 = 7 ∨ n % 16 = 8 ∨ n % 16 = 9 ∨ n % 16 = 10 ∨ n % 16 = 11 ∨ n % 16 = 12 ∨ n % 16 = 13 ∨ n % 16 = 14 ∨ n % 16 = 15 by omega) with c | c | c | c | c | c | c | c | c | c | c | c | c | c | c | c
  · rw [sing_l0 hn c] at hg
    rw [bad1_l0 hn c] at hi
    refine PS.leg hi hg (by decide) ?_
    rw [pf_6 hg, does_t9 hn (by omega), nine_one_l0 hn h c]
    exact g_one hu _
  · rw [sing_l1 hn c] at hg
    rw [bad1_l1 hn c] at hi
    refine PS.leg hi hg (by decide) ?_
    rw [pf_6 hg, does_t9 hn (by omega), nine_one_l1 hn h c]
    exact g_one hu _
  · rw [sing_l2 hn c] at hg
    rw [bad1_l2 hn c] at hi
    refine PS.leg hi hg (by decide) ?_
    rw [pf_6 hg, does_t9 hn (by omega), nine_one_l2 hn h c]
    exact g_one hu _
  · rw [sing_l3 hn c] at hg
    rw [bad1_l3 hn c] at hi
    refine PS.leg hi hg (by decide) ?_
    rw [pf_6 hg, does_t9 hn (by omega), nine_one_l3 hn h c]
    exact g_one hu _
  · exact PS.ill (by rw [hi, bad1_l4 hn c]) (by rw [hg, sing_l4 hn c])
  · rw [sing_l5 hn c] at hg
    rw [bad1_l5 hn c] at hi
    refine PS.leg hi hg (by decide) ?_
    rw [pf_6 hg, does_t9 hn (by omega), nine_one_l5 hn h c]
    exact g_one hu _
  · rw [sing_l6 hn c] at hg
    rw [bad1_l6 hn c] at hi
    refine PS.leg hi hg (by decide) ?_
    rw [pf_6 hg, does_t9 hn (by omega), nine_one_l6 hn h c]
    exact g_one hu _
  · rw [sing_l7 hn c] at hg
    rw [bad1_l7 hn c] at hi
    refine PS.leg hi hg (by decide) ?_
    rw [pf_6 hg, does_t9 hn (by omega), nine_one_l7 hn h c]
    exact g_one hu _
  · exact PS_one8 hn hu hw h c
  · exact PS_one9 hn hu hw h c
  · rw [sing_l10 hn c] at hg
    rw [bad1_l10 hn c] at hi
    refine PS.leg hi hg (by decide) ?_
    rw [pf_6 hg, does_t9 hn (by omega), nine_one_l10 hn h c]
    exact g_one hu _
  · exact PS.ill (by rw [hi, bad1_l11 hn c]) (by rw [hg, sing_l11 hn c])
  · rw [sing_l12 hn c] at hg
    rw [bad1_l12 hn c] at hi
    refine PS.leg hi hg (by decide) ?_
    rw [pf_21 hg, does_t9 hn (by omega), nine_one_l12 hn h c]
    exact g_far hu hn (by omega)
  · rw [sing_l13 hn c] at hg
    rw [bad1_l13 hn c] at hi
    refine PS.leg hi hg (by decide) ?_
    rw [pf_21 hg, does_t9 hn (by omega), nine_one_l13 hn h c]
    exact g_far hu hn (by omega)
  · rw [sing_l14 hn c] at hg
    rw [bad1_l14 hn c] at hi
    refine PS.leg hi hg (by decide) ?_
    rw [pf_21 hg, does_t9 hn (by omega), nine_one_l14 hn h c]
    exact g_far hu hn (by omega)
  · rw [sing_l15 hn c] at hg
    rw [bad1_l15 hn c] at hi
    refine PS.leg hi hg (by decide) ?_
    rw [pf_21 hg, does_t9 hn (by omega), nine_one_l15 hn h c]
    exact g_far hu hn (by omega)

theorem PS_9 {n : Nat} (hn : n < 65536) {u : ST} (hu : IB u) (hw : IW u) (h : n / 4096 = 9) : PS n u := by
  by_cases c1 : n / 1024 = 36
  · exact PS_mem hn hu hw c1
  by_cases c2 : n / 512 = 74
  · exact PS_one hn hu hw c2
  have hi := ill_ok hn (by omega) c1 c2 (by omega)
  have hg := grp_t9 hn h
  have hd := does_t9 hn h (sNx u (pN u))
  by_cases c3 : n / 512 = 75
  · have hg2 : fX3_groupOf (nI n) = 8 := by
      rw [hg]
      rcases (show n / 256 = 150 ∨ n / 256 = 151 by omega) with c | c
      · exact mix_s6 hn c
      · exact mix_s7 hn c
    refine PS.leg hi hg2 (by decide) ?_
    rw [pf_8 hg2, hd, nine_pair hn c3]
    exact g_pair hu hn
  by_cases c4 : n / 1024 = 38
  · rw [nine_bit hn c4] at hd
    rcases (show n / 256 = 152 ∨ n / 256 = 153 ∨ n / 256 = 154 ∨ n / 256 = 155 by omega) with c | c | c | c
    · rw [mix_s8 hn c] at hg
      refine PS.leg hi hg (by decide) ?_
      rw [pf_15 hg, hd]
      exact g_portbit0 hu hn (Or.inl c)
    · rw [mix_s9 hn c] at hg
      refine PS.leg hi hg (by decide) ?_
      rw [pf_16 hg, hd]
      exact g_portbit1 hu hw hn (Or.inl c)
    · rw [mix_s10 hn c] at hg
      refine PS.leg hi hg (by decide) ?_
      rw [pf_15 hg, hd]
      exact g_portbit0 hu hn (Or.inr c)
    · rw [mix_s11 hn c] at hg
      refine PS.leg hi hg (by decide) ?_
      rw [pf_16 hg, hd]
      exact g_portbit1 hu hw hn (Or.inr c)
  have c5 : n / 1024 = 39 := by omega
  have hg2 : fX3_groupOf (nI n) = 3 := by
    rw [hg]
    rcases (show n / 256 = 156 ∨ n / 256 = 157 ∨ n / 256 = 158 ∨ n / 256 = 159 by omega) with c | c | c | c
    · exact mix_s12 hn c
    · exact mix_s13 hn c
    · exact mix_s14 hn c
    · exact mix_s15 hn c
  refine PS.leg hi hg2 (by decide) ?_
  rw [pf_3 hg2, hd, nine_prod hn c5]
  exact g_product9 hu hn c5
theorem PS_all {n : Nat} (hn : n < 65536) {u : ST} (hu : IB u) (hw : IW u) : PS n u := by
  rcases (show n / 4096 = 0 ∨ n / 4096 = 1 ∨ n / 4096 = 2 ∨ n / 4096 = 3 ∨ n / 4096 = 4 ∨ n / 4096 = 5 ∨ n / 4096 = 6 ∨ n / 4096 = 7 ∨ n / 4096 = 8 ∨ n / 4096 = 9 ∨ n / 4096 = 10 ∨ n / 4096 = 11 ∨ n / 4096 = 12 ∨ n / 4096 = 13 ∨ n / 4096 = 14 ∨ n / 4096 = 15 by omega) with c | c | c | c | c | c | c | c | c | c | c | c | c | c | c | c
  · exact PS_0 hn hu hw c
  · exact PS_1 hn hu hw c
  · exact PS_2 hn hu hw c
  · exact PS_3 hn hu hw c
  · exact PS_4 hn hu hw c
  · exact PS_5 hn hu hw c
  · exact PS_6 hn hu hw c
  · exact PS_7 hn hu hw c
  · exact PS_8 hn hu hw c
  · exact PS_9 hn hu hw c
  · exact PS_10 hn hu hw c
  · exact PS_11 hn hu hw c
  · exact PS_12 hn hu hw c
  · exact PS_13 hn hu hw c
  · exact PS_14 hn hu hw c
  · exact PS_15 hn hu hw c
