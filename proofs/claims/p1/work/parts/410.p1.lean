/-! p1: the first call on a new object -/
theorem z8_isHouse (N : Nat) (a : Int32) : fX8_isHouse N 0 a = some 0 := by
  unfold fX8_isHouse
  by_cases h : a < 0
  · exact ifp h rfl
  · exact ifn h (ifp (by rw [fa_lt] at h; rw [fa_le]; omega) rfl)
theorem z9_isHouse (N : Nat) (a : Int32) : fX9_isHouse N 0 a = some 0 := by
  unfold fX9_isHouse
  have e0 : (0 : Int32).toInt = 0 := rfl
  have e1 : (-1 : Int32).toInt = -1 := rfl
  exact ob (in32n (lo := 0) (hi := -1) (by decide) (by decide) (fun q => by have h1 := q.1; have h2 := q.2; rw [fa_le] at h1 h2; omega)) (ifn (by decide) rfl)
theorem z8_hasSquare (N : Nat) : fX8_hasSquare N 0 = some 0 := by unfold fX8_hasSquare; exact ifp (by decide) rfl
theorem z9_lacks (N : Nat) : fX9_lacks N 0 = some 1 := by unfold fX9_lacks; exact ifp rfl rfl
theorem z8_areTwoHouses (N : Nat) (a b : Int32) : fX8_areTwoHouses N 0 a b = some 0 := by unfold fX8_areTwoHouses; exact ob (z8_isHouse _ _) (ifp rfl rfl)
theorem z9_areTwo (N : Nat) (a b : Int32) : fX9_areTwo N 0 a b = some 0 := by unfold fX9_areTwo; exact ob (z9_isHouse _ _) (ifp rfl rfl)
set_option maxHeartbeats 4000000 in
set_option maxRecDepth 100000 in
theorem uX8_house {N : Nat} {v_ground_houses : Int32} {v_now_town_houses : Int32} {v_now_town_front : Int32} {v_now_town_downFor : Int32} {v_now_town_plotOf : (Nat → Int32)} {v_ground_liked : (Nat → Int32)} {v_now_town_standsOn : (Nat → Int32)} {v_now_town_kindOf : (Nat → Int32)} {v_now_town_row : (Nat → Int32)} {v_now_seen_size : Int32} {v_now_seen_house : (Nat → Int32)} {v_now_seen_night : (Nat → Int32)} {v_now_had : (Nat → Int32)} {a1 : Int32} {a2 : Int32} {v_trade_rings : Int32} {v_trade_gets : (Nat → Int32)} {v_trade_isLeft : (Nat → Int32)} {v_trade_pointsTo : (Nat → Int32)} {v_guess_town_houses : Int32} {v_guess_town_front : Int32} {v_guess_town_downFor : Int32} {v_guess_town_kindOf : (Nat → Int32)} {v_guess_town_plotOf : (Nat → Int32)} {v_guess_town_row : (Nat → Int32)} {v_guess_town_standsOn : (Nat → Int32)} (h0 : v_ground_houses = 0) : fX8_house N v_ground_houses v_now_town_houses v_now_town_front v_now_town_downFor v_now_town_plotOf v_ground_liked v_now_town_standsOn v_now_town_kindOf v_now_town_row v_now_seen_size v_now_seen_house v_now_seen_night v_now_had a1 a2 v_trade_rings v_trade_gets v_trade_isLeft v_trade_pointsTo v_guess_town_houses v_guess_town_front v_guess_town_downFor v_guess_town_kindOf v_guess_town_plotOf v_guess_town_row v_guess_town_standsOn = some ((-101 : Int32), v_trade_rings, v_trade_gets, v_trade_isLeft, v_trade_pointsTo, v_guess_town_houses, v_guess_town_front, v_guess_town_downFor, v_guess_town_kindOf, v_guess_town_plotOf, v_guess_town_row, v_guess_town_standsOn) := by
  subst h0
  unfold fX8_house
  first | exact ob (z8_isHouse _ _) (ifp rfl rfl) | exact ob (z8_isHouse _ _) (ifn (by decide) rfl)
set_option maxHeartbeats 4000000 in
set_option maxRecDepth 100000 in
theorem uX9_house {N : Nat} {v_houses : Int32} {v_front : Int32} {v_down : Int32} {v_seenMany : Int32} {v_plots : (Nat → Int32)} {v_likes : (Nat → Int32)} {v_row : (Nat → Int32)} {v_sights : (Nat → Int32)} {v_had : (Nat → Int32)} {a1 : Int32} {a2 : Int32} {v_frontThen : Int32} {v_downThen : Int32} {v_ringsMany : Int32} {v_traded : (Nat → Int32)} {v_points : (Nat → Int32)} {v_ringLong : (Nat → Int32)} {v_kinds : (Nat → Int32)} {v_plotsThen : (Nat → Int32)} {v_rowThen : (Nat → Int32)} {v_ways : (Nat → Int32)} (h0 : v_houses = 0) : fX9_house N v_houses v_front v_down v_seenMany v_plots v_likes v_row v_sights v_had a1 a2 v_frontThen v_downThen v_ringsMany v_traded v_points v_ringLong v_kinds v_plotsThen v_rowThen v_ways = some ((-101 : Int32), v_frontThen, v_downThen, v_ringsMany, v_traded, v_points, v_ringLong, v_kinds, v_plotsThen, v_rowThen, v_ways) := by
  subst h0
  unfold fX9_house
  first | exact ob (z9_isHouse _ _) (ifp rfl rfl) | exact ob (z9_isHouse _ _) (ifn (by decide) rfl)
set_option maxHeartbeats 4000000 in
set_option maxRecDepth 100000 in
theorem uX8_as {N : Nat} {v_ground_houses : Int32} {v_now_town_kindOf : (Nat → Int32)} {a1 : Int32} {a2 : Int32} (h0 : v_ground_houses = 0) : fX8_as N v_ground_houses v_now_town_kindOf a1 a2 = some (-101 : Int32) := by
  subst h0
  unfold fX8_as
  first | exact ob (z8_isHouse _ _) (ifp rfl rfl) | exact ob (z8_isHouse _ _) (ifn (by decide) rfl)
set_option maxHeartbeats 4000000 in
set_option maxRecDepth 100000 in
theorem uX9_as {N : Nat} {v_houses : Int32} {v_kinds : (Nat → Int32)} {a1 : Int32} {a2 : Int32} (h0 : v_houses = 0) : fX9_as N v_houses v_kinds a1 a2 = some (-101 : Int32) := by
  subst h0
  unfold fX9_as
  first | exact ob (z9_isHouse _ _) (ifp rfl rfl) | exact ob (z9_isHouse _ _) (ifn (by decide) rfl)
set_option maxHeartbeats 4000000 in
set_option maxRecDepth 100000 in
theorem uX8_build {N : Nat} {v_ground_houses : Int32} {v_now_town_plotOf : (Nat → Int32)} {a1 : Int32} {a2 : Int32} {v_now_town_kindOf : (Nat → Int32)} (h0 : v_ground_houses = 0) : fX8_build N v_ground_houses v_now_town_plotOf a1 a2 v_now_town_kindOf = some ((-101 : Int32), v_now_town_kindOf) := by
  subst h0
  unfold fX8_build
  first | exact ob (z8_isHouse _ _) (ifp rfl rfl) | exact ob (z8_isHouse _ _) (ifn (by decide) rfl)
set_option maxHeartbeats 4000000 in
set_option maxRecDepth 100000 in
theorem uX9_build {N : Nat} {v_houses : Int32} {v_plots : (Nat → Int32)} {a1 : Int32} {a2 : Int32} {v_kinds : (Nat → Int32)} (h0 : v_houses = 0) : fX9_build N v_houses v_plots a1 a2 v_kinds = some ((-101 : Int32), v_kinds) := by
  subst h0
  unfold fX9_build
  first | exact ob (z9_isHouse _ _) (ifp rfl rfl) | exact ob (z9_isHouse _ _) (ifn (by decide) rfl)
set_option maxHeartbeats 4000000 in
set_option maxRecDepth 100000 in
theorem uX8_where {N : Nat} {v_ground_houses : Int32} {v_now_town_houses : Int32} {v_now_town_front : Int32} {v_now_town_downFor : Int32} {v_now_town_kindOf : (Nat → Int32)} {v_now_town_plotOf : (Nat → Int32)} {v_now_town_row : (Nat → Int32)} {v_now_town_standsOn : (Nat → Int32)} {a1 : Int32} {a2 : Int32} {v_ahead_houses : Int32} {v_ahead_front : Int32} {v_ahead_downFor : Int32} {v_ahead_kindOf : (Nat → Int32)} {v_ahead_plotOf : (Nat → Int32)} {v_ahead_row : (Nat → Int32)} {v_ahead_standsOn : (Nat → Int32)} (h0 : v_ground_houses = 0) : fX8_where N v_ground_houses v_now_town_houses v_now_town_front v_now_town_downFor v_now_town_kindOf v_now_town_plotOf v_now_town_row v_now_town_standsOn a1 a2 v_ahead_houses v_ahead_front v_ahead_downFor v_ahead_kindOf v_ahead_plotOf v_ahead_row v_ahead_standsOn = some ((-101 : Int32), v_ahead_houses, v_ahead_front, v_ahead_downFor, v_ahead_kindOf, v_ahead_plotOf, v_ahead_row, v_ahead_standsOn) := by
  subst h0
  unfold fX8_where
  first | exact ob (z8_isHouse _ _) (ifp rfl rfl) | exact ob (z8_isHouse _ _) (ifn (by decide) rfl)
set_option maxHeartbeats 4000000 in
set_option maxRecDepth 100000 in
theorem uX9_where {N : Nat} {v_houses : Int32} {v_front : Int32} {v_down : Int32} {v_plots : (Nat → Int32)} {v_row : (Nat → Int32)} {v_kinds : (Nat → Int32)} {a1 : Int32} {a2 : Int32} {v_frontThen : Int32} {v_downThen : Int32} {v_plotsThen : (Nat → Int32)} {v_rowThen : (Nat → Int32)} (h0 : v_houses = 0) : fX9_where N v_houses v_front v_down v_plots v_row v_kinds a1 a2 v_frontThen v_downThen v_plotsThen v_rowThen = some ((-101 : Int32), v_frontThen, v_downThen, v_plotsThen, v_rowThen) := by
  subst h0
  unfold fX9_where
  first | exact ob (z9_isHouse _ _) (ifp rfl rfl) | exact ob (z9_isHouse _ _) (ifn (by decide) rfl)
set_option maxHeartbeats 4000000 in
set_option maxRecDepth 100000 in
theorem uX8_when {N : Nat} {v_ground_houses : Int32} {v_now_town_houses : Int32} {v_now_town_front : Int32} {v_now_town_downFor : Int32} {v_now_town_kindOf : (Nat → Int32)} {v_now_town_plotOf : (Nat → Int32)} {v_now_town_row : (Nat → Int32)} {v_now_town_standsOn : (Nat → Int32)} {a1 : Int32} {a2 : Int32} {v_ahead_houses : Int32} {v_ahead_front : Int32} {v_ahead_downFor : Int32} {v_ahead_kindOf : (Nat → Int32)} {v_ahead_plotOf : (Nat → Int32)} {v_ahead_row : (Nat → Int32)} {v_ahead_standsOn : (Nat → Int32)} (h0 : v_ground_houses = 0) : fX8_when N v_ground_houses v_now_town_houses v_now_town_front v_now_town_downFor v_now_town_kindOf v_now_town_plotOf v_now_town_row v_now_town_standsOn a1 a2 v_ahead_houses v_ahead_front v_ahead_downFor v_ahead_kindOf v_ahead_plotOf v_ahead_row v_ahead_standsOn = some ((-101 : Int32), v_ahead_houses, v_ahead_front, v_ahead_downFor, v_ahead_kindOf, v_ahead_plotOf, v_ahead_row, v_ahead_standsOn) := by
  subst h0
  unfold fX8_when
  first | exact ob (z8_isHouse _ _) (ifp rfl rfl) | exact ob (z8_isHouse _ _) (ifn (by decide) rfl)
set_option maxHeartbeats 4000000 in
set_option maxRecDepth 100000 in
theorem uX9_when {N : Nat} {v_houses : Int32} {v_front : Int32} {v_down : Int32} {v_plots : (Nat → Int32)} {v_row : (Nat → Int32)} {v_kinds : (Nat → Int32)} {a1 : Int32} {a2 : Int32} {v_frontThen : Int32} {v_downThen : Int32} {v_plotsThen : (Nat → Int32)} {v_rowThen : (Nat → Int32)} (h0 : v_houses = 0) : fX9_when N v_houses v_front v_down v_plots v_row v_kinds a1 a2 v_frontThen v_downThen v_plotsThen v_rowThen = some ((-101 : Int32), v_frontThen, v_downThen, v_plotsThen, v_rowThen) := by
  subst h0
  unfold fX9_when
  first | exact ob (z9_isHouse _ _) (ifp rfl rfl) | exact ob (z9_isHouse _ _) (ifn (by decide) rfl)
set_option maxHeartbeats 4000000 in
set_option maxRecDepth 100000 in
theorem uX8_post {N : Nat} {v_ground_houses : Int32} {v_now_town_houses : Int32} {v_now_town_front : Int32} {v_now_town_downFor : Int32} {v_now_town_kindOf : (Nat → Int32)} {v_now_town_plotOf : (Nat → Int32)} {v_now_town_row : (Nat → Int32)} {v_now_town_standsOn : (Nat → Int32)} {a1 : Int32} {a2 : Int32} {v_ahead_houses : Int32} {v_ahead_front : Int32} {v_ahead_downFor : Int32} {v_ahead_kindOf : (Nat → Int32)} {v_ahead_plotOf : (Nat → Int32)} {v_ahead_row : (Nat → Int32)} {v_ahead_standsOn : (Nat → Int32)} (h0 : v_ground_houses = 0) : fX8_post N v_ground_houses v_now_town_houses v_now_town_front v_now_town_downFor v_now_town_kindOf v_now_town_plotOf v_now_town_row v_now_town_standsOn a1 a2 v_ahead_houses v_ahead_front v_ahead_downFor v_ahead_kindOf v_ahead_plotOf v_ahead_row v_ahead_standsOn = some ((-101 : Int32), v_ahead_houses, v_ahead_front, v_ahead_downFor, v_ahead_kindOf, v_ahead_plotOf, v_ahead_row, v_ahead_standsOn) := by
  subst h0
  unfold fX8_post
  first | exact ob (z8_isHouse _ _) (ifp rfl rfl) | exact ob (z8_isHouse _ _) (ifn (by decide) rfl)
set_option maxHeartbeats 4000000 in
set_option maxRecDepth 100000 in
theorem uX9_post {N : Nat} {v_houses : Int32} {v_front : Int32} {v_down : Int32} {v_plots : (Nat → Int32)} {v_row : (Nat → Int32)} {v_kinds : (Nat → Int32)} {a1 : Int32} {a2 : Int32} {v_frontThen : Int32} {v_downThen : Int32} {v_plotsThen : (Nat → Int32)} {v_rowThen : (Nat → Int32)} (h0 : v_houses = 0) : fX9_post N v_houses v_front v_down v_plots v_row v_kinds a1 a2 v_frontThen v_downThen v_plotsThen v_rowThen = some ((-101 : Int32), v_frontThen, v_downThen, v_plotsThen, v_rowThen) := by
  subst h0
  unfold fX9_post
  first | exact ob (z9_isHouse _ _) (ifp rfl rfl) | exact ob (z9_isHouse _ _) (ifn (by decide) rfl)
set_option maxHeartbeats 4000000 in
set_option maxRecDepth 100000 in
theorem uX8_will {N : Nat} {v_ground_houses : Int32} {v_now_town_houses : Int32} {v_now_town_front : Int32} {v_now_town_downFor : Int32} {v_now_town_kindOf : (Nat → Int32)} {v_now_town_plotOf : (Nat → Int32)} {v_now_town_row : (Nat → Int32)} {v_now_town_standsOn : (Nat → Int32)} {v_ground_worth : (Nat → Int32)} {a1 : Int32} {a2 : Int32} {v_ahead_houses : Int32} {v_ahead_front : Int32} {v_ahead_downFor : Int32} {v_ahead_kindOf : (Nat → Int32)} {v_ahead_plotOf : (Nat → Int32)} {v_ahead_row : (Nat → Int32)} {v_ahead_standsOn : (Nat → Int32)} (h0 : v_ground_houses = 0) : fX8_will N v_ground_houses v_now_town_houses v_now_town_front v_now_town_downFor v_now_town_kindOf v_now_town_plotOf v_now_town_row v_now_town_standsOn v_ground_worth a1 a2 v_ahead_houses v_ahead_front v_ahead_downFor v_ahead_kindOf v_ahead_plotOf v_ahead_row v_ahead_standsOn = some ((-101 : Int32), v_ahead_houses, v_ahead_front, v_ahead_downFor, v_ahead_kindOf, v_ahead_plotOf, v_ahead_row, v_ahead_standsOn) := by
  subst h0
  unfold fX8_will
  first | exact ob (z8_isHouse _ _) (ifp rfl rfl) | exact ob (z8_isHouse _ _) (ifn (by decide) rfl)
set_option maxHeartbeats 4000000 in
set_option maxRecDepth 100000 in
theorem uX9_will {N : Nat} {v_houses : Int32} {v_front : Int32} {v_down : Int32} {v_plots : (Nat → Int32)} {v_row : (Nat → Int32)} {v_kinds : (Nat → Int32)} {v_worths : (Nat → Int32)} {a1 : Int32} {a2 : Int32} {v_frontThen : Int32} {v_downThen : Int32} {v_plotsThen : (Nat → Int32)} {v_rowThen : (Nat → Int32)} (h0 : v_houses = 0) : fX9_will N v_houses v_front v_down v_plots v_row v_kinds v_worths a1 a2 v_frontThen v_downThen v_plotsThen v_rowThen = some ((-101 : Int32), v_frontThen, v_downThen, v_plotsThen, v_rowThen) := by
  subst h0
  unfold fX9_will
  first | exact ob (z9_isHouse _ _) (ifp rfl rfl) | exact ob (z9_isHouse _ _) (ifn (by decide) rfl)
set_option maxHeartbeats 4000000 in
set_option maxRecDepth 100000 in
theorem uX8_wish {N : Nat} {v_ground_houses : Int32} {a1 : Int32} {a2 : Int32} {a3 : Int32} {v_now_wishes_size : Int32} {v_now_wishes_house : (Nat → Int32)} {v_now_wishes_plot : (Nat → Int32)} {v_now_wishes_night : (Nat → Int32)} (h0 : v_ground_houses = 0) : fX8_wish N v_ground_houses a1 a2 a3 v_now_wishes_size v_now_wishes_house v_now_wishes_plot v_now_wishes_night = some ((-101 : Int32), v_now_wishes_size, v_now_wishes_house, v_now_wishes_plot, v_now_wishes_night) := by
  subst h0
  unfold fX8_wish
  first | exact ob (z8_isHouse _ _) (ifp rfl rfl) | exact ob (z8_isHouse _ _) (ifn (by decide) rfl)
set_option maxHeartbeats 4000000 in
set_option maxRecDepth 100000 in
theorem uX9_wish {N : Nat} {v_houses : Int32} {a1 : Int32} {a2 : Int32} {a3 : Int32} {v_wishesMany : Int32} {v_wishes : (Nat → Int32)} (h0 : v_houses = 0) : fX9_wish N v_houses a1 a2 a3 v_wishesMany v_wishes = some ((-101 : Int32), v_wishesMany, v_wishes) := by
  subst h0
  unfold fX9_wish
  first | exact ob (z9_isHouse _ _) (ifp rfl rfl) | exact ob (z9_isHouse _ _) (ifn (by decide) rfl)
set_option maxHeartbeats 4000000 in
set_option maxRecDepth 100000 in
theorem uX8_see {N : Nat} {v_ground_houses : Int32} {a1 : Int32} {a2 : Int32} {a3 : Int32} {v_now_seen_size : Int32} {v_now_seen_house : (Nat → Int32)} {v_now_seen_plot : (Nat → Int32)} {v_now_seen_night : (Nat → Int32)} (h0 : v_ground_houses = 0) : fX8_see N v_ground_houses a1 a2 a3 v_now_seen_size v_now_seen_house v_now_seen_plot v_now_seen_night = some ((-101 : Int32), v_now_seen_size, v_now_seen_house, v_now_seen_plot, v_now_seen_night) := by
  subst h0
  unfold fX8_see
  first | exact ob (z8_isHouse _ _) (ifp rfl rfl) | exact ob (z8_isHouse _ _) (ifn (by decide) rfl)
set_option maxHeartbeats 4000000 in
set_option maxRecDepth 100000 in
theorem uX9_see {N : Nat} {v_houses : Int32} {a1 : Int32} {a2 : Int32} {a3 : Int32} {v_seenMany : Int32} {v_sights : (Nat → Int32)} (h0 : v_houses = 0) : fX9_see N v_houses a1 a2 a3 v_seenMany v_sights = some ((-101 : Int32), v_seenMany, v_sights) := by
  subst h0
  unfold fX9_see
  first | exact ob (z9_isHouse _ _) (ifp rfl rfl) | exact ob (z9_isHouse _ _) (ifn (by decide) rfl)
set_option maxHeartbeats 4000000 in
set_option maxRecDepth 100000 in
theorem uX8_swap {N : Nat} {v_ground_houses : Int32} {a1 : Int32} {a2 : Int32} {v_now_town_plotOf : (Nat → Int32)} {v_now_town_standsOn : (Nat → Int32)} (h0 : v_ground_houses = 0) : fX8_swap N v_ground_houses a1 a2 v_now_town_plotOf v_now_town_standsOn = some ((-101 : Int32), v_now_town_plotOf, v_now_town_standsOn) := by
  subst h0
  unfold fX8_swap
  first | exact ob (z8_areTwoHouses _ _ _) (ifp rfl rfl) | exact ob (z8_areTwoHouses _ _ _) (ifn (by decide) rfl)
set_option maxHeartbeats 4000000 in
set_option maxRecDepth 100000 in
theorem uX9_swap {N : Nat} {v_houses : Int32} {a1 : Int32} {a2 : Int32} {v_plots : (Nat → Int32)} (h0 : v_houses = 0) : fX9_swap N v_houses a1 a2 v_plots = some ((-101 : Int32), v_plots) := by
  subst h0
  unfold fX9_swap
  first | exact ob (z9_areTwo _ _ _) (ifp rfl rfl) | exact ob (z9_areTwo _ _ _) (ifn (by decide) rfl)
set_option maxHeartbeats 4000000 in
set_option maxRecDepth 100000 in
theorem uX8_neighbours {N : Nat} {v_ground_houses : Int32} {v_now_town_houses : Int32} {v_now_town_front : Int32} {v_now_town_downFor : Int32} {v_now_town_kindOf : (Nat → Int32)} {v_now_town_plotOf : (Nat → Int32)} {v_now_town_row : (Nat → Int32)} {v_now_town_standsOn : (Nat → Int32)} {a1 : Int32} {a2 : Int32} {v_ahead_houses : Int32} {v_ahead_front : Int32} {v_ahead_downFor : Int32} {v_ahead_kindOf : (Nat → Int32)} {v_ahead_plotOf : (Nat → Int32)} {v_ahead_row : (Nat → Int32)} {v_ahead_standsOn : (Nat → Int32)} (h0 : v_ground_houses = 0) : fX8_neighbours N v_ground_houses v_now_town_houses v_now_town_front v_now_town_downFor v_now_town_kindOf v_now_town_plotOf v_now_town_row v_now_town_standsOn a1 a2 v_ahead_houses v_ahead_front v_ahead_downFor v_ahead_kindOf v_ahead_plotOf v_ahead_row v_ahead_standsOn = some ((-101 : Int32), v_ahead_houses, v_ahead_front, v_ahead_downFor, v_ahead_kindOf, v_ahead_plotOf, v_ahead_row, v_ahead_standsOn) := by
  subst h0
  unfold fX8_neighbours
  first | exact ob (z8_areTwoHouses _ _ _) (ifp rfl rfl) | exact ob (z8_areTwoHouses _ _ _) (ifn (by decide) rfl)
set_option maxHeartbeats 4000000 in
set_option maxRecDepth 100000 in
theorem uX9_neighbours {N : Nat} {v_houses : Int32} {v_front : Int32} {v_down : Int32} {v_plots : (Nat → Int32)} {v_row : (Nat → Int32)} {v_kinds : (Nat → Int32)} {a1 : Int32} {a2 : Int32} {v_frontThen : Int32} {v_downThen : Int32} {v_plotsThen : (Nat → Int32)} {v_rowThen : (Nat → Int32)} (h0 : v_houses = 0) : fX9_neighbours N v_houses v_front v_down v_plots v_row v_kinds a1 a2 v_frontThen v_downThen v_plotsThen v_rowThen = some ((-101 : Int32), v_frontThen, v_downThen, v_plotsThen, v_rowThen) := by
  subst h0
  unfold fX9_neighbours
  first | exact ob (z9_areTwo _ _ _) (ifp rfl rfl) | exact ob (z9_areTwo _ _ _) (ifn (by decide) rfl)
set_option maxHeartbeats 4000000 in
set_option maxRecDepth 100000 in
theorem uX8_night {N : Nat} {v_ground_houses : Int32} {v_now_town_houses : Int32} {v_now_town_kindOf : (Nat → Int32)} {v_ground_worth : (Nat → Int32)} {v_now_nights : Int32} {v_now_town_front : Int32} {v_now_town_downFor : Int32} {v_now_town_row : (Nat → Int32)} {v_now_town_plotOf : (Nat → Int32)} {v_now_town_standsOn : (Nat → Int32)} {v_now_had : (Nat → Int32)} (h0 : v_ground_houses = 0) : fX8_night N v_ground_houses v_now_town_houses v_now_town_kindOf v_ground_worth v_now_nights v_now_town_front v_now_town_downFor v_now_town_row v_now_town_plotOf v_now_town_standsOn v_now_had = some ((-103 : Int32), v_now_nights, v_now_town_front, v_now_town_downFor, v_now_town_row, v_now_town_plotOf, v_now_town_standsOn, v_now_had) := by
  subst h0
  unfold fX8_night
  first | exact ob (z8_hasSquare _) (ifp rfl rfl) | exact ob (z8_hasSquare _) (ifn (by decide) rfl)
set_option maxHeartbeats 4000000 in
set_option maxRecDepth 100000 in
theorem uX9_night {N : Nat} {v_houses : Int32} {v_kinds : (Nat → Int32)} {v_worths : (Nat → Int32)} {v_nights : Int32} {v_front : Int32} {v_down : Int32} {v_frontThen : Int32} {v_downThen : Int32} {v_plots : (Nat → Int32)} {v_plotsThen : (Nat → Int32)} {v_row : (Nat → Int32)} {v_rowThen : (Nat → Int32)} {v_had : (Nat → Int32)} (h0 : v_houses = 0) : fX9_night N v_houses v_kinds v_worths v_nights v_front v_down v_frontThen v_downThen v_plots v_plotsThen v_row v_rowThen v_had = some ((-103 : Int32), v_nights, v_front, v_down, v_frontThen, v_downThen, v_plots, v_plotsThen, v_row, v_rowThen, v_had) := by
  subst h0
  unfold fX9_night
  first | exact ob (z9_lacks _) (ifp rfl rfl) | exact ob (z9_lacks _) (ifn (by decide) rfl)
set_option maxHeartbeats 4000000 in
set_option maxRecDepth 100000 in
theorem uX8_snow {N : Nat} {v_ground_houses : Int32} {v_now_town_houses : Int32} {v_now_town_plotOf : (Nat → Int32)} {v_ground_worth : (Nat → Int32)} {v_now_nights : Int32} {v_now_had : (Nat → Int32)} (h0 : v_ground_houses = 0) : fX8_snow N v_ground_houses v_now_town_houses v_now_town_plotOf v_ground_worth v_now_nights v_now_had = some ((-103 : Int32), v_now_nights, v_now_had) := by
  subst h0
  unfold fX8_snow
  first | exact ob (z8_hasSquare _) (ifp rfl rfl) | exact ob (z8_hasSquare _) (ifn (by decide) rfl)
set_option maxHeartbeats 4000000 in
set_option maxRecDepth 100000 in
theorem uX9_snow {N : Nat} {v_houses : Int32} {v_plots : (Nat → Int32)} {v_worths : (Nat → Int32)} {v_nights : Int32} {v_had : (Nat → Int32)} (h0 : v_houses = 0) : fX9_snow N v_houses v_plots v_worths v_nights v_had = some ((-103 : Int32), v_nights, v_had) := by
  subst h0
  unfold fX9_snow
  first | exact ob (z9_lacks _) (ifp rfl rfl) | exact ob (z9_lacks _) (ifn (by decide) rfl)
set_option maxHeartbeats 4000000 in
set_option maxRecDepth 100000 in
theorem uX8_again {N : Nat} {v_ground_houses : Int32} {v_now_town_houses : Int32} {v_now_town_front : Int32} {v_now_town_downFor : Int32} {v_now_town_kindOf : (Nat → Int32)} {v_now_town_plotOf : (Nat → Int32)} {v_now_town_row : (Nat → Int32)} {v_now_town_standsOn : (Nat → Int32)} {v_ahead_houses : Int32} {v_ahead_front : Int32} {v_ahead_downFor : Int32} {v_ahead_kindOf : (Nat → Int32)} {v_ahead_plotOf : (Nat → Int32)} {v_ahead_row : (Nat → Int32)} {v_ahead_standsOn : (Nat → Int32)} (h0 : v_ground_houses = 0) : fX8_again N v_ground_houses v_now_town_houses v_now_town_front v_now_town_downFor v_now_town_kindOf v_now_town_plotOf v_now_town_row v_now_town_standsOn v_ahead_houses v_ahead_front v_ahead_downFor v_ahead_kindOf v_ahead_plotOf v_ahead_row v_ahead_standsOn = some ((-103 : Int32), v_ahead_houses, v_ahead_front, v_ahead_downFor, v_ahead_kindOf, v_ahead_plotOf, v_ahead_row, v_ahead_standsOn) := by
  subst h0
  unfold fX8_again
  first | exact ob (z8_hasSquare _) (ifp rfl rfl) | exact ob (z8_hasSquare _) (ifn (by decide) rfl)
set_option maxHeartbeats 4000000 in
set_option maxRecDepth 100000 in
theorem uX9_again {N : Nat} {v_houses : Int32} {v_front : Int32} {v_down : Int32} {v_plots : (Nat → Int32)} {v_row : (Nat → Int32)} {v_kinds : (Nat → Int32)} {v_frontThen : Int32} {v_downThen : Int32} {v_plotsThen : (Nat → Int32)} {v_rowThen : (Nat → Int32)} (h0 : v_houses = 0) : fX9_again N v_houses v_front v_down v_plots v_row v_kinds v_frontThen v_downThen v_plotsThen v_rowThen = some ((-103 : Int32), v_frontThen, v_downThen, v_plotsThen, v_rowThen) := by
  subst h0
  unfold fX9_again
  first | exact ob (z9_lacks _) (ifp rfl rfl) | exact ob (z9_lacks _) (ifn (by decide) rfl)
set_option maxHeartbeats 4000000 in
set_option maxRecDepth 100000 in
theorem uX8_rings {N : Nat} {v_ground_houses : Int32} {v_now_town_houses : Int32} {v_now_town_plotOf : (Nat → Int32)} {v_ground_liked : (Nat → Int32)} {v_now_town_standsOn : (Nat → Int32)} {v_trade_rings : Int32} {v_trade_gets : (Nat → Int32)} {v_trade_isLeft : (Nat → Int32)} {v_trade_pointsTo : (Nat → Int32)} (h0 : v_ground_houses = 0) : fX8_rings N v_ground_houses v_now_town_houses v_now_town_plotOf v_ground_liked v_now_town_standsOn v_trade_rings v_trade_gets v_trade_isLeft v_trade_pointsTo = some ((-103 : Int32), v_trade_rings, v_trade_gets, v_trade_isLeft, v_trade_pointsTo) := by
  subst h0
  unfold fX8_rings
  first | exact ob (z8_hasSquare _) (ifp rfl rfl) | exact ob (z8_hasSquare _) (ifn (by decide) rfl)
set_option maxHeartbeats 4000000 in
set_option maxRecDepth 100000 in
theorem uX9_rings {N : Nat} {v_houses : Int32} {v_plots : (Nat → Int32)} {v_likes : (Nat → Int32)} {v_ringsMany : Int32} {v_traded : (Nat → Int32)} {v_points : (Nat → Int32)} {v_ringLong : (Nat → Int32)} (h0 : v_houses = 0) : fX9_rings N v_houses v_plots v_likes v_ringsMany v_traded v_points v_ringLong = some ((-103 : Int32), v_ringsMany, v_traded, v_points, v_ringLong) := by
  subst h0
  unfold fX9_rings
  first | exact ob (z9_lacks _) (ifp rfl rfl) | exact ob (z9_lacks _) (ifn (by decide) rfl)
set_option maxHeartbeats 4000000 in
set_option maxRecDepth 100000 in
theorem uX8_image {N : Nat} {v_ground_houses : Int32} {v_now_nights : Int32} {v_now_town_houses : Int32} {v_now_town_front : Int32} {v_now_town_downFor : Int32} {v_now_town_kindOf : (Nat → Int32)} {v_now_town_plotOf : (Nat → Int32)} {v_now_town_row : (Nat → Int32)} {v_now_town_standsOn : (Nat → Int32)} {v_now_had : (Nat → Int32)} {v_now_wishes_size : Int32} {v_now_wishes_house : (Nat → Int32)} {v_now_wishes_plot : (Nat → Int32)} {v_now_wishes_night : (Nat → Int32)} {v_now_seen_size : Int32} {v_now_seen_house : (Nat → Int32)} {v_now_seen_plot : (Nat → Int32)} {v_now_seen_night : (Nat → Int32)} {v_isKept : Int32} {v_kept_nights : Int32} {v_kept_town_houses : Int32} {v_kept_town_front : Int32} {v_kept_town_downFor : Int32} {v_kept_town_kindOf : (Nat → Int32)} {v_kept_town_plotOf : (Nat → Int32)} {v_kept_town_row : (Nat → Int32)} {v_kept_town_standsOn : (Nat → Int32)} {v_kept_had : (Nat → Int32)} {v_kept_wishes_size : Int32} {v_kept_wishes_house : (Nat → Int32)} {v_kept_wishes_plot : (Nat → Int32)} {v_kept_wishes_night : (Nat → Int32)} {v_kept_seen_size : Int32} {v_kept_seen_house : (Nat → Int32)} {v_kept_seen_plot : (Nat → Int32)} {v_kept_seen_night : (Nat → Int32)} (h0 : v_ground_houses = 0) : fX8_image N v_ground_houses v_now_nights v_now_town_houses v_now_town_front v_now_town_downFor v_now_town_kindOf v_now_town_plotOf v_now_town_row v_now_town_standsOn v_now_had v_now_wishes_size v_now_wishes_house v_now_wishes_plot v_now_wishes_night v_now_seen_size v_now_seen_house v_now_seen_plot v_now_seen_night v_isKept v_kept_nights v_kept_town_houses v_kept_town_front v_kept_town_downFor v_kept_town_kindOf v_kept_town_plotOf v_kept_town_row v_kept_town_standsOn v_kept_had v_kept_wishes_size v_kept_wishes_house v_kept_wishes_plot v_kept_wishes_night v_kept_seen_size v_kept_seen_house v_kept_seen_plot v_kept_seen_night = some ((-103 : Int32), v_isKept, v_kept_nights, v_kept_town_houses, v_kept_town_front, v_kept_town_downFor, v_kept_town_kindOf, v_kept_town_plotOf, v_kept_town_row, v_kept_town_standsOn, v_kept_had, v_kept_wishes_size, v_kept_wishes_house, v_kept_wishes_plot, v_kept_wishes_night, v_kept_seen_size, v_kept_seen_house, v_kept_seen_plot, v_kept_seen_night) := by
  subst h0
  unfold fX8_image
  first | exact ob (z8_hasSquare _) (ifp rfl rfl) | exact ob (z8_hasSquare _) (ifn (by decide) rfl)
set_option maxHeartbeats 4000000 in
set_option maxRecDepth 100000 in
theorem uX9_image {N : Nat} {v_houses : Int32} {v_nights : Int32} {v_squaresRead : Int32} {v_front : Int32} {v_down : Int32} {v_wishesMany : Int32} {v_seenMany : Int32} {v_kinds : (Nat → Int32)} {v_plots : (Nat → Int32)} {v_row : (Nat → Int32)} {v_had : (Nat → Int32)} {v_wishes : (Nat → Int32)} {v_sights : (Nat → Int32)} {v_keptSquare : Int32} {v_keptFront : Int32} {v_keptDown : Int32} {v_keptNights : Int32} {v_keptWishesMany : Int32} {v_keptSeen : Int32} {v_keptKinds : (Nat → Int32)} {v_keptPlots : (Nat → Int32)} {v_keptRow : (Nat → Int32)} {v_keptHad : (Nat → Int32)} {v_keptWishes : (Nat → Int32)} {v_keptSights : (Nat → Int32)} (h0 : v_houses = 0) : fX9_image N v_houses v_nights v_squaresRead v_front v_down v_wishesMany v_seenMany v_kinds v_plots v_row v_had v_wishes v_sights v_keptSquare v_keptFront v_keptDown v_keptNights v_keptWishesMany v_keptSeen v_keptKinds v_keptPlots v_keptRow v_keptHad v_keptWishes v_keptSights = some ((-103 : Int32), v_keptSquare, v_keptFront, v_keptDown, v_keptNights, v_keptWishesMany, v_keptSeen, v_keptKinds, v_keptPlots, v_keptRow, v_keptHad, v_keptWishes, v_keptSights) := by
  subst h0
  unfold fX9_image
  first | exact ob (z9_lacks _) (ifp rfl rfl) | exact ob (z9_lacks _) (ifn (by decide) rfl)
set_option maxHeartbeats 4000000 in
set_option maxRecDepth 100000 in
theorem uX8_plot {N : Nat} {v_ground_houses : Int32} {v_ground_liked : (Nat → Int32)} {v_now_town_standsOn : (Nat → Int32)} {v_ground_worth : (Nat → Int32)} {a1 : Int32} {a2 : Int32} (h0 : v_ground_houses = 0) : fX8_plot N v_ground_houses v_ground_liked v_now_town_standsOn v_ground_worth a1 a2 = some (-101 : Int32) := by
  subst h0
  unfold fX8_plot
  first | exact ob (z8_hasSquare _) (ifp rfl rfl) | exact ob (z8_hasSquare _) (ifn (by decide) rfl)
set_option maxHeartbeats 4000000 in
set_option maxRecDepth 100000 in
theorem uX9_plot {N : Nat} {v_houses : Int32} {v_likes : (Nat → Int32)} {v_plots : (Nat → Int32)} {v_worths : (Nat → Int32)} {a1 : Int32} {a2 : Int32} (h0 : v_houses = 0) : fX9_plot N v_houses v_likes v_plots v_worths a1 a2 = some (-101 : Int32) := by
  subst h0
  unfold fX9_plot
  first | exact ob (z9_lacks _) (ifp rfl rfl) | exact ob (z9_lacks _) (ifn (by decide) rfl)
set_option maxHeartbeats 4000000 in
set_option maxRecDepth 100000 in
theorem lc_183 {xs : Nat → Int32} {K : Int32 → (Nat → Int32) → (Nat → Nat → Int32) → Int64 → Option Int32} (hK : ∀ σ α h, K (0 + 4) σ α h = some 1) : fL_law_183 20 4 xs K 0 σ0 α0 0 = some 1 := by
  unfold fL_law_183
  refine ob (rfl) ?_
  refine ob (rfl) ?_
  exact ifp (rfl) (hK _ _ _)
set_option maxHeartbeats 4000000 in
set_option maxRecDepth 100000 in
theorem lc_196 {xs : Nat → Int32} {K : Int32 → (Nat → Int32) → (Nat → Nat → Int32) → Int64 → Option Int32} (hK : ∀ σ α h, K (0 + 4) σ α h = some 1) : fL_law_196 20 4 xs K 0 σ0 α0 0 = some 1 := by
  unfold fL_law_196
  refine ob (show _ = some 0 from by decide +kernel) ?_
  refine ob (show _ = some 0 from by decide +kernel) ?_
  exact ifp (rfl) (hK _ _ _)
set_option maxHeartbeats 4000000 in
set_option maxRecDepth 100000 in
theorem lc_209 {xs : Nat → Int32} {K : Int32 → (Nat → Int32) → (Nat → Nat → Int32) → Int64 → Option Int32} (hK : ∀ σ α h, K (0 + 4) σ α h = some 1) : fL_law_209 20 4 xs K 0 σ0 α0 0 = some 1 := by
  unfold fL_law_209
  refine ob (by unfold fX8_square; exact ob (show _ = some 0 from by decide +kernel) (ifp rfl rfl)) ?_
  refine ob (by unfold fX9_square; exact ifp (by decide) rfl) ?_
  exact ifp (rfl) (hK _ _ _)
set_option maxHeartbeats 4000000 in
set_option maxRecDepth 100000 in
theorem lc_222 {xs : Nat → Int32} {K : Int32 → (Nat → Int32) → (Nat → Nat → Int32) → Int64 → Option Int32} (hK : ∀ σ α h, K (0 + 4) σ α h = some 1) : fL_law_222 20 4 xs K 0 σ0 α0 0 = some 1 := by
  unfold fL_law_222
  refine ifn (by decide) ?_
  refine ifn (by decide) ?_
  refine ob (uX8_house (by rfl)) ?_
  refine ifn (by decide) ?_
  refine ifn (by decide) ?_
  refine ob (uX9_house (by rfl)) ?_
  exact ifp (rfl) (hK _ _ _)
set_option maxHeartbeats 4000000 in
set_option maxRecDepth 100000 in
theorem lc_255 {xs : Nat → Int32} {K : Int32 → (Nat → Int32) → (Nat → Nat → Int32) → Int64 → Option Int32} (hK : ∀ σ α h, K (0 + 4) σ α h = some 1) : fL_law_255 20 4 xs K 0 σ0 α0 0 = some 1 := by
  unfold fL_law_255
  refine ifn (by decide) ?_
  refine ifn (by decide) ?_
  refine ob (uX8_as (by rfl)) ?_
  refine ifn (by decide) ?_
  refine ifn (by decide) ?_
  refine ob (uX9_as (by rfl)) ?_
  exact ifp (rfl) (hK _ _ _)
set_option maxHeartbeats 4000000 in
set_option maxRecDepth 100000 in
theorem lc_288 {xs : Nat → Int32} {K : Int32 → (Nat → Int32) → (Nat → Nat → Int32) → Int64 → Option Int32} (hK : ∀ σ α h, K (0 + 4) σ α h = some 1) : fL_law_288 20 4 xs K 0 σ0 α0 0 = some 1 := by
  unfold fL_law_288
  refine ifn (by decide) ?_
  refine ifn (by decide) ?_
  refine ob (uX8_plot (by rfl)) ?_
  refine ifn (by decide) ?_
  refine ifn (by decide) ?_
  refine ob (uX9_plot (by rfl)) ?_
  exact ifp (rfl) (hK _ _ _)
set_option maxHeartbeats 4000000 in
set_option maxRecDepth 100000 in
theorem lc_321 {xs : Nat → Int32} {K : Int32 → (Nat → Int32) → (Nat → Nat → Int32) → Int64 → Option Int32} (hK : ∀ σ α h, K (0 + 4) σ α h = some 1) : fL_law_321 20 4 xs K 0 σ0 α0 0 = some 1 := by
  unfold fL_law_321
  refine ob (uX8_night (by rfl)) ?_
  refine ob (uX9_night (by rfl)) ?_
  exact ifp (rfl) (hK _ _ _)
set_option maxHeartbeats 4000000 in
set_option maxRecDepth 100000 in
theorem lc_334 {xs : Nat → Int32} {K : Int32 → (Nat → Int32) → (Nat → Nat → Int32) → Int64 → Option Int32} (hK : ∀ σ α h, K (0 + 4) σ α h = some 1) : fL_law_334 20 4 xs K 0 σ0 α0 0 = some 1 := by
  unfold fL_law_334
  refine ob (uX8_snow (by rfl)) ?_
  refine ob (uX9_snow (by rfl)) ?_
  exact ifp (rfl) (hK _ _ _)
set_option maxHeartbeats 4000000 in
set_option maxRecDepth 100000 in
theorem lc_347 {xs : Nat → Int32} {K : Int32 → (Nat → Int32) → (Nat → Nat → Int32) → Int64 → Option Int32} (hK : ∀ σ α h, K (0 + 4) σ α h = some 1) : fL_law_347 20 4 xs K 0 σ0 α0 0 = some 1 := by
  unfold fL_law_347
  refine ifn (by decide) ?_
  refine ifn (by decide) ?_
  refine ob (uX8_build (by rfl)) ?_
  refine ifn (by decide) ?_
  refine ifn (by decide) ?_
  refine ob (uX9_build (by rfl)) ?_
  exact ifp (rfl) (hK _ _ _)
set_option maxHeartbeats 4000000 in
set_option maxRecDepth 100000 in
theorem lc_380 {xs : Nat → Int32} {K : Int32 → (Nat → Int32) → (Nat → Nat → Int32) → Int64 → Option Int32} (hK : ∀ σ α h, K (0 + 4) σ α h = some 1) : fL_law_380 20 4 xs K 0 σ0 α0 0 = some 1 := by
  unfold fL_law_380
  refine ifn (by decide) ?_
  refine ifn (by decide) ?_
  refine ob (uX8_swap (by rfl)) ?_
  refine ifn (by decide) ?_
  refine ifn (by decide) ?_
  refine ob (uX9_swap (by rfl)) ?_
  exact ifp (rfl) (hK _ _ _)
set_option maxHeartbeats 4000000 in
set_option maxRecDepth 100000 in
theorem lc_413 {xs : Nat → Int32} {K : Int32 → (Nat → Int32) → (Nat → Nat → Int32) → Int64 → Option Int32} (hK : ∀ σ α h, K (0 + 4) σ α h = some 1) : fL_law_413 20 4 xs K 0 σ0 α0 0 = some 1 := by
  unfold fL_law_413
  refine ifn (by decide) ?_
  refine ifn (by decide) ?_
  refine ob (uX8_where (by rfl)) ?_
  refine ifn (by decide) ?_
  refine ifn (by decide) ?_
  refine ob (uX9_where (by rfl)) ?_
  exact ifp (rfl) (hK _ _ _)
set_option maxHeartbeats 4000000 in
set_option maxRecDepth 100000 in
theorem lc_446 {xs : Nat → Int32} {K : Int32 → (Nat → Int32) → (Nat → Nat → Int32) → Int64 → Option Int32} (hK : ∀ σ α h, K (0 + 4) σ α h = some 1) : fL_law_446 20 4 xs K 0 σ0 α0 0 = some 1 := by
  unfold fL_law_446
  refine ifn (by decide) ?_
  refine ifn (by decide) ?_
  refine ob (uX8_when (by rfl)) ?_
  refine ifn (by decide) ?_
  refine ifn (by decide) ?_
  refine ob (uX9_when (by rfl)) ?_
  exact ifp (rfl) (hK _ _ _)
set_option maxHeartbeats 4000000 in
set_option maxRecDepth 100000 in
theorem lc_479 {xs : Nat → Int32} {K : Int32 → (Nat → Int32) → (Nat → Nat → Int32) → Int64 → Option Int32} (hK : ∀ σ α h, K (0 + 4) σ α h = some 1) : fL_law_479 20 4 xs K 0 σ0 α0 0 = some 1 := by
  unfold fL_law_479
  refine ifn (by decide) ?_
  refine ifn (by decide) ?_
  refine ob (uX8_neighbours (by rfl)) ?_
  refine ifn (by decide) ?_
  refine ifn (by decide) ?_
  refine ob (uX9_neighbours (by rfl)) ?_
  exact ifp (rfl) (hK _ _ _)
set_option maxHeartbeats 4000000 in
set_option maxRecDepth 100000 in
theorem lc_512 {xs : Nat → Int32} {K : Int32 → (Nat → Int32) → (Nat → Nat → Int32) → Int64 → Option Int32} (hK : ∀ σ α h, K (0 + 4) σ α h = some 1) : fL_law_512 20 4 xs K 0 σ0 α0 0 = some 1 := by
  unfold fL_law_512
  refine ob (uX8_again (by rfl)) ?_
  refine ob (uX9_again (by rfl)) ?_
  exact ifp (rfl) (hK _ _ _)
set_option maxHeartbeats 4000000 in
set_option maxRecDepth 100000 in
theorem lc_525 {xs : Nat → Int32} {K : Int32 → (Nat → Int32) → (Nat → Nat → Int32) → Int64 → Option Int32} (hK : ∀ σ α h, K (0 + 4) σ α h = some 1) : fL_law_525 20 4 xs K 0 σ0 α0 0 = some 1 := by
  unfold fL_law_525
  refine ifn (by decide) ?_
  refine ifn (by decide) ?_
  refine ob (uX8_post (by rfl)) ?_
  refine ifn (by decide) ?_
  refine ifn (by decide) ?_
  refine ob (uX9_post (by rfl)) ?_
  exact ifp (rfl) (hK _ _ _)
set_option maxHeartbeats 4000000 in
set_option maxRecDepth 100000 in
theorem lc_558 {xs : Nat → Int32} {K : Int32 → (Nat → Int32) → (Nat → Nat → Int32) → Int64 → Option Int32} (hK : ∀ σ α h, K (0 + 4) σ α h = some 1) : fL_law_558 20 4 xs K 0 σ0 α0 0 = some 1 := by
  unfold fL_law_558
  refine ifn (by decide) ?_
  refine ifn (by decide) ?_
  refine ob (uX8_will (by rfl)) ?_
  refine ifn (by decide) ?_
  refine ifn (by decide) ?_
  refine ob (uX9_will (by rfl)) ?_
  exact ifp (rfl) (hK _ _ _)
set_option maxHeartbeats 4000000 in
set_option maxRecDepth 100000 in
theorem lc_591 {xs : Nat → Int32} {K : Int32 → (Nat → Int32) → (Nat → Nat → Int32) → Int64 → Option Int32} (hK : ∀ σ α h, K (0 + 4) σ α h = some 1) : fL_law_591 20 4 xs K 0 σ0 α0 0 = some 1 := by
  unfold fL_law_591
  refine ob (uX8_rings (by rfl)) ?_
  refine ob (uX9_rings (by rfl)) ?_
  exact ifp (rfl) (hK _ _ _)
set_option maxHeartbeats 4000000 in
set_option maxRecDepth 100000 in
theorem lc_604 {xs : Nat → Int32} {K : Int32 → (Nat → Int32) → (Nat → Nat → Int32) → Int64 → Option Int32} (hK : ∀ σ α h, K (0 + 4) σ α h = some 1) : fL_law_604 20 4 xs K 0 σ0 α0 0 = some 1 := by
  unfold fL_law_604
  refine ifn (by decide) ?_
  refine ifn (by decide) ?_
  refine ifn (by decide) ?_
  refine ob (uX8_wish (by rfl)) ?_
  refine ifn (by decide) ?_
  refine ifn (by decide) ?_
  refine ifn (by decide) ?_
  refine ob (uX9_wish (by rfl)) ?_
  exact ifp (rfl) (hK _ _ _)
set_option maxHeartbeats 4000000 in
set_option maxRecDepth 100000 in
theorem lc_647 {xs : Nat → Int32} {K : Int32 → (Nat → Int32) → (Nat → Nat → Int32) → Int64 → Option Int32} (hK : ∀ σ α h, K (0 + 4) σ α h = some 1) : fL_law_647 20 4 xs K 0 σ0 α0 0 = some 1 := by
  unfold fL_law_647
  refine ob (rfl) ?_
  refine ob (rfl) ?_
  exact ifp (rfl) (hK _ _ _)
set_option maxHeartbeats 4000000 in
set_option maxRecDepth 100000 in
theorem lc_683 {xs : Nat → Int32} {K : Int32 → (Nat → Int32) → (Nat → Nat → Int32) → Int64 → Option Int32} (hK : ∀ σ α h, K (0 + 4) σ α h = some 1) : fL_law_683 20 4 xs K 0 σ0 α0 0 = some 1 := by
  unfold fL_law_683
  refine ifn (by decide) ?_
  refine ifn (by decide) ?_
  refine ifn (by decide) ?_
  refine ob (uX8_see (by rfl)) ?_
  refine ifn (by decide) ?_
  refine ifn (by decide) ?_
  refine ifn (by decide) ?_
  refine ob (uX9_see (by rfl)) ?_
  exact ifp (rfl) (hK _ _ _)
set_option maxHeartbeats 4000000 in
set_option maxRecDepth 100000 in
theorem lc_726 {xs : Nat → Int32} {K : Int32 → (Nat → Int32) → (Nat → Nat → Int32) → Int64 → Option Int32} (hK : ∀ σ α h, K (0 + 4) σ α h = some 1) : fL_law_726 20 4 xs K 0 σ0 α0 0 = some 1 := by
  unfold fL_law_726
  refine ob (rfl) ?_
  refine ob (rfl) ?_
  exact ifp (rfl) (hK _ _ _)
set_option maxHeartbeats 4000000 in
set_option maxRecDepth 100000 in
theorem lc_782 {xs : Nat → Int32} {K : Int32 → (Nat → Int32) → (Nat → Nat → Int32) → Int64 → Option Int32} (hK : ∀ σ α h, K (0 + 4) σ α h = some 1) : fL_law_782 20 4 xs K 0 σ0 α0 0 = some 1 := by
  unfold fL_law_782
  refine ob (uX8_image (by rfl)) ?_
  refine ob (uX9_image (by rfl)) ?_
  exact ifp (rfl) (hK _ _ _)
set_option maxHeartbeats 4000000 in
set_option maxRecDepth 100000 in
theorem lc_795 {xs : Nat → Int32} {K : Int32 → (Nat → Int32) → (Nat → Nat → Int32) → Int64 → Option Int32} (hK : ∀ σ α h, K (0 + 4) σ α h = some 1) : fL_law_795 20 4 xs K 0 σ0 α0 0 = some 1 := by
  unfold fL_law_795
  refine ob (by unfold fX8_restore; exact ifp rfl rfl) ?_
  refine ob (by unfold fX9_restore; exact ifn (by decide) rfl) ?_
  exact ifp (rfl) (hK _ _ _)
set_option maxHeartbeats 4000000 in
set_option maxRecDepth 100000 in
theorem dg8 : ((fX8_digest 20 (σ0 1) (σ0 2) (σ0 4) (σ0 5) (σ0 6) (σ0 7) (σ0 8) (α0 4) (α0 2) (α0 6) (α0 3) (α0 5) (σ0 10) (α0 11) (α0 13) (α0 7) (α0 1) (σ0 3) (α0 0) (σ0 9) (σ0 20) (α0 29) (α0 31) (α0 30) (σ0 22) (σ0 23) (σ0 24) (α0 33) (α0 34) (α0 35) (α0 36) (σ0 17) (σ0 18) (σ0 19) (α0 25) (α0 26) (α0 27) (α0 28))).map (·.1) = some 2723840464553809399 := by decide +kernel
set_option maxHeartbeats 4000000 in
set_option maxRecDepth 100000 in
theorem dg9 : ((fX9_digest 20 (σ0 25) (σ0 26) (σ0 27) (σ0 28) (σ0 29) (σ0 30) (σ0 34) (σ0 35) (σ0 36) (α0 42) (α0 40) (α0 43) (α0 52) (α0 41) (α0 38) (α0 37) (σ0 31) (σ0 32) (σ0 33) 0 (α0 46) (α0 47) (α0 48) (α0 39) (α0 44) (α0 45) (α0 53))).map (·.1) = some 2723840464553809399 := by decide +kernel
set_option maxHeartbeats 4000000 in
set_option maxRecDepth 100000 in
theorem lc_831 {xs : Nat → Int32} {K : Int32 → (Nat → Int32) → (Nat → Nat → Int32) → Int64 → Option Int32} (hK : ∀ σ α h, K (0 + 4) σ α h = some 1) : fL_law_831 20 4 xs K 0 σ0 α0 0 = some 1 := by
  unfold fL_law_831
  obtain ⟨x, hx, ex⟩ := Option.map_eq_some_iff.mp dg8
  obtain ⟨y, hy, ey⟩ := Option.map_eq_some_iff.mp dg9
  refine ob hx ?_
  refine ob hy ?_
  exact ifp (by rw [ex, ey]; decide) (hK _ _ _)
set_option maxHeartbeats 4000000 in
set_option maxRecDepth 100000 in
theorem cnt (a : Int32) : ∃ r, fX8_count 20 (σ0 1) (σ0 2) (σ0 3) (σ0 5) (σ0 10) (σ0 9) (σ0 6) (σ0 7) (σ0 8) (α0 7) (σ0 4) (α0 4) (α0 1) (α0 5) a = some r ∧ fX9_count 20 (σ0 25) (σ0 26) (σ0 27) (σ0 28) (σ0 29) (σ0 30) (σ0 34) (σ0 35) (σ0 36) (α0 41) (α0 42) (α0 38) (α0 43) a = some r := by
  by_cases h0 : a = 0
  · exact ⟨0, by rw [h0]; decide +kernel, by rw [h0]; decide +kernel⟩
  by_cases h1 : a = 1
  · exact ⟨0, by rw [h1]; decide +kernel, by rw [h1]; decide +kernel⟩
  by_cases h2 : a = 2
  · exact ⟨0, by rw [h2]; decide +kernel, by rw [h2]; decide +kernel⟩
  by_cases h3 : a = 3
  · exact ⟨0, by rw [h3]; decide +kernel, by rw [h3]; decide +kernel⟩
  by_cases h4 : a = 4
  · exact ⟨0, by rw [h4]; decide +kernel, by rw [h4]; decide +kernel⟩
  by_cases h5 : a = 5
  · exact ⟨0, by rw [h5]; decide +kernel, by rw [h5]; decide +kernel⟩
  by_cases h6 : a = 6
  · exact ⟨0, by rw [h6]; decide +kernel, by rw [h6]; decide +kernel⟩
  by_cases h7 : a = 7
  · exact ⟨0, by rw [h7]; decide +kernel, by rw [h7]; decide +kernel⟩
  by_cases h8 : a = 8
  · exact ⟨0, by rw [h8]; decide +kernel, by rw [h8]; decide +kernel⟩
  by_cases h9 : a = 9
  · exact ⟨0, by rw [h9]; decide +kernel, by rw [h9]; decide +kernel⟩
  by_cases h10 : a = 10
  · exact ⟨0, by rw [h10]; decide +kernel, by rw [h10]; decide +kernel⟩
  by_cases h11 : a = 11
  · exact ⟨0, by rw [h11]; decide +kernel, by rw [h11]; decide +kernel⟩
  by_cases h12 : a = 12
  · exact ⟨0, by rw [h12]; decide +kernel, by rw [h12]; decide +kernel⟩
  refine ⟨-102, ?_, ?_⟩
  · unfold fX8_count
    exact ifn h0 (ifn h1 (ifn h2 (ifn h3 (ifn h4 (ifn h5 (ifn h6 (ifn h7 (ifn h8 (ifn h9 (ifn h10 (ifn h11 (ifn h12 (rfl)))))))))))))
  · unfold fX9_count
    refine ob (a := -102) ?_ rfl
    unfold fX9_countOf
    exact ifn h0 (ifn h1 (ifn h2 (ifn h3 (ifn h4 (ifn h5 (ifn h6 (ifn h7 (ifn h8 (ifn h9 (ifn h10 (ifn h11 (ifn h12 (rfl)))))))))))))
set_option maxHeartbeats 4000000 in
set_option maxRecDepth 100000 in
theorem lc_808 {xs : Nat → Int32} {K : Int32 → (Nat → Int32) → (Nat → Nat → Int32) → Int64 → Option Int32} (hK : ∀ σ α h, K (0 + 4) σ α h = some 1) : fL_law_808 20 4 xs K 0 σ0 α0 0 = some 1 := by
  unfold fL_law_808
  obtain ⟨r, h8, h9⟩ := cnt (xs ((0 + (1 : Int32))).toNatClampNeg)
  refine ifn (by decide) ?_
  refine ob h8 ?_
  refine ifn (by decide) ?_
  refine ob h9 ?_
  exact ifp rfl (hK _ _ _)
set_option maxHeartbeats 4000000 in
set_option maxRecDepth 100000 in
theorem ltr (a : Int32) : ∃ x y, fX8_letter 20 a (σ0 3) (α0 0) = some x ∧ fX9_letter 20 a (σ0 25) (α0 37) = some y ∧ x.1 = y.1 := by
  unfold fX8_letter fX9_letter
  have e1 : (1 : Int32).toInt = 1 := rfl
  by_cases c1 : a < 1
  · exact ⟨_, _, ifp c1 rfl, ob (in32n (lo := 1) (hi := 126) (by decide) (by decide) (fun q => by have h1 := q.1; rw [fa_le] at h1; rw [fa_lt] at c1; omega)) (ifp rfl rfl), rfl⟩
  · by_cases c2 : a ≤ 126
    · exact ⟨_, _, ifn c1 (ifp c2 (ifp (by decide) (ob (a := (1, upd (α0 0) ((σ0 3)).toNatClampNeg a)) (by unfold fX3_write; exact ifn (by decide) (ifn (by decide) rfl)) rfl))), ob (in32p (lo := 1) (hi := 126) (by decide) (by decide) ⟨by rw [fa_lt] at c1; rw [fa_le]; omega, c2⟩) (ifn (by decide) (ifn (by decide) (ifn (by decide) rfl))), rfl⟩
    · exact ⟨_, _, ifn c1 (ifn c2 rfl), ob (in32n (lo := 1) (hi := 126) (by decide) (by decide) (fun q => c2 q.2)) (ifp rfl rfl), rfl⟩
set_option maxHeartbeats 4000000 in
set_option maxRecDepth 100000 in
theorem lc_160 {xs : Nat → Int32} {K : Int32 → (Nat → Int32) → (Nat → Nat → Int32) → Int64 → Option Int32} (hK : ∀ σ α h, K (0 + 4) σ α h = some 1) : fL_law_160 20 4 xs K 0 σ0 α0 0 = some 1 := by
  unfold fL_law_160
  obtain ⟨x, y, h8, h9, e⟩ := ltr (xs ((0 + (1 : Int32))).toNatClampNeg)
  refine ifn (by decide) ?_
  refine ob h8 ?_
  refine ifn (by decide) ?_
  refine ob h9 ?_
  exact ifp e (hK _ _ _)
set_option maxHeartbeats 4000000 in
set_option maxRecDepth 100000 in
theorem o34 {N : Nat} {hs mo : Int32} {be : Nat → Int32} {a l2 l3 od : Int32} (h0 : hs = 0) : fX8_order_34 N hs mo be a l2 l3 od = some (-103, od) := by
  subst h0
  unfold fX8_order_34
  exact ob (z8_hasSquare _) (ifp rfl rfl)
set_option maxHeartbeats 4000000 in
set_option maxRecDepth 100000 in
theorem o21 {N : Nat}  {v_houses : Int32} {v_wishesMany : Int32} {v_kinds : (Nat → Int32)} {v_wishes : (Nat → Int32)} {a1 : Int32} {v_frontThen : Int32} {v_downThen : Int32} {v_ordersDone : Int32} {v_order : (Nat → Int32)} {v_plotsThen : (Nat → Int32)} {v_rowThen : (Nat → Int32)} {v_bestOrder : (Nat → Int32)} (h0 : v_houses = 0) : fX9_order_21 N v_houses v_wishesMany v_kinds v_wishes a1 v_frontThen v_downThen v_ordersDone v_order v_plotsThen v_rowThen v_bestOrder = some (-103, v_frontThen, v_downThen, v_ordersDone, v_order, v_plotsThen, v_rowThen, v_bestOrder) := by
  subst h0
  unfold fX9_order_21
  exact ob (z9_lacks _) (ifn (by decide) rfl)
set_option maxHeartbeats 4000000 in
set_option maxRecDepth 100000 in
theorem ord (a : Int32) : ∃ x y, fX8_order 20 (σ0 4) (σ0 21) (α0 32) a (σ0 2) = some x ∧ fX9_order 20 (σ0 26) (σ0 34) (α0 39) (α0 49) a (σ0 31) (σ0 32) (σ0 35) (α0 50) (α0 44) (α0 45) (α0 51) = some y ∧ x.1 = y.1 := by
  unfold fX8_order fX9_order
  have hr := fb_rng a
  have e10 : (10 : Int32).toInt = 10 := rfl
  have e15 : (15 : Int32).toInt = 15 := rfl
  have e6 : (6 : Int32).toInt = 6 := rfl
  by_cases c0 : a = 0
  · exact ⟨_, _, ifp (by rw [c0]; decide) (ifp c0 (o34 (by rfl))), ifp c0 (o21 (by rfl)), rfl⟩
  · by_cases c1 : a < 10
    · exact ⟨_, _, ifp c1 (ifn c0 rfl), ifn c0 (ob (in32n (lo := 10) (hi := 15) (by decide) (by decide) (fun q => by have h1 := q.1; rw [fa_le] at h1; rw [fa_lt] at c1; omega)) (ifp rfl rfl)), rfl⟩
    · have c1' := c1
      rw [fa_lt] at c1'
      have es : (a - 10).toInt = a.toInt - 10 := by rw [fb_subI (by omega) (by omega), e10]
      by_cases c2 : (6 : Int32) ≤ a - 10
      · exact ⟨_, _, ifn c1 (ifp c2 (ifn c0 rfl)), ifn c0 (ob (in32n (lo := 10) (hi := 15) (by decide) (by decide) (fun q => by have h1 := q.2; rw [fa_le] at h1 c2; omega)) (ifp rfl rfl)), rfl⟩
      · exact ⟨_, _, ifn c1 (ifn c2 (ifn c0 (o34 (by rfl)))), ifn c0 (ob (in32p (lo := 10) (hi := 15) (by decide) (by decide) ⟨by rw [fa_le]; omega, by rw [fa_le] at c2 ⊢; omega⟩) (ifn (by decide) (o21 (by rfl)))), rfl⟩
set_option maxHeartbeats 4000000 in
set_option maxRecDepth 100000 in
theorem lc_660 {xs : Nat → Int32} {K : Int32 → (Nat → Int32) → (Nat → Nat → Int32) → Int64 → Option Int32} (hK : ∀ σ α h, K (0 + 4) σ α h = some 1) : fL_law_660 20 4 xs K 0 σ0 α0 0 = some 1 := by
  unfold fL_law_660
  obtain ⟨x, y, h8, h9, e⟩ := ord (xs ((0 + (1 : Int32))).toNatClampNeg)
  refine ifn (by decide) ?_
  refine ob h8 ?_
  refine ifn (by decide) ?_
  refine ob h9 ?_
  exact ifp e (hK _ _ _)
set_option maxHeartbeats 4000000 in
set_option maxRecDepth 100000 in
theorem yrs (a1 a2 a3 : Int32) : ∃ x y, fX8_years 20 (σ0 4) (σ0 6) (σ0 7) (σ0 8) (α0 3) (α0 4) (α0 5) (α0 6) (α0 1) a1 a2 a3 (σ0 17) (σ0 18) (σ0 19) (α0 25) (α0 26) (α0 27) (α0 28) = some x ∧ fX9_years 20 (σ0 26) (σ0 29) (σ0 30) (α0 42) (α0 43) (α0 39) (α0 38) a1 a2 a3 (σ0 31) (σ0 32) (σ0 37) (α0 44) (α0 45) = some y ∧ x.1 = y.1 := by
  unfold fX8_years fX9_years
  have e0 : (0 : Int32).toInt = 0 := rfl
  have e1 : (1 : Int32).toInt = 1 := rfl
  have e2 : (2 : Int32).toInt = 2 := rfl
  have e3 : (3 : Int32).toInt = 3 := rfl
  have e60 : (60 : Int32).toInt = 60 := rfl
  by_cases c1 : a1 < 1
  · exact ⟨_, _, ifp c1 rfl, ob (in32n (lo := 1) (hi := 60) (by decide) (by decide) (fun q => by have h1 := q.1; rw [fa_le] at h1; rw [fa_lt] at c1; omega)) (ifp rfl rfl), rfl⟩
  · by_cases c2 : 60 < a1
    · exact ⟨_, _, ifn c1 (ifp c2 rfl), ob (in32n (lo := 1) (hi := 60) (by decide) (by decide) (fun q => by have h1 := q.2; rw [fa_le] at h1; rw [fa_lt] at c2; omega)) (ifp rfl rfl), rfl⟩
    · have hi1 : (1 : Int32) ≤ a1 ∧ a1 ≤ 60 := ⟨by rw [fa_lt] at c1; rw [fa_le]; omega, by rw [fa_lt] at c2; rw [fa_le]; omega⟩
      have k1 := in32p (N := 20) (l := 1) (h := 60) (by decide) (by decide) hi1
      by_cases c3 : a2 < 0
      · exact ⟨_, _, ifn c1 (ifn c2 (ifp c3 rfl)), ob k1 (ifn (by decide) (ifp c3 rfl)), rfl⟩
      · by_cases c4 : a3 < 0
        · exact ⟨_, _, ifn c1 (ifn c2 (ifn c3 (ifp c4 rfl))), ob k1 (ifn (by decide) (ifn c3 (ob (in32n (lo := 0) (hi := 2) (by decide) (by decide) (fun q => by have h1 := q.1; rw [fa_le] at h1; rw [fa_lt] at c4; omega)) (ifp rfl rfl)))), rfl⟩
        · by_cases c5 : a3 < 3
          · exact ⟨_, _, ifn c1 (ifn c2 (ifn c3 (ifn c4 (ifp c5 (ob (z8_hasSquare _) (ifp rfl rfl)))))), ob k1 (ifn (by decide) (ifn c3 (ob (in32p (lo := 0) (hi := 2) (by decide) (by decide) ⟨by rw [fa_lt] at c4; rw [fa_le]; omega, by rw [fa_lt] at c5; rw [fa_le]; omega⟩) (ifn (by decide) (ob (z9_lacks _) (ifn (by decide) rfl)))))), rfl⟩
          · exact ⟨_, _, ifn c1 (ifn c2 (ifn c3 (ifn c4 (ifn c5 rfl)))), ob k1 (ifn (by decide) (ifn c3 (ob (in32n (lo := 0) (hi := 2) (by decide) (by decide) (fun q => by have h1 := q.2; rw [fa_le] at h1; rw [fa_lt] at c5; omega)) (ifp rfl rfl)))), rfl⟩
set_option maxHeartbeats 4000000 in
set_option maxRecDepth 100000 in
theorem lc_739 {xs : Nat → Int32} {K : Int32 → (Nat → Int32) → (Nat → Nat → Int32) → Int64 → Option Int32} (hK : ∀ σ α h, K (0 + 4) σ α h = some 1) : fL_law_739 20 4 xs K 0 σ0 α0 0 = some 1 := by
  unfold fL_law_739
  obtain ⟨x, y, h8, h9, e⟩ := yrs (xs ((0 + (1 : Int32))).toNatClampNeg) (xs ((0 + (2 : Int32))).toNatClampNeg) (xs ((0 + (3 : Int32))).toNatClampNeg)
  refine ifn (by decide) (ifn (by decide) (ifn (by decide) ?_))
  refine ob h8 ?_
  refine ifn (by decide) (ifn (by decide) (ifn (by decide) ?_))
  refine ob h9 ?_
  exact ifp e (hK _ _ _)
set_option maxHeartbeats 4000000 in
set_option maxRecDepth 100000 in
theorem law_end (xs : Nat → Int32) (n : Nat) (σ : Nat → Int32) (α : Nat → Nat → Int32) (hh : Int64) : lfix (fun (K : Int32 × (Nat → Int32) × (Nat → Nat → Int32) × Int64 → Option Int32) (a : Int32 × (Nat → Int32) × (Nat → Nat → Int32) × Int64) => fL_law_18 20 4 xs (fun l3 σ α hh => K (l3, σ, α, hh)) a.1 a.2.1 a.2.2.1 a.2.2.2) (n + 1) (0 + 4, σ, α, hh) = some 1 := by
  rw [lfix_s]
  show fL_law_18 20 4 xs _ (0 + 4) σ α hh = some 1
  unfold fL_law_18
  exact ifp (by decide) rfl
theorem law_pure (L : Nat) (xs : Nat → Int32) (hL : L ≤ 4) : ∃ N, lfix (fun (K : Int32 × (Nat → Int32) × (Nat → Nat → Int32) × Int64 → Option Int32) (a : Int32 × (Nat → Int32) × (Nat → Nat → Int32) × Int64) => fL_law_18 N L xs (fun l3 σ α hh => K (l3, σ, α, hh)) a.1 a.2.1 a.2.2.1 a.2.2.2) N ((0 : Int32), σ0, α0, (0 : Int64)) = some 1 := by
  refine ⟨20, ?_⟩
  refine (lfix_s _ 19 _).trans ?_
  show fL_law_18 20 L xs _ 0 σ0 α0 0 = some 1
  by_cases h4 : L = 4
  · subst h4
    have hK : ∀ σ α h, (fun (l3 : Int32) (σ : Nat → Int32) (α : Nat → Nat → Int32) (hh : Int64) => lfix (fun (K : Int32 × (Nat → Int32) × (Nat → Nat → Int32) × Int64 → Option Int32) (a : Int32 × (Nat → Int32) × (Nat → Nat → Int32) × Int64) => fL_law_18 20 4 xs (fun l3 σ α hh => K (l3, σ, α, hh)) a.1 a.2.1 a.2.2.1 a.2.2.2) 19 (l3, σ, α, hh)) (0 + 4) σ α h = some 1 := fun σ α h => law_end xs 18 σ α h
    unfold fL_law_18
    refine ifn (by decide) (ifn (by decide) ?_)
    by_cases h0 : (xs ((0 : Int32)).toNatClampNeg &&& (31 : Int32)) = (0 : Int32)
    · exact ifp h0 (lc_160 hK)
    refine ifn h0 ?_
    by_cases h1 : (xs ((0 : Int32)).toNatClampNeg &&& (31 : Int32)) = (1 : Int32)
    · exact ifp h1 (lc_183 hK)
    refine ifn h1 ?_
    by_cases h2 : (xs ((0 : Int32)).toNatClampNeg &&& (31 : Int32)) = (2 : Int32)
    · exact ifp h2 (lc_196 hK)
    refine ifn h2 ?_
    by_cases h3 : (xs ((0 : Int32)).toNatClampNeg &&& (31 : Int32)) = (3 : Int32)
    · exact ifp h3 (lc_209 hK)
    refine ifn h3 ?_
    by_cases h4 : (xs ((0 : Int32)).toNatClampNeg &&& (31 : Int32)) = (4 : Int32)
    · exact ifp h4 (lc_222 hK)
    refine ifn h4 ?_
    by_cases h5 : (xs ((0 : Int32)).toNatClampNeg &&& (31 : Int32)) = (5 : Int32)
    · exact ifp h5 (lc_255 hK)
    refine ifn h5 ?_
    by_cases h6 : (xs ((0 : Int32)).toNatClampNeg &&& (31 : Int32)) = (6 : Int32)
    · exact ifp h6 (lc_288 hK)
    refine ifn h6 ?_
    by_cases h7 : (xs ((0 : Int32)).toNatClampNeg &&& (31 : Int32)) = (7 : Int32)
    · exact ifp h7 (lc_321 hK)
    refine ifn h7 ?_
    by_cases h8 : (xs ((0 : Int32)).toNatClampNeg &&& (31 : Int32)) = (8 : Int32)
    · exact ifp h8 (lc_334 hK)
    refine ifn h8 ?_
    by_cases h9 : (xs ((0 : Int32)).toNatClampNeg &&& (31 : Int32)) = (9 : Int32)
    · exact ifp h9 (lc_347 hK)
    refine ifn h9 ?_
    by_cases h10 : (xs ((0 : Int32)).toNatClampNeg &&& (31 : Int32)) = (10 : Int32)
    · exact ifp h10 (lc_380 hK)
    refine ifn h10 ?_
    by_cases h11 : (xs ((0 : Int32)).toNatClampNeg &&& (31 : Int32)) = (11 : Int32)
    · exact ifp h11 (lc_413 hK)
    refine ifn h11 ?_
    by_cases h12 : (xs ((0 : Int32)).toNatClampNeg &&& (31 : Int32)) = (12 : Int32)
    · exact ifp h12 (lc_446 hK)
    refine ifn h12 ?_
    by_cases h13 : (xs ((0 : Int32)).toNatClampNeg &&& (31 : Int32)) = (13 : Int32)
    · exact ifp h13 (lc_479 hK)
    refine ifn h13 ?_
    by_cases h14 : (xs ((0 : Int32)).toNatClampNeg &&& (31 : Int32)) = (14 : Int32)
    · exact ifp h14 (lc_512 hK)
    refine ifn h14 ?_
    by_cases h15 : (xs ((0 : Int32)).toNatClampNeg &&& (31 : Int32)) = (15 : Int32)
    · exact ifp h15 (lc_525 hK)
    refine ifn h15 ?_
    by_cases h16 : (xs ((0 : Int32)).toNatClampNeg &&& (31 : Int32)) = (16 : Int32)
    · exact ifp h16 (lc_558 hK)
    refine ifn h16 ?_
    by_cases h17 : (xs ((0 : Int32)).toNatClampNeg &&& (31 : Int32)) = (17 : Int32)
    · exact ifp h17 (lc_591 hK)
    refine ifn h17 ?_
    by_cases h18 : (xs ((0 : Int32)).toNatClampNeg &&& (31 : Int32)) = (18 : Int32)
    · exact ifp h18 (lc_604 hK)
    refine ifn h18 ?_
    by_cases h19 : (xs ((0 : Int32)).toNatClampNeg &&& (31 : Int32)) = (19 : Int32)
    · exact ifp h19 (lc_647 hK)
    refine ifn h19 ?_
    by_cases h20 : (xs ((0 : Int32)).toNatClampNeg &&& (31 : Int32)) = (20 : Int32)
    · exact ifp h20 (lc_660 hK)
    refine ifn h20 ?_
    by_cases h21 : (xs ((0 : Int32)).toNatClampNeg &&& (31 : Int32)) = (21 : Int32)
    · exact ifp h21 (lc_683 hK)
    refine ifn h21 ?_
    by_cases h22 : (xs ((0 : Int32)).toNatClampNeg &&& (31 : Int32)) = (22 : Int32)
    · exact ifp h22 (lc_726 hK)
    refine ifn h22 ?_
    by_cases h23 : (xs ((0 : Int32)).toNatClampNeg &&& (31 : Int32)) = (23 : Int32)
    · exact ifp h23 (lc_739 hK)
    refine ifn h23 ?_
    by_cases h24 : (xs ((0 : Int32)).toNatClampNeg &&& (31 : Int32)) = (24 : Int32)
    · exact ifp h24 (lc_782 hK)
    refine ifn h24 ?_
    by_cases h25 : (xs ((0 : Int32)).toNatClampNeg &&& (31 : Int32)) = (25 : Int32)
    · exact ifp h25 (lc_795 hK)
    refine ifn h25 ?_
    by_cases h26 : (xs ((0 : Int32)).toNatClampNeg &&& (31 : Int32)) = (26 : Int32)
    · exact ifp h26 (lc_808 hK)
    refine ifn h26 ?_
    by_cases h27 : (xs ((0 : Int32)).toNatClampNeg &&& (31 : Int32)) = (27 : Int32)
    · exact ifp h27 (lc_831 hK)
    refine ifn h27 ?_
    exact hK _ _ _
  · unfold fL_law_18
    refine ifp ?_ rfl
    match L, hL, h4 with
    | 0, _, _ => decide
    | 1, _, _ => decide
    | 2, _, _ => decide
    | 3, _, _ => decide
    | 4, _, h => exact absurd rfl h
    | n + 5, h, _ => exact absurd h (by omega)
