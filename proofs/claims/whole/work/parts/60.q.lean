/-! What a setter leaves alone -/
theorem q_m_w_w (z : MM) (v : Int32) : m_w (m_w' z v) = v := by unfold m_w m_w'; exact rfl
theorem q_m_w_h (z : MM) (v : Int32) : m_w (m_h' z v) = m_w z := by unfold m_w m_h'; exact rfl
theorem q_m_w_hedge (z : MM) (v : Nat → Int32) : m_w (m_hedge' z v) = m_w z := by unfold m_w m_hedge'; exact rfl
theorem q_m_w_dug (z : MM) (v : Nat → Int32) : m_w (m_dug' z v) = m_w z := by unfold m_w m_dug'; exact rfl
theorem q_m_w_owner (z : MM) (v : Nat → Int32) : m_w (m_owner' z v) = m_w z := by unfold m_w m_owner'; exact rfl
theorem q_m_w_turn (z : MM) (v : Int32) : m_w (m_turn' z v) = m_w z := by unfold m_w m_turn'; exact rfl
theorem q_m_w_made (z : MM) (v : Int32) : m_w (m_made' z v) = m_w z := by unfold m_w m_made'; exact rfl
theorem q_m_w_players (z : MM) (v : Int32) : m_w (m_players' z v) = m_w z := by unfold m_w m_players'; exact rfl
theorem q_m_w_kind (z : MM) (v : Nat → Int32) : m_w (m_kind' z v) = m_w z := by unfold m_w m_kind'; exact rfl
theorem q_m_w_own (z : MM) (v : Nat → Int32) : m_w (m_own' z v) = m_w z := by unfold m_w m_own'; exact rfl
theorem q_m_w_seed (z : MM) (v : Int32) : m_w (m_seed' z v) = m_w z := by unfold m_w m_seed'; exact rfl
theorem q_m_w_taped (z : MM) (v : Int32) : m_w (m_taped' z v) = m_w z := by unfold m_w m_taped'; exact rfl
theorem q_m_w_tape (z : MM) (v : Nat → Int32) : m_w (m_tape' z v) = m_w z := by unfold m_w m_tape'; exact rfl
theorem q_m_w_from (z : MM) (v : Int32) : m_w (m_from' z v) = m_w z := by unfold m_w m_from'; exact rfl
theorem q_m_w_to (z : MM) (v : Int32) : m_w (m_to' z v) = m_w z := by unfold m_w m_to'; exact rfl
theorem q_m_w_token (z : MM) (v : Int32) : m_w (m_token' z v) = m_w z := by unfold m_w m_token'; exact rfl
theorem q_m_w_value (z : MM) (v : Int32) : m_w (m_value' z v) = m_w z := by unfold m_w m_value'; exact rfl
theorem q_m_w_holding (z : MM) (v : Nat → Int32) : m_w (m_holding' z v) = m_w z := by unfold m_w m_holding'; exact rfl
theorem q_m_w_rowLength (z : MM) (v : Nat → Int32) : m_w (m_rowLength' z v) = m_w z := by unfold m_w m_rowLength'; exact rfl
theorem q_m_w_rowOf (z : MM) (v : Nat → Int64) : m_w (m_rowOf' z v) = m_w z := by unfold m_w m_rowOf'; exact rfl
theorem q_m_w_refusals (z : MM) (v : Nat → Int32) : m_w (m_refusals' z v) = m_w z := by unfold m_w m_refusals'; exact rfl
theorem q_m_w_imaged (z : MM) (v : Int32) : m_w (m_imaged' z v) = m_w z := by unfold m_w m_imaged'; exact rfl
theorem q_m_w_old (z : MM) (v : Nat → Int32) : m_w (m_old' z v) = m_w z := by unfold m_w m_old'; exact rfl
theorem q_m_w_ahead (z : MM) (v : Nat → Int32) : m_w (m_ahead' z v) = m_w z := by unfold m_w m_ahead'; exact rfl
theorem q_m_w_bestMove (z : MM) (v : Int32) : m_w (m_bestMove' z v) = m_w z := by unfold m_w m_bestMove'; exact rfl
theorem q_m_h_w (z : MM) (v : Int32) : m_h (m_w' z v) = m_h z := by unfold m_h m_w'; exact rfl
theorem q_m_h_h (z : MM) (v : Int32) : m_h (m_h' z v) = v := by unfold m_h m_h'; exact rfl
theorem q_m_h_hedge (z : MM) (v : Nat → Int32) : m_h (m_hedge' z v) = m_h z := by unfold m_h m_hedge'; exact rfl
theorem q_m_h_dug (z : MM) (v : Nat → Int32) : m_h (m_dug' z v) = m_h z := by unfold m_h m_dug'; exact rfl
theorem q_m_h_owner (z : MM) (v : Nat → Int32) : m_h (m_owner' z v) = m_h z := by unfold m_h m_owner'; exact rfl
theorem q_m_h_turn (z : MM) (v : Int32) : m_h (m_turn' z v) = m_h z := by unfold m_h m_turn'; exact rfl
theorem q_m_h_made (z : MM) (v : Int32) : m_h (m_made' z v) = m_h z := by unfold m_h m_made'; exact rfl
theorem q_m_h_players (z : MM) (v : Int32) : m_h (m_players' z v) = m_h z := by unfold m_h m_players'; exact rfl
theorem q_m_h_kind (z : MM) (v : Nat → Int32) : m_h (m_kind' z v) = m_h z := by unfold m_h m_kind'; exact rfl
theorem q_m_h_own (z : MM) (v : Nat → Int32) : m_h (m_own' z v) = m_h z := by unfold m_h m_own'; exact rfl
theorem q_m_h_seed (z : MM) (v : Int32) : m_h (m_seed' z v) = m_h z := by unfold m_h m_seed'; exact rfl
theorem q_m_h_taped (z : MM) (v : Int32) : m_h (m_taped' z v) = m_h z := by unfold m_h m_taped'; exact rfl
theorem q_m_h_tape (z : MM) (v : Nat → Int32) : m_h (m_tape' z v) = m_h z := by unfold m_h m_tape'; exact rfl
theorem q_m_h_from (z : MM) (v : Int32) : m_h (m_from' z v) = m_h z := by unfold m_h m_from'; exact rfl
theorem q_m_h_to (z : MM) (v : Int32) : m_h (m_to' z v) = m_h z := by unfold m_h m_to'; exact rfl
theorem q_m_h_token (z : MM) (v : Int32) : m_h (m_token' z v) = m_h z := by unfold m_h m_token'; exact rfl
theorem q_m_h_value (z : MM) (v : Int32) : m_h (m_value' z v) = m_h z := by unfold m_h m_value'; exact rfl
theorem q_m_h_holding (z : MM) (v : Nat → Int32) : m_h (m_holding' z v) = m_h z := by unfold m_h m_holding'; exact rfl
theorem q_m_h_rowLength (z : MM) (v : Nat → Int32) : m_h (m_rowLength' z v) = m_h z := by unfold m_h m_rowLength'; exact rfl
theorem q_m_h_rowOf (z : MM) (v : Nat → Int64) : m_h (m_rowOf' z v) = m_h z := by unfold m_h m_rowOf'; exact rfl
theorem q_m_h_refusals (z : MM) (v : Nat → Int32) : m_h (m_refusals' z v) = m_h z := by unfold m_h m_refusals'; exact rfl
theorem q_m_h_imaged (z : MM) (v : Int32) : m_h (m_imaged' z v) = m_h z := by unfold m_h m_imaged'; exact rfl
theorem q_m_h_old (z : MM) (v : Nat → Int32) : m_h (m_old' z v) = m_h z := by unfold m_h m_old'; exact rfl
theorem q_m_h_ahead (z : MM) (v : Nat → Int32) : m_h (m_ahead' z v) = m_h z := by unfold m_h m_ahead'; exact rfl
theorem q_m_h_bestMove (z : MM) (v : Int32) : m_h (m_bestMove' z v) = m_h z := by unfold m_h m_bestMove'; exact rfl
theorem q_m_hedge_w (z : MM) (v : Int32) : m_hedge (m_w' z v) = m_hedge z := by unfold m_hedge m_w'; exact rfl
theorem q_m_hedge_h (z : MM) (v : Int32) : m_hedge (m_h' z v) = m_hedge z := by unfold m_hedge m_h'; exact rfl
theorem q_m_hedge_hedge (z : MM) (v : Nat → Int32) : m_hedge (m_hedge' z v) = v := by unfold m_hedge m_hedge'; exact rfl
theorem q_m_hedge_dug (z : MM) (v : Nat → Int32) : m_hedge (m_dug' z v) = m_hedge z := by unfold m_hedge m_dug'; exact rfl
theorem q_m_hedge_owner (z : MM) (v : Nat → Int32) : m_hedge (m_owner' z v) = m_hedge z := by unfold m_hedge m_owner'; exact rfl
theorem q_m_hedge_turn (z : MM) (v : Int32) : m_hedge (m_turn' z v) = m_hedge z := by unfold m_hedge m_turn'; exact rfl
theorem q_m_hedge_made (z : MM) (v : Int32) : m_hedge (m_made' z v) = m_hedge z := by unfold m_hedge m_made'; exact rfl
theorem q_m_hedge_players (z : MM) (v : Int32) : m_hedge (m_players' z v) = m_hedge z := by unfold m_hedge m_players'; exact rfl
theorem q_m_hedge_kind (z : MM) (v : Nat → Int32) : m_hedge (m_kind' z v) = m_hedge z := by unfold m_hedge m_kind'; exact rfl
theorem q_m_hedge_own (z : MM) (v : Nat → Int32) : m_hedge (m_own' z v) = m_hedge z := by unfold m_hedge m_own'; exact rfl
theorem q_m_hedge_seed (z : MM) (v : Int32) : m_hedge (m_seed' z v) = m_hedge z := by unfold m_hedge m_seed'; exact rfl
theorem q_m_hedge_taped (z : MM) (v : Int32) : m_hedge (m_taped' z v) = m_hedge z := by unfold m_hedge m_taped'; exact rfl
theorem q_m_hedge_tape (z : MM) (v : Nat → Int32) : m_hedge (m_tape' z v) = m_hedge z := by unfold m_hedge m_tape'; exact rfl
theorem q_m_hedge_from (z : MM) (v : Int32) : m_hedge (m_from' z v) = m_hedge z := by unfold m_hedge m_from'; exact rfl
theorem q_m_hedge_to (z : MM) (v : Int32) : m_hedge (m_to' z v) = m_hedge z := by unfold m_hedge m_to'; exact rfl
theorem q_m_hedge_token (z : MM) (v : Int32) : m_hedge (m_token' z v) = m_hedge z := by unfold m_hedge m_token'; exact rfl
theorem q_m_hedge_value (z : MM) (v : Int32) : m_hedge (m_value' z v) = m_hedge z := by unfold m_hedge m_value'; exact rfl
theorem q_m_hedge_holding (z : MM) (v : Nat → Int32) : m_hedge (m_holding' z v) = m_hedge z := by unfold m_hedge m_holding'; exact rfl
theorem q_m_hedge_rowLength (z : MM) (v : Nat → Int32) : m_hedge (m_rowLength' z v) = m_hedge z := by unfold m_hedge m_rowLength'; exact rfl
theorem q_m_hedge_rowOf (z : MM) (v : Nat → Int64) : m_hedge (m_rowOf' z v) = m_hedge z := by unfold m_hedge m_rowOf'; exact rfl
theorem q_m_hedge_refusals (z : MM) (v : Nat → Int32) : m_hedge (m_refusals' z v) = m_hedge z := by unfold m_hedge m_refusals'; exact rfl
theorem q_m_hedge_imaged (z : MM) (v : Int32) : m_hedge (m_imaged' z v) = m_hedge z := by unfold m_hedge m_imaged'; exact rfl
theorem q_m_hedge_old (z : MM) (v : Nat → Int32) : m_hedge (m_old' z v) = m_hedge z := by unfold m_hedge m_old'; exact rfl
theorem q_m_hedge_ahead (z : MM) (v : Nat → Int32) : m_hedge (m_ahead' z v) = m_hedge z := by unfold m_hedge m_ahead'; exact rfl
theorem q_m_hedge_bestMove (z : MM) (v : Int32) : m_hedge (m_bestMove' z v) = m_hedge z := by unfold m_hedge m_bestMove'; exact rfl
theorem q_m_dug_w (z : MM) (v : Int32) : m_dug (m_w' z v) = m_dug z := by unfold m_dug m_w'; exact rfl
theorem q_m_dug_h (z : MM) (v : Int32) : m_dug (m_h' z v) = m_dug z := by unfold m_dug m_h'; exact rfl
theorem q_m_dug_hedge (z : MM) (v : Nat → Int32) : m_dug (m_hedge' z v) = m_dug z := by unfold m_dug m_hedge'; exact rfl
theorem q_m_dug_dug (z : MM) (v : Nat → Int32) : m_dug (m_dug' z v) = v := by unfold m_dug m_dug'; exact rfl
theorem q_m_dug_owner (z : MM) (v : Nat → Int32) : m_dug (m_owner' z v) = m_dug z := by unfold m_dug m_owner'; exact rfl
theorem q_m_dug_turn (z : MM) (v : Int32) : m_dug (m_turn' z v) = m_dug z := by unfold m_dug m_turn'; exact rfl
theorem q_m_dug_made (z : MM) (v : Int32) : m_dug (m_made' z v) = m_dug z := by unfold m_dug m_made'; exact rfl
theorem q_m_dug_players (z : MM) (v : Int32) : m_dug (m_players' z v) = m_dug z := by unfold m_dug m_players'; exact rfl
theorem q_m_dug_kind (z : MM) (v : Nat → Int32) : m_dug (m_kind' z v) = m_dug z := by unfold m_dug m_kind'; exact rfl
theorem q_m_dug_own (z : MM) (v : Nat → Int32) : m_dug (m_own' z v) = m_dug z := by unfold m_dug m_own'; exact rfl
theorem q_m_dug_seed (z : MM) (v : Int32) : m_dug (m_seed' z v) = m_dug z := by unfold m_dug m_seed'; exact rfl
theorem q_m_dug_taped (z : MM) (v : Int32) : m_dug (m_taped' z v) = m_dug z := by unfold m_dug m_taped'; exact rfl
theorem q_m_dug_tape (z : MM) (v : Nat → Int32) : m_dug (m_tape' z v) = m_dug z := by unfold m_dug m_tape'; exact rfl
theorem q_m_dug_from (z : MM) (v : Int32) : m_dug (m_from' z v) = m_dug z := by unfold m_dug m_from'; exact rfl
theorem q_m_dug_to (z : MM) (v : Int32) : m_dug (m_to' z v) = m_dug z := by unfold m_dug m_to'; exact rfl
theorem q_m_dug_token (z : MM) (v : Int32) : m_dug (m_token' z v) = m_dug z := by unfold m_dug m_token'; exact rfl
theorem q_m_dug_value (z : MM) (v : Int32) : m_dug (m_value' z v) = m_dug z := by unfold m_dug m_value'; exact rfl
theorem q_m_dug_holding (z : MM) (v : Nat → Int32) : m_dug (m_holding' z v) = m_dug z := by unfold m_dug m_holding'; exact rfl
theorem q_m_dug_rowLength (z : MM) (v : Nat → Int32) : m_dug (m_rowLength' z v) = m_dug z := by unfold m_dug m_rowLength'; exact rfl
theorem q_m_dug_rowOf (z : MM) (v : Nat → Int64) : m_dug (m_rowOf' z v) = m_dug z := by unfold m_dug m_rowOf'; exact rfl
theorem q_m_dug_refusals (z : MM) (v : Nat → Int32) : m_dug (m_refusals' z v) = m_dug z := by unfold m_dug m_refusals'; exact rfl
theorem q_m_dug_imaged (z : MM) (v : Int32) : m_dug (m_imaged' z v) = m_dug z := by unfold m_dug m_imaged'; exact rfl
theorem q_m_dug_old (z : MM) (v : Nat → Int32) : m_dug (m_old' z v) = m_dug z := by unfold m_dug m_old'; exact rfl
theorem q_m_dug_ahead (z : MM) (v : Nat → Int32) : m_dug (m_ahead' z v) = m_dug z := by unfold m_dug m_ahead'; exact rfl
theorem q_m_dug_bestMove (z : MM) (v : Int32) : m_dug (m_bestMove' z v) = m_dug z := by unfold m_dug m_bestMove'; exact rfl
theorem q_m_owner_w (z : MM) (v : Int32) : m_owner (m_w' z v) = m_owner z := by unfold m_owner m_w'; exact rfl
theorem q_m_owner_h (z : MM) (v : Int32) : m_owner (m_h' z v) = m_owner z := by unfold m_owner m_h'; exact rfl
theorem q_m_owner_hedge (z : MM) (v : Nat → Int32) : m_owner (m_hedge' z v) = m_owner z := by unfold m_owner m_hedge'; exact rfl
theorem q_m_owner_dug (z : MM) (v : Nat → Int32) : m_owner (m_dug' z v) = m_owner z := by unfold m_owner m_dug'; exact rfl
theorem q_m_owner_owner (z : MM) (v : Nat → Int32) : m_owner (m_owner' z v) = v := by unfold m_owner m_owner'; exact rfl
theorem q_m_owner_turn (z : MM) (v : Int32) : m_owner (m_turn' z v) = m_owner z := by unfold m_owner m_turn'; exact rfl
theorem q_m_owner_made (z : MM) (v : Int32) : m_owner (m_made' z v) = m_owner z := by unfold m_owner m_made'; exact rfl
theorem q_m_owner_players (z : MM) (v : Int32) : m_owner (m_players' z v) = m_owner z := by unfold m_owner m_players'; exact rfl
theorem q_m_owner_kind (z : MM) (v : Nat → Int32) : m_owner (m_kind' z v) = m_owner z := by unfold m_owner m_kind'; exact rfl
theorem q_m_owner_own (z : MM) (v : Nat → Int32) : m_owner (m_own' z v) = m_owner z := by unfold m_owner m_own'; exact rfl
theorem q_m_owner_seed (z : MM) (v : Int32) : m_owner (m_seed' z v) = m_owner z := by unfold m_owner m_seed'; exact rfl
theorem q_m_owner_taped (z : MM) (v : Int32) : m_owner (m_taped' z v) = m_owner z := by unfold m_owner m_taped'; exact rfl
theorem q_m_owner_tape (z : MM) (v : Nat → Int32) : m_owner (m_tape' z v) = m_owner z := by unfold m_owner m_tape'; exact rfl
theorem q_m_owner_from (z : MM) (v : Int32) : m_owner (m_from' z v) = m_owner z := by unfold m_owner m_from'; exact rfl
theorem q_m_owner_to (z : MM) (v : Int32) : m_owner (m_to' z v) = m_owner z := by unfold m_owner m_to'; exact rfl
theorem q_m_owner_token (z : MM) (v : Int32) : m_owner (m_token' z v) = m_owner z := by unfold m_owner m_token'; exact rfl
theorem q_m_owner_value (z : MM) (v : Int32) : m_owner (m_value' z v) = m_owner z := by unfold m_owner m_value'; exact rfl
theorem q_m_owner_holding (z : MM) (v : Nat → Int32) : m_owner (m_holding' z v) = m_owner z := by unfold m_owner m_holding'; exact rfl
theorem q_m_owner_rowLength (z : MM) (v : Nat → Int32) : m_owner (m_rowLength' z v) = m_owner z := by unfold m_owner m_rowLength'; exact rfl
theorem q_m_owner_rowOf (z : MM) (v : Nat → Int64) : m_owner (m_rowOf' z v) = m_owner z := by unfold m_owner m_rowOf'; exact rfl
theorem q_m_owner_refusals (z : MM) (v : Nat → Int32) : m_owner (m_refusals' z v) = m_owner z := by unfold m_owner m_refusals'; exact rfl
theorem q_m_owner_imaged (z : MM) (v : Int32) : m_owner (m_imaged' z v) = m_owner z := by unfold m_owner m_imaged'; exact rfl
theorem q_m_owner_old (z : MM) (v : Nat → Int32) : m_owner (m_old' z v) = m_owner z := by unfold m_owner m_old'; exact rfl
theorem q_m_owner_ahead (z : MM) (v : Nat → Int32) : m_owner (m_ahead' z v) = m_owner z := by unfold m_owner m_ahead'; exact rfl
theorem q_m_owner_bestMove (z : MM) (v : Int32) : m_owner (m_bestMove' z v) = m_owner z := by unfold m_owner m_bestMove'; exact rfl
theorem q_m_turn_w (z : MM) (v : Int32) : m_turn (m_w' z v) = m_turn z := by unfold m_turn m_w'; exact rfl
theorem q_m_turn_h (z : MM) (v : Int32) : m_turn (m_h' z v) = m_turn z := by unfold m_turn m_h'; exact rfl
theorem q_m_turn_hedge (z : MM) (v : Nat → Int32) : m_turn (m_hedge' z v) = m_turn z := by unfold m_turn m_hedge'; exact rfl
theorem q_m_turn_dug (z : MM) (v : Nat → Int32) : m_turn (m_dug' z v) = m_turn z := by unfold m_turn m_dug'; exact rfl
theorem q_m_turn_owner (z : MM) (v : Nat → Int32) : m_turn (m_owner' z v) = m_turn z := by unfold m_turn m_owner'; exact rfl
theorem q_m_turn_turn (z : MM) (v : Int32) : m_turn (m_turn' z v) = v := by unfold m_turn m_turn'; exact rfl
theorem q_m_turn_made (z : MM) (v : Int32) : m_turn (m_made' z v) = m_turn z := by unfold m_turn m_made'; exact rfl
theorem q_m_turn_players (z : MM) (v : Int32) : m_turn (m_players' z v) = m_turn z := by unfold m_turn m_players'; exact rfl
theorem q_m_turn_kind (z : MM) (v : Nat → Int32) : m_turn (m_kind' z v) = m_turn z := by unfold m_turn m_kind'; exact rfl
theorem q_m_turn_own (z : MM) (v : Nat → Int32) : m_turn (m_own' z v) = m_turn z := by unfold m_turn m_own'; exact rfl
theorem q_m_turn_seed (z : MM) (v : Int32) : m_turn (m_seed' z v) = m_turn z := by unfold m_turn m_seed'; exact rfl
theorem q_m_turn_taped (z : MM) (v : Int32) : m_turn (m_taped' z v) = m_turn z := by unfold m_turn m_taped'; exact rfl
theorem q_m_turn_tape (z : MM) (v : Nat → Int32) : m_turn (m_tape' z v) = m_turn z := by unfold m_turn m_tape'; exact rfl
theorem q_m_turn_from (z : MM) (v : Int32) : m_turn (m_from' z v) = m_turn z := by unfold m_turn m_from'; exact rfl
theorem q_m_turn_to (z : MM) (v : Int32) : m_turn (m_to' z v) = m_turn z := by unfold m_turn m_to'; exact rfl
theorem q_m_turn_token (z : MM) (v : Int32) : m_turn (m_token' z v) = m_turn z := by unfold m_turn m_token'; exact rfl
theorem q_m_turn_value (z : MM) (v : Int32) : m_turn (m_value' z v) = m_turn z := by unfold m_turn m_value'; exact rfl
theorem q_m_turn_holding (z : MM) (v : Nat → Int32) : m_turn (m_holding' z v) = m_turn z := by unfold m_turn m_holding'; exact rfl
theorem q_m_turn_rowLength (z : MM) (v : Nat → Int32) : m_turn (m_rowLength' z v) = m_turn z := by unfold m_turn m_rowLength'; exact rfl
theorem q_m_turn_rowOf (z : MM) (v : Nat → Int64) : m_turn (m_rowOf' z v) = m_turn z := by unfold m_turn m_rowOf'; exact rfl
theorem q_m_turn_refusals (z : MM) (v : Nat → Int32) : m_turn (m_refusals' z v) = m_turn z := by unfold m_turn m_refusals'; exact rfl
theorem q_m_turn_imaged (z : MM) (v : Int32) : m_turn (m_imaged' z v) = m_turn z := by unfold m_turn m_imaged'; exact rfl
theorem q_m_turn_old (z : MM) (v : Nat → Int32) : m_turn (m_old' z v) = m_turn z := by unfold m_turn m_old'; exact rfl
theorem q_m_turn_ahead (z : MM) (v : Nat → Int32) : m_turn (m_ahead' z v) = m_turn z := by unfold m_turn m_ahead'; exact rfl
theorem q_m_turn_bestMove (z : MM) (v : Int32) : m_turn (m_bestMove' z v) = m_turn z := by unfold m_turn m_bestMove'; exact rfl
theorem q_m_made_w (z : MM) (v : Int32) : m_made (m_w' z v) = m_made z := by unfold m_made m_w'; exact rfl
theorem q_m_made_h (z : MM) (v : Int32) : m_made (m_h' z v) = m_made z := by unfold m_made m_h'; exact rfl
theorem q_m_made_hedge (z : MM) (v : Nat → Int32) : m_made (m_hedge' z v) = m_made z := by unfold m_made m_hedge'; exact rfl
theorem q_m_made_dug (z : MM) (v : Nat → Int32) : m_made (m_dug' z v) = m_made z := by unfold m_made m_dug'; exact rfl
theorem q_m_made_owner (z : MM) (v : Nat → Int32) : m_made (m_owner' z v) = m_made z := by unfold m_made m_owner'; exact rfl
theorem q_m_made_turn (z : MM) (v : Int32) : m_made (m_turn' z v) = m_made z := by unfold m_made m_turn'; exact rfl
theorem q_m_made_made (z : MM) (v : Int32) : m_made (m_made' z v) = v := by unfold m_made m_made'; exact rfl
theorem q_m_made_players (z : MM) (v : Int32) : m_made (m_players' z v) = m_made z := by unfold m_made m_players'; exact rfl
theorem q_m_made_kind (z : MM) (v : Nat → Int32) : m_made (m_kind' z v) = m_made z := by unfold m_made m_kind'; exact rfl
theorem q_m_made_own (z : MM) (v : Nat → Int32) : m_made (m_own' z v) = m_made z := by unfold m_made m_own'; exact rfl
theorem q_m_made_seed (z : MM) (v : Int32) : m_made (m_seed' z v) = m_made z := by unfold m_made m_seed'; exact rfl
theorem q_m_made_taped (z : MM) (v : Int32) : m_made (m_taped' z v) = m_made z := by unfold m_made m_taped'; exact rfl
theorem q_m_made_tape (z : MM) (v : Nat → Int32) : m_made (m_tape' z v) = m_made z := by unfold m_made m_tape'; exact rfl
theorem q_m_made_from (z : MM) (v : Int32) : m_made (m_from' z v) = m_made z := by unfold m_made m_from'; exact rfl
theorem q_m_made_to (z : MM) (v : Int32) : m_made (m_to' z v) = m_made z := by unfold m_made m_to'; exact rfl
theorem q_m_made_token (z : MM) (v : Int32) : m_made (m_token' z v) = m_made z := by unfold m_made m_token'; exact rfl
theorem q_m_made_value (z : MM) (v : Int32) : m_made (m_value' z v) = m_made z := by unfold m_made m_value'; exact rfl
theorem q_m_made_holding (z : MM) (v : Nat → Int32) : m_made (m_holding' z v) = m_made z := by unfold m_made m_holding'; exact rfl
theorem q_m_made_rowLength (z : MM) (v : Nat → Int32) : m_made (m_rowLength' z v) = m_made z := by unfold m_made m_rowLength'; exact rfl
theorem q_m_made_rowOf (z : MM) (v : Nat → Int64) : m_made (m_rowOf' z v) = m_made z := by unfold m_made m_rowOf'; exact rfl
theorem q_m_made_refusals (z : MM) (v : Nat → Int32) : m_made (m_refusals' z v) = m_made z := by unfold m_made m_refusals'; exact rfl
theorem q_m_made_imaged (z : MM) (v : Int32) : m_made (m_imaged' z v) = m_made z := by unfold m_made m_imaged'; exact rfl
theorem q_m_made_old (z : MM) (v : Nat → Int32) : m_made (m_old' z v) = m_made z := by unfold m_made m_old'; exact rfl
theorem q_m_made_ahead (z : MM) (v : Nat → Int32) : m_made (m_ahead' z v) = m_made z := by unfold m_made m_ahead'; exact rfl
theorem q_m_made_bestMove (z : MM) (v : Int32) : m_made (m_bestMove' z v) = m_made z := by unfold m_made m_bestMove'; exact rfl
theorem q_m_players_w (z : MM) (v : Int32) : m_players (m_w' z v) = m_players z := by unfold m_players m_w'; exact rfl
theorem q_m_players_h (z : MM) (v : Int32) : m_players (m_h' z v) = m_players z := by unfold m_players m_h'; exact rfl
theorem q_m_players_hedge (z : MM) (v : Nat → Int32) : m_players (m_hedge' z v) = m_players z := by unfold m_players m_hedge'; exact rfl
theorem q_m_players_dug (z : MM) (v : Nat → Int32) : m_players (m_dug' z v) = m_players z := by unfold m_players m_dug'; exact rfl
theorem q_m_players_owner (z : MM) (v : Nat → Int32) : m_players (m_owner' z v) = m_players z := by unfold m_players m_owner'; exact rfl
theorem q_m_players_turn (z : MM) (v : Int32) : m_players (m_turn' z v) = m_players z := by unfold m_players m_turn'; exact rfl
theorem q_m_players_made (z : MM) (v : Int32) : m_players (m_made' z v) = m_players z := by unfold m_players m_made'; exact rfl
theorem q_m_players_players (z : MM) (v : Int32) : m_players (m_players' z v) = v := by unfold m_players m_players'; exact rfl
theorem q_m_players_kind (z : MM) (v : Nat → Int32) : m_players (m_kind' z v) = m_players z := by unfold m_players m_kind'; exact rfl
theorem q_m_players_own (z : MM) (v : Nat → Int32) : m_players (m_own' z v) = m_players z := by unfold m_players m_own'; exact rfl
theorem q_m_players_seed (z : MM) (v : Int32) : m_players (m_seed' z v) = m_players z := by unfold m_players m_seed'; exact rfl
theorem q_m_players_taped (z : MM) (v : Int32) : m_players (m_taped' z v) = m_players z := by unfold m_players m_taped'; exact rfl
theorem q_m_players_tape (z : MM) (v : Nat → Int32) : m_players (m_tape' z v) = m_players z := by unfold m_players m_tape'; exact rfl
theorem q_m_players_from (z : MM) (v : Int32) : m_players (m_from' z v) = m_players z := by unfold m_players m_from'; exact rfl
theorem q_m_players_to (z : MM) (v : Int32) : m_players (m_to' z v) = m_players z := by unfold m_players m_to'; exact rfl
theorem q_m_players_token (z : MM) (v : Int32) : m_players (m_token' z v) = m_players z := by unfold m_players m_token'; exact rfl
theorem q_m_players_value (z : MM) (v : Int32) : m_players (m_value' z v) = m_players z := by unfold m_players m_value'; exact rfl
theorem q_m_players_holding (z : MM) (v : Nat → Int32) : m_players (m_holding' z v) = m_players z := by unfold m_players m_holding'; exact rfl
theorem q_m_players_rowLength (z : MM) (v : Nat → Int32) : m_players (m_rowLength' z v) = m_players z := by unfold m_players m_rowLength'; exact rfl
theorem q_m_players_rowOf (z : MM) (v : Nat → Int64) : m_players (m_rowOf' z v) = m_players z := by unfold m_players m_rowOf'; exact rfl
theorem q_m_players_refusals (z : MM) (v : Nat → Int32) : m_players (m_refusals' z v) = m_players z := by unfold m_players m_refusals'; exact rfl
theorem q_m_players_imaged (z : MM) (v : Int32) : m_players (m_imaged' z v) = m_players z := by unfold m_players m_imaged'; exact rfl
theorem q_m_players_old (z : MM) (v : Nat → Int32) : m_players (m_old' z v) = m_players z := by unfold m_players m_old'; exact rfl
theorem q_m_players_ahead (z : MM) (v : Nat → Int32) : m_players (m_ahead' z v) = m_players z := by unfold m_players m_ahead'; exact rfl
theorem q_m_players_bestMove (z : MM) (v : Int32) : m_players (m_bestMove' z v) = m_players z := by unfold m_players m_bestMove'; exact rfl
theorem q_m_kind_w (z : MM) (v : Int32) : m_kind (m_w' z v) = m_kind z := by unfold m_kind m_w'; exact rfl
theorem q_m_kind_h (z : MM) (v : Int32) : m_kind (m_h' z v) = m_kind z := by unfold m_kind m_h'; exact rfl
theorem q_m_kind_hedge (z : MM) (v : Nat → Int32) : m_kind (m_hedge' z v) = m_kind z := by unfold m_kind m_hedge'; exact rfl
theorem q_m_kind_dug (z : MM) (v : Nat → Int32) : m_kind (m_dug' z v) = m_kind z := by unfold m_kind m_dug'; exact rfl
theorem q_m_kind_owner (z : MM) (v : Nat → Int32) : m_kind (m_owner' z v) = m_kind z := by unfold m_kind m_owner'; exact rfl
theorem q_m_kind_turn (z : MM) (v : Int32) : m_kind (m_turn' z v) = m_kind z := by unfold m_kind m_turn'; exact rfl
theorem q_m_kind_made (z : MM) (v : Int32) : m_kind (m_made' z v) = m_kind z := by unfold m_kind m_made'; exact rfl
theorem q_m_kind_players (z : MM) (v : Int32) : m_kind (m_players' z v) = m_kind z := by unfold m_kind m_players'; exact rfl
theorem q_m_kind_kind (z : MM) (v : Nat → Int32) : m_kind (m_kind' z v) = v := by unfold m_kind m_kind'; exact rfl
theorem q_m_kind_own (z : MM) (v : Nat → Int32) : m_kind (m_own' z v) = m_kind z := by unfold m_kind m_own'; exact rfl
theorem q_m_kind_seed (z : MM) (v : Int32) : m_kind (m_seed' z v) = m_kind z := by unfold m_kind m_seed'; exact rfl
theorem q_m_kind_taped (z : MM) (v : Int32) : m_kind (m_taped' z v) = m_kind z := by unfold m_kind m_taped'; exact rfl
theorem q_m_kind_tape (z : MM) (v : Nat → Int32) : m_kind (m_tape' z v) = m_kind z := by unfold m_kind m_tape'; exact rfl
theorem q_m_kind_from (z : MM) (v : Int32) : m_kind (m_from' z v) = m_kind z := by unfold m_kind m_from'; exact rfl
theorem q_m_kind_to (z : MM) (v : Int32) : m_kind (m_to' z v) = m_kind z := by unfold m_kind m_to'; exact rfl
theorem q_m_kind_token (z : MM) (v : Int32) : m_kind (m_token' z v) = m_kind z := by unfold m_kind m_token'; exact rfl
theorem q_m_kind_value (z : MM) (v : Int32) : m_kind (m_value' z v) = m_kind z := by unfold m_kind m_value'; exact rfl
theorem q_m_kind_holding (z : MM) (v : Nat → Int32) : m_kind (m_holding' z v) = m_kind z := by unfold m_kind m_holding'; exact rfl
theorem q_m_kind_rowLength (z : MM) (v : Nat → Int32) : m_kind (m_rowLength' z v) = m_kind z := by unfold m_kind m_rowLength'; exact rfl
theorem q_m_kind_rowOf (z : MM) (v : Nat → Int64) : m_kind (m_rowOf' z v) = m_kind z := by unfold m_kind m_rowOf'; exact rfl
theorem q_m_kind_refusals (z : MM) (v : Nat → Int32) : m_kind (m_refusals' z v) = m_kind z := by unfold m_kind m_refusals'; exact rfl
theorem q_m_kind_imaged (z : MM) (v : Int32) : m_kind (m_imaged' z v) = m_kind z := by unfold m_kind m_imaged'; exact rfl
theorem q_m_kind_old (z : MM) (v : Nat → Int32) : m_kind (m_old' z v) = m_kind z := by unfold m_kind m_old'; exact rfl
theorem q_m_kind_ahead (z : MM) (v : Nat → Int32) : m_kind (m_ahead' z v) = m_kind z := by unfold m_kind m_ahead'; exact rfl
theorem q_m_kind_bestMove (z : MM) (v : Int32) : m_kind (m_bestMove' z v) = m_kind z := by unfold m_kind m_bestMove'; exact rfl
theorem q_m_own_w (z : MM) (v : Int32) : m_own (m_w' z v) = m_own z := by unfold m_own m_w'; exact rfl
theorem q_m_own_h (z : MM) (v : Int32) : m_own (m_h' z v) = m_own z := by unfold m_own m_h'; exact rfl
theorem q_m_own_hedge (z : MM) (v : Nat → Int32) : m_own (m_hedge' z v) = m_own z := by unfold m_own m_hedge'; exact rfl
theorem q_m_own_dug (z : MM) (v : Nat → Int32) : m_own (m_dug' z v) = m_own z := by unfold m_own m_dug'; exact rfl
theorem q_m_own_owner (z : MM) (v : Nat → Int32) : m_own (m_owner' z v) = m_own z := by unfold m_own m_owner'; exact rfl
theorem q_m_own_turn (z : MM) (v : Int32) : m_own (m_turn' z v) = m_own z := by unfold m_own m_turn'; exact rfl
theorem q_m_own_made (z : MM) (v : Int32) : m_own (m_made' z v) = m_own z := by unfold m_own m_made'; exact rfl
theorem q_m_own_players (z : MM) (v : Int32) : m_own (m_players' z v) = m_own z := by unfold m_own m_players'; exact rfl
theorem q_m_own_kind (z : MM) (v : Nat → Int32) : m_own (m_kind' z v) = m_own z := by unfold m_own m_kind'; exact rfl
theorem q_m_own_own (z : MM) (v : Nat → Int32) : m_own (m_own' z v) = v := by unfold m_own m_own'; exact rfl
theorem q_m_own_seed (z : MM) (v : Int32) : m_own (m_seed' z v) = m_own z := by unfold m_own m_seed'; exact rfl
theorem q_m_own_taped (z : MM) (v : Int32) : m_own (m_taped' z v) = m_own z := by unfold m_own m_taped'; exact rfl
theorem q_m_own_tape (z : MM) (v : Nat → Int32) : m_own (m_tape' z v) = m_own z := by unfold m_own m_tape'; exact rfl
theorem q_m_own_from (z : MM) (v : Int32) : m_own (m_from' z v) = m_own z := by unfold m_own m_from'; exact rfl
theorem q_m_own_to (z : MM) (v : Int32) : m_own (m_to' z v) = m_own z := by unfold m_own m_to'; exact rfl
theorem q_m_own_token (z : MM) (v : Int32) : m_own (m_token' z v) = m_own z := by unfold m_own m_token'; exact rfl
theorem q_m_own_value (z : MM) (v : Int32) : m_own (m_value' z v) = m_own z := by unfold m_own m_value'; exact rfl
theorem q_m_own_holding (z : MM) (v : Nat → Int32) : m_own (m_holding' z v) = m_own z := by unfold m_own m_holding'; exact rfl
theorem q_m_own_rowLength (z : MM) (v : Nat → Int32) : m_own (m_rowLength' z v) = m_own z := by unfold m_own m_rowLength'; exact rfl
theorem q_m_own_rowOf (z : MM) (v : Nat → Int64) : m_own (m_rowOf' z v) = m_own z := by unfold m_own m_rowOf'; exact rfl
theorem q_m_own_refusals (z : MM) (v : Nat → Int32) : m_own (m_refusals' z v) = m_own z := by unfold m_own m_refusals'; exact rfl
theorem q_m_own_imaged (z : MM) (v : Int32) : m_own (m_imaged' z v) = m_own z := by unfold m_own m_imaged'; exact rfl
theorem q_m_own_old (z : MM) (v : Nat → Int32) : m_own (m_old' z v) = m_own z := by unfold m_own m_old'; exact rfl
theorem q_m_own_ahead (z : MM) (v : Nat → Int32) : m_own (m_ahead' z v) = m_own z := by unfold m_own m_ahead'; exact rfl
theorem q_m_own_bestMove (z : MM) (v : Int32) : m_own (m_bestMove' z v) = m_own z := by unfold m_own m_bestMove'; exact rfl
theorem q_m_seed_w (z : MM) (v : Int32) : m_seed (m_w' z v) = m_seed z := by unfold m_seed m_w'; exact rfl
theorem q_m_seed_h (z : MM) (v : Int32) : m_seed (m_h' z v) = m_seed z := by unfold m_seed m_h'; exact rfl
theorem q_m_seed_hedge (z : MM) (v : Nat → Int32) : m_seed (m_hedge' z v) = m_seed z := by unfold m_seed m_hedge'; exact rfl
theorem q_m_seed_dug (z : MM) (v : Nat → Int32) : m_seed (m_dug' z v) = m_seed z := by unfold m_seed m_dug'; exact rfl
theorem q_m_seed_owner (z : MM) (v : Nat → Int32) : m_seed (m_owner' z v) = m_seed z := by unfold m_seed m_owner'; exact rfl
theorem q_m_seed_turn (z : MM) (v : Int32) : m_seed (m_turn' z v) = m_seed z := by unfold m_seed m_turn'; exact rfl
theorem q_m_seed_made (z : MM) (v : Int32) : m_seed (m_made' z v) = m_seed z := by unfold m_seed m_made'; exact rfl
theorem q_m_seed_players (z : MM) (v : Int32) : m_seed (m_players' z v) = m_seed z := by unfold m_seed m_players'; exact rfl
theorem q_m_seed_kind (z : MM) (v : Nat → Int32) : m_seed (m_kind' z v) = m_seed z := by unfold m_seed m_kind'; exact rfl
theorem q_m_seed_own (z : MM) (v : Nat → Int32) : m_seed (m_own' z v) = m_seed z := by unfold m_seed m_own'; exact rfl
theorem q_m_seed_seed (z : MM) (v : Int32) : m_seed (m_seed' z v) = v := by unfold m_seed m_seed'; exact rfl
theorem q_m_seed_taped (z : MM) (v : Int32) : m_seed (m_taped' z v) = m_seed z := by unfold m_seed m_taped'; exact rfl
theorem q_m_seed_tape (z : MM) (v : Nat → Int32) : m_seed (m_tape' z v) = m_seed z := by unfold m_seed m_tape'; exact rfl
theorem q_m_seed_from (z : MM) (v : Int32) : m_seed (m_from' z v) = m_seed z := by unfold m_seed m_from'; exact rfl
theorem q_m_seed_to (z : MM) (v : Int32) : m_seed (m_to' z v) = m_seed z := by unfold m_seed m_to'; exact rfl
theorem q_m_seed_token (z : MM) (v : Int32) : m_seed (m_token' z v) = m_seed z := by unfold m_seed m_token'; exact rfl
theorem q_m_seed_value (z : MM) (v : Int32) : m_seed (m_value' z v) = m_seed z := by unfold m_seed m_value'; exact rfl
theorem q_m_seed_holding (z : MM) (v : Nat → Int32) : m_seed (m_holding' z v) = m_seed z := by unfold m_seed m_holding'; exact rfl
theorem q_m_seed_rowLength (z : MM) (v : Nat → Int32) : m_seed (m_rowLength' z v) = m_seed z := by unfold m_seed m_rowLength'; exact rfl
theorem q_m_seed_rowOf (z : MM) (v : Nat → Int64) : m_seed (m_rowOf' z v) = m_seed z := by unfold m_seed m_rowOf'; exact rfl
theorem q_m_seed_refusals (z : MM) (v : Nat → Int32) : m_seed (m_refusals' z v) = m_seed z := by unfold m_seed m_refusals'; exact rfl
theorem q_m_seed_imaged (z : MM) (v : Int32) : m_seed (m_imaged' z v) = m_seed z := by unfold m_seed m_imaged'; exact rfl
theorem q_m_seed_old (z : MM) (v : Nat → Int32) : m_seed (m_old' z v) = m_seed z := by unfold m_seed m_old'; exact rfl
theorem q_m_seed_ahead (z : MM) (v : Nat → Int32) : m_seed (m_ahead' z v) = m_seed z := by unfold m_seed m_ahead'; exact rfl
theorem q_m_seed_bestMove (z : MM) (v : Int32) : m_seed (m_bestMove' z v) = m_seed z := by unfold m_seed m_bestMove'; exact rfl
theorem q_m_taped_w (z : MM) (v : Int32) : m_taped (m_w' z v) = m_taped z := by unfold m_taped m_w'; exact rfl
theorem q_m_taped_h (z : MM) (v : Int32) : m_taped (m_h' z v) = m_taped z := by unfold m_taped m_h'; exact rfl
theorem q_m_taped_hedge (z : MM) (v : Nat → Int32) : m_taped (m_hedge' z v) = m_taped z := by unfold m_taped m_hedge'; exact rfl
theorem q_m_taped_dug (z : MM) (v : Nat → Int32) : m_taped (m_dug' z v) = m_taped z := by unfold m_taped m_dug'; exact rfl
theorem q_m_taped_owner (z : MM) (v : Nat → Int32) : m_taped (m_owner' z v) = m_taped z := by unfold m_taped m_owner'; exact rfl
theorem q_m_taped_turn (z : MM) (v : Int32) : m_taped (m_turn' z v) = m_taped z := by unfold m_taped m_turn'; exact rfl
theorem q_m_taped_made (z : MM) (v : Int32) : m_taped (m_made' z v) = m_taped z := by unfold m_taped m_made'; exact rfl
theorem q_m_taped_players (z : MM) (v : Int32) : m_taped (m_players' z v) = m_taped z := by unfold m_taped m_players'; exact rfl
theorem q_m_taped_kind (z : MM) (v : Nat → Int32) : m_taped (m_kind' z v) = m_taped z := by unfold m_taped m_kind'; exact rfl
theorem q_m_taped_own (z : MM) (v : Nat → Int32) : m_taped (m_own' z v) = m_taped z := by unfold m_taped m_own'; exact rfl
theorem q_m_taped_seed (z : MM) (v : Int32) : m_taped (m_seed' z v) = m_taped z := by unfold m_taped m_seed'; exact rfl
theorem q_m_taped_taped (z : MM) (v : Int32) : m_taped (m_taped' z v) = v := by unfold m_taped m_taped'; exact rfl
theorem q_m_taped_tape (z : MM) (v : Nat → Int32) : m_taped (m_tape' z v) = m_taped z := by unfold m_taped m_tape'; exact rfl
theorem q_m_taped_from (z : MM) (v : Int32) : m_taped (m_from' z v) = m_taped z := by unfold m_taped m_from'; exact rfl
theorem q_m_taped_to (z : MM) (v : Int32) : m_taped (m_to' z v) = m_taped z := by unfold m_taped m_to'; exact rfl
theorem q_m_taped_token (z : MM) (v : Int32) : m_taped (m_token' z v) = m_taped z := by unfold m_taped m_token'; exact rfl
theorem q_m_taped_value (z : MM) (v : Int32) : m_taped (m_value' z v) = m_taped z := by unfold m_taped m_value'; exact rfl
theorem q_m_taped_holding (z : MM) (v : Nat → Int32) : m_taped (m_holding' z v) = m_taped z := by unfold m_taped m_holding'; exact rfl
theorem q_m_taped_rowLength (z : MM) (v : Nat → Int32) : m_taped (m_rowLength' z v) = m_taped z := by unfold m_taped m_rowLength'; exact rfl
theorem q_m_taped_rowOf (z : MM) (v : Nat → Int64) : m_taped (m_rowOf' z v) = m_taped z := by unfold m_taped m_rowOf'; exact rfl
theorem q_m_taped_refusals (z : MM) (v : Nat → Int32) : m_taped (m_refusals' z v) = m_taped z := by unfold m_taped m_refusals'; exact rfl
theorem q_m_taped_imaged (z : MM) (v : Int32) : m_taped (m_imaged' z v) = m_taped z := by unfold m_taped m_imaged'; exact rfl
theorem q_m_taped_old (z : MM) (v : Nat → Int32) : m_taped (m_old' z v) = m_taped z := by unfold m_taped m_old'; exact rfl
theorem q_m_taped_ahead (z : MM) (v : Nat → Int32) : m_taped (m_ahead' z v) = m_taped z := by unfold m_taped m_ahead'; exact rfl
theorem q_m_taped_bestMove (z : MM) (v : Int32) : m_taped (m_bestMove' z v) = m_taped z := by unfold m_taped m_bestMove'; exact rfl
theorem q_m_tape_w (z : MM) (v : Int32) : m_tape (m_w' z v) = m_tape z := by unfold m_tape m_w'; exact rfl
theorem q_m_tape_h (z : MM) (v : Int32) : m_tape (m_h' z v) = m_tape z := by unfold m_tape m_h'; exact rfl
theorem q_m_tape_hedge (z : MM) (v : Nat → Int32) : m_tape (m_hedge' z v) = m_tape z := by unfold m_tape m_hedge'; exact rfl
theorem q_m_tape_dug (z : MM) (v : Nat → Int32) : m_tape (m_dug' z v) = m_tape z := by unfold m_tape m_dug'; exact rfl
theorem q_m_tape_owner (z : MM) (v : Nat → Int32) : m_tape (m_owner' z v) = m_tape z := by unfold m_tape m_owner'; exact rfl
theorem q_m_tape_turn (z : MM) (v : Int32) : m_tape (m_turn' z v) = m_tape z := by unfold m_tape m_turn'; exact rfl
theorem q_m_tape_made (z : MM) (v : Int32) : m_tape (m_made' z v) = m_tape z := by unfold m_tape m_made'; exact rfl
theorem q_m_tape_players (z : MM) (v : Int32) : m_tape (m_players' z v) = m_tape z := by unfold m_tape m_players'; exact rfl
theorem q_m_tape_kind (z : MM) (v : Nat → Int32) : m_tape (m_kind' z v) = m_tape z := by unfold m_tape m_kind'; exact rfl
theorem q_m_tape_own (z : MM) (v : Nat → Int32) : m_tape (m_own' z v) = m_tape z := by unfold m_tape m_own'; exact rfl
theorem q_m_tape_seed (z : MM) (v : Int32) : m_tape (m_seed' z v) = m_tape z := by unfold m_tape m_seed'; exact rfl
theorem q_m_tape_taped (z : MM) (v : Int32) : m_tape (m_taped' z v) = m_tape z := by unfold m_tape m_taped'; exact rfl
theorem q_m_tape_tape (z : MM) (v : Nat → Int32) : m_tape (m_tape' z v) = v := by unfold m_tape m_tape'; exact rfl
theorem q_m_tape_from (z : MM) (v : Int32) : m_tape (m_from' z v) = m_tape z := by unfold m_tape m_from'; exact rfl
theorem q_m_tape_to (z : MM) (v : Int32) : m_tape (m_to' z v) = m_tape z := by unfold m_tape m_to'; exact rfl
theorem q_m_tape_token (z : MM) (v : Int32) : m_tape (m_token' z v) = m_tape z := by unfold m_tape m_token'; exact rfl
theorem q_m_tape_value (z : MM) (v : Int32) : m_tape (m_value' z v) = m_tape z := by unfold m_tape m_value'; exact rfl
theorem q_m_tape_holding (z : MM) (v : Nat → Int32) : m_tape (m_holding' z v) = m_tape z := by unfold m_tape m_holding'; exact rfl
theorem q_m_tape_rowLength (z : MM) (v : Nat → Int32) : m_tape (m_rowLength' z v) = m_tape z := by unfold m_tape m_rowLength'; exact rfl
theorem q_m_tape_rowOf (z : MM) (v : Nat → Int64) : m_tape (m_rowOf' z v) = m_tape z := by unfold m_tape m_rowOf'; exact rfl
theorem q_m_tape_refusals (z : MM) (v : Nat → Int32) : m_tape (m_refusals' z v) = m_tape z := by unfold m_tape m_refusals'; exact rfl
theorem q_m_tape_imaged (z : MM) (v : Int32) : m_tape (m_imaged' z v) = m_tape z := by unfold m_tape m_imaged'; exact rfl
theorem q_m_tape_old (z : MM) (v : Nat → Int32) : m_tape (m_old' z v) = m_tape z := by unfold m_tape m_old'; exact rfl
theorem q_m_tape_ahead (z : MM) (v : Nat → Int32) : m_tape (m_ahead' z v) = m_tape z := by unfold m_tape m_ahead'; exact rfl
theorem q_m_tape_bestMove (z : MM) (v : Int32) : m_tape (m_bestMove' z v) = m_tape z := by unfold m_tape m_bestMove'; exact rfl
theorem q_m_from_w (z : MM) (v : Int32) : m_from (m_w' z v) = m_from z := by unfold m_from m_w'; exact rfl
theorem q_m_from_h (z : MM) (v : Int32) : m_from (m_h' z v) = m_from z := by unfold m_from m_h'; exact rfl
theorem q_m_from_hedge (z : MM) (v : Nat → Int32) : m_from (m_hedge' z v) = m_from z := by unfold m_from m_hedge'; exact rfl
theorem q_m_from_dug (z : MM) (v : Nat → Int32) : m_from (m_dug' z v) = m_from z := by unfold m_from m_dug'; exact rfl
theorem q_m_from_owner (z : MM) (v : Nat → Int32) : m_from (m_owner' z v) = m_from z := by unfold m_from m_owner'; exact rfl
theorem q_m_from_turn (z : MM) (v : Int32) : m_from (m_turn' z v) = m_from z := by unfold m_from m_turn'; exact rfl
theorem q_m_from_made (z : MM) (v : Int32) : m_from (m_made' z v) = m_from z := by unfold m_from m_made'; exact rfl
theorem q_m_from_players (z : MM) (v : Int32) : m_from (m_players' z v) = m_from z := by unfold m_from m_players'; exact rfl
theorem q_m_from_kind (z : MM) (v : Nat → Int32) : m_from (m_kind' z v) = m_from z := by unfold m_from m_kind'; exact rfl
theorem q_m_from_own (z : MM) (v : Nat → Int32) : m_from (m_own' z v) = m_from z := by unfold m_from m_own'; exact rfl
theorem q_m_from_seed (z : MM) (v : Int32) : m_from (m_seed' z v) = m_from z := by unfold m_from m_seed'; exact rfl
theorem q_m_from_taped (z : MM) (v : Int32) : m_from (m_taped' z v) = m_from z := by unfold m_from m_taped'; exact rfl
theorem q_m_from_tape (z : MM) (v : Nat → Int32) : m_from (m_tape' z v) = m_from z := by unfold m_from m_tape'; exact rfl
theorem q_m_from_from (z : MM) (v : Int32) : m_from (m_from' z v) = v := by unfold m_from m_from'; exact rfl
theorem q_m_from_to (z : MM) (v : Int32) : m_from (m_to' z v) = m_from z := by unfold m_from m_to'; exact rfl
theorem q_m_from_token (z : MM) (v : Int32) : m_from (m_token' z v) = m_from z := by unfold m_from m_token'; exact rfl
theorem q_m_from_value (z : MM) (v : Int32) : m_from (m_value' z v) = m_from z := by unfold m_from m_value'; exact rfl
theorem q_m_from_holding (z : MM) (v : Nat → Int32) : m_from (m_holding' z v) = m_from z := by unfold m_from m_holding'; exact rfl
theorem q_m_from_rowLength (z : MM) (v : Nat → Int32) : m_from (m_rowLength' z v) = m_from z := by unfold m_from m_rowLength'; exact rfl
theorem q_m_from_rowOf (z : MM) (v : Nat → Int64) : m_from (m_rowOf' z v) = m_from z := by unfold m_from m_rowOf'; exact rfl
theorem q_m_from_refusals (z : MM) (v : Nat → Int32) : m_from (m_refusals' z v) = m_from z := by unfold m_from m_refusals'; exact rfl
theorem q_m_from_imaged (z : MM) (v : Int32) : m_from (m_imaged' z v) = m_from z := by unfold m_from m_imaged'; exact rfl
theorem q_m_from_old (z : MM) (v : Nat → Int32) : m_from (m_old' z v) = m_from z := by unfold m_from m_old'; exact rfl
theorem q_m_from_ahead (z : MM) (v : Nat → Int32) : m_from (m_ahead' z v) = m_from z := by unfold m_from m_ahead'; exact rfl
theorem q_m_from_bestMove (z : MM) (v : Int32) : m_from (m_bestMove' z v) = m_from z := by unfold m_from m_bestMove'; exact rfl
theorem q_m_to_w (z : MM) (v : Int32) : m_to (m_w' z v) = m_to z := by unfold m_to m_w'; exact rfl
theorem q_m_to_h (z : MM) (v : Int32) : m_to (m_h' z v) = m_to z := by unfold m_to m_h'; exact rfl
theorem q_m_to_hedge (z : MM) (v : Nat → Int32) : m_to (m_hedge' z v) = m_to z := by unfold m_to m_hedge'; exact rfl
theorem q_m_to_dug (z : MM) (v : Nat → Int32) : m_to (m_dug' z v) = m_to z := by unfold m_to m_dug'; exact rfl
theorem q_m_to_owner (z : MM) (v : Nat → Int32) : m_to (m_owner' z v) = m_to z := by unfold m_to m_owner'; exact rfl
theorem q_m_to_turn (z : MM) (v : Int32) : m_to (m_turn' z v) = m_to z := by unfold m_to m_turn'; exact rfl
theorem q_m_to_made (z : MM) (v : Int32) : m_to (m_made' z v) = m_to z := by unfold m_to m_made'; exact rfl
theorem q_m_to_players (z : MM) (v : Int32) : m_to (m_players' z v) = m_to z := by unfold m_to m_players'; exact rfl
theorem q_m_to_kind (z : MM) (v : Nat → Int32) : m_to (m_kind' z v) = m_to z := by unfold m_to m_kind'; exact rfl
theorem q_m_to_own (z : MM) (v : Nat → Int32) : m_to (m_own' z v) = m_to z := by unfold m_to m_own'; exact rfl
theorem q_m_to_seed (z : MM) (v : Int32) : m_to (m_seed' z v) = m_to z := by unfold m_to m_seed'; exact rfl
theorem q_m_to_taped (z : MM) (v : Int32) : m_to (m_taped' z v) = m_to z := by unfold m_to m_taped'; exact rfl
theorem q_m_to_tape (z : MM) (v : Nat → Int32) : m_to (m_tape' z v) = m_to z := by unfold m_to m_tape'; exact rfl
theorem q_m_to_from (z : MM) (v : Int32) : m_to (m_from' z v) = m_to z := by unfold m_to m_from'; exact rfl
theorem q_m_to_to (z : MM) (v : Int32) : m_to (m_to' z v) = v := by unfold m_to m_to'; exact rfl
theorem q_m_to_token (z : MM) (v : Int32) : m_to (m_token' z v) = m_to z := by unfold m_to m_token'; exact rfl
theorem q_m_to_value (z : MM) (v : Int32) : m_to (m_value' z v) = m_to z := by unfold m_to m_value'; exact rfl
theorem q_m_to_holding (z : MM) (v : Nat → Int32) : m_to (m_holding' z v) = m_to z := by unfold m_to m_holding'; exact rfl
theorem q_m_to_rowLength (z : MM) (v : Nat → Int32) : m_to (m_rowLength' z v) = m_to z := by unfold m_to m_rowLength'; exact rfl
theorem q_m_to_rowOf (z : MM) (v : Nat → Int64) : m_to (m_rowOf' z v) = m_to z := by unfold m_to m_rowOf'; exact rfl
theorem q_m_to_refusals (z : MM) (v : Nat → Int32) : m_to (m_refusals' z v) = m_to z := by unfold m_to m_refusals'; exact rfl
theorem q_m_to_imaged (z : MM) (v : Int32) : m_to (m_imaged' z v) = m_to z := by unfold m_to m_imaged'; exact rfl
theorem q_m_to_old (z : MM) (v : Nat → Int32) : m_to (m_old' z v) = m_to z := by unfold m_to m_old'; exact rfl
theorem q_m_to_ahead (z : MM) (v : Nat → Int32) : m_to (m_ahead' z v) = m_to z := by unfold m_to m_ahead'; exact rfl
theorem q_m_to_bestMove (z : MM) (v : Int32) : m_to (m_bestMove' z v) = m_to z := by unfold m_to m_bestMove'; exact rfl
theorem q_m_token_w (z : MM) (v : Int32) : m_token (m_w' z v) = m_token z := by unfold m_token m_w'; exact rfl
theorem q_m_token_h (z : MM) (v : Int32) : m_token (m_h' z v) = m_token z := by unfold m_token m_h'; exact rfl
theorem q_m_token_hedge (z : MM) (v : Nat → Int32) : m_token (m_hedge' z v) = m_token z := by unfold m_token m_hedge'; exact rfl
theorem q_m_token_dug (z : MM) (v : Nat → Int32) : m_token (m_dug' z v) = m_token z := by unfold m_token m_dug'; exact rfl
theorem q_m_token_owner (z : MM) (v : Nat → Int32) : m_token (m_owner' z v) = m_token z := by unfold m_token m_owner'; exact rfl
theorem q_m_token_turn (z : MM) (v : Int32) : m_token (m_turn' z v) = m_token z := by unfold m_token m_turn'; exact rfl
theorem q_m_token_made (z : MM) (v : Int32) : m_token (m_made' z v) = m_token z := by unfold m_token m_made'; exact rfl
theorem q_m_token_players (z : MM) (v : Int32) : m_token (m_players' z v) = m_token z := by unfold m_token m_players'; exact rfl
theorem q_m_token_kind (z : MM) (v : Nat → Int32) : m_token (m_kind' z v) = m_token z := by unfold m_token m_kind'; exact rfl
theorem q_m_token_own (z : MM) (v : Nat → Int32) : m_token (m_own' z v) = m_token z := by unfold m_token m_own'; exact rfl
theorem q_m_token_seed (z : MM) (v : Int32) : m_token (m_seed' z v) = m_token z := by unfold m_token m_seed'; exact rfl
theorem q_m_token_taped (z : MM) (v : Int32) : m_token (m_taped' z v) = m_token z := by unfold m_token m_taped'; exact rfl
theorem q_m_token_tape (z : MM) (v : Nat → Int32) : m_token (m_tape' z v) = m_token z := by unfold m_token m_tape'; exact rfl
theorem q_m_token_from (z : MM) (v : Int32) : m_token (m_from' z v) = m_token z := by unfold m_token m_from'; exact rfl
theorem q_m_token_to (z : MM) (v : Int32) : m_token (m_to' z v) = m_token z := by unfold m_token m_to'; exact rfl
theorem q_m_token_token (z : MM) (v : Int32) : m_token (m_token' z v) = v := by unfold m_token m_token'; exact rfl
theorem q_m_token_value (z : MM) (v : Int32) : m_token (m_value' z v) = m_token z := by unfold m_token m_value'; exact rfl
theorem q_m_token_holding (z : MM) (v : Nat → Int32) : m_token (m_holding' z v) = m_token z := by unfold m_token m_holding'; exact rfl
theorem q_m_token_rowLength (z : MM) (v : Nat → Int32) : m_token (m_rowLength' z v) = m_token z := by unfold m_token m_rowLength'; exact rfl
theorem q_m_token_rowOf (z : MM) (v : Nat → Int64) : m_token (m_rowOf' z v) = m_token z := by unfold m_token m_rowOf'; exact rfl
theorem q_m_token_refusals (z : MM) (v : Nat → Int32) : m_token (m_refusals' z v) = m_token z := by unfold m_token m_refusals'; exact rfl
theorem q_m_token_imaged (z : MM) (v : Int32) : m_token (m_imaged' z v) = m_token z := by unfold m_token m_imaged'; exact rfl
theorem q_m_token_old (z : MM) (v : Nat → Int32) : m_token (m_old' z v) = m_token z := by unfold m_token m_old'; exact rfl
theorem q_m_token_ahead (z : MM) (v : Nat → Int32) : m_token (m_ahead' z v) = m_token z := by unfold m_token m_ahead'; exact rfl
theorem q_m_token_bestMove (z : MM) (v : Int32) : m_token (m_bestMove' z v) = m_token z := by unfold m_token m_bestMove'; exact rfl
theorem q_m_value_w (z : MM) (v : Int32) : m_value (m_w' z v) = m_value z := by unfold m_value m_w'; exact rfl
theorem q_m_value_h (z : MM) (v : Int32) : m_value (m_h' z v) = m_value z := by unfold m_value m_h'; exact rfl
theorem q_m_value_hedge (z : MM) (v : Nat → Int32) : m_value (m_hedge' z v) = m_value z := by unfold m_value m_hedge'; exact rfl
theorem q_m_value_dug (z : MM) (v : Nat → Int32) : m_value (m_dug' z v) = m_value z := by unfold m_value m_dug'; exact rfl
theorem q_m_value_owner (z : MM) (v : Nat → Int32) : m_value (m_owner' z v) = m_value z := by unfold m_value m_owner'; exact rfl
theorem q_m_value_turn (z : MM) (v : Int32) : m_value (m_turn' z v) = m_value z := by unfold m_value m_turn'; exact rfl
theorem q_m_value_made (z : MM) (v : Int32) : m_value (m_made' z v) = m_value z := by unfold m_value m_made'; exact rfl
theorem q_m_value_players (z : MM) (v : Int32) : m_value (m_players' z v) = m_value z := by unfold m_value m_players'; exact rfl
theorem q_m_value_kind (z : MM) (v : Nat → Int32) : m_value (m_kind' z v) = m_value z := by unfold m_value m_kind'; exact rfl
theorem q_m_value_own (z : MM) (v : Nat → Int32) : m_value (m_own' z v) = m_value z := by unfold m_value m_own'; exact rfl
theorem q_m_value_seed (z : MM) (v : Int32) : m_value (m_seed' z v) = m_value z := by unfold m_value m_seed'; exact rfl
theorem q_m_value_taped (z : MM) (v : Int32) : m_value (m_taped' z v) = m_value z := by unfold m_value m_taped'; exact rfl
theorem q_m_value_tape (z : MM) (v : Nat → Int32) : m_value (m_tape' z v) = m_value z := by unfold m_value m_tape'; exact rfl
theorem q_m_value_from (z : MM) (v : Int32) : m_value (m_from' z v) = m_value z := by unfold m_value m_from'; exact rfl
theorem q_m_value_to (z : MM) (v : Int32) : m_value (m_to' z v) = m_value z := by unfold m_value m_to'; exact rfl
theorem q_m_value_token (z : MM) (v : Int32) : m_value (m_token' z v) = m_value z := by unfold m_value m_token'; exact rfl
theorem q_m_value_value (z : MM) (v : Int32) : m_value (m_value' z v) = v := by unfold m_value m_value'; exact rfl
theorem q_m_value_holding (z : MM) (v : Nat → Int32) : m_value (m_holding' z v) = m_value z := by unfold m_value m_holding'; exact rfl
theorem q_m_value_rowLength (z : MM) (v : Nat → Int32) : m_value (m_rowLength' z v) = m_value z := by unfold m_value m_rowLength'; exact rfl
theorem q_m_value_rowOf (z : MM) (v : Nat → Int64) : m_value (m_rowOf' z v) = m_value z := by unfold m_value m_rowOf'; exact rfl
theorem q_m_value_refusals (z : MM) (v : Nat → Int32) : m_value (m_refusals' z v) = m_value z := by unfold m_value m_refusals'; exact rfl
theorem q_m_value_imaged (z : MM) (v : Int32) : m_value (m_imaged' z v) = m_value z := by unfold m_value m_imaged'; exact rfl
theorem q_m_value_old (z : MM) (v : Nat → Int32) : m_value (m_old' z v) = m_value z := by unfold m_value m_old'; exact rfl
theorem q_m_value_ahead (z : MM) (v : Nat → Int32) : m_value (m_ahead' z v) = m_value z := by unfold m_value m_ahead'; exact rfl
theorem q_m_value_bestMove (z : MM) (v : Int32) : m_value (m_bestMove' z v) = m_value z := by unfold m_value m_bestMove'; exact rfl
theorem q_m_holding_w (z : MM) (v : Int32) : m_holding (m_w' z v) = m_holding z := by unfold m_holding m_w'; exact rfl
theorem q_m_holding_h (z : MM) (v : Int32) : m_holding (m_h' z v) = m_holding z := by unfold m_holding m_h'; exact rfl
theorem q_m_holding_hedge (z : MM) (v : Nat → Int32) : m_holding (m_hedge' z v) = m_holding z := by unfold m_holding m_hedge'; exact rfl
theorem q_m_holding_dug (z : MM) (v : Nat → Int32) : m_holding (m_dug' z v) = m_holding z := by unfold m_holding m_dug'; exact rfl
theorem q_m_holding_owner (z : MM) (v : Nat → Int32) : m_holding (m_owner' z v) = m_holding z := by unfold m_holding m_owner'; exact rfl
theorem q_m_holding_turn (z : MM) (v : Int32) : m_holding (m_turn' z v) = m_holding z := by unfold m_holding m_turn'; exact rfl
theorem q_m_holding_made (z : MM) (v : Int32) : m_holding (m_made' z v) = m_holding z := by unfold m_holding m_made'; exact rfl
theorem q_m_holding_players (z : MM) (v : Int32) : m_holding (m_players' z v) = m_holding z := by unfold m_holding m_players'; exact rfl
theorem q_m_holding_kind (z : MM) (v : Nat → Int32) : m_holding (m_kind' z v) = m_holding z := by unfold m_holding m_kind'; exact rfl
theorem q_m_holding_own (z : MM) (v : Nat → Int32) : m_holding (m_own' z v) = m_holding z := by unfold m_holding m_own'; exact rfl
theorem q_m_holding_seed (z : MM) (v : Int32) : m_holding (m_seed' z v) = m_holding z := by unfold m_holding m_seed'; exact rfl
theorem q_m_holding_taped (z : MM) (v : Int32) : m_holding (m_taped' z v) = m_holding z := by unfold m_holding m_taped'; exact rfl
theorem q_m_holding_tape (z : MM) (v : Nat → Int32) : m_holding (m_tape' z v) = m_holding z := by unfold m_holding m_tape'; exact rfl
theorem q_m_holding_from (z : MM) (v : Int32) : m_holding (m_from' z v) = m_holding z := by unfold m_holding m_from'; exact rfl
theorem q_m_holding_to (z : MM) (v : Int32) : m_holding (m_to' z v) = m_holding z := by unfold m_holding m_to'; exact rfl
theorem q_m_holding_token (z : MM) (v : Int32) : m_holding (m_token' z v) = m_holding z := by unfold m_holding m_token'; exact rfl
theorem q_m_holding_value (z : MM) (v : Int32) : m_holding (m_value' z v) = m_holding z := by unfold m_holding m_value'; exact rfl
theorem q_m_holding_holding (z : MM) (v : Nat → Int32) : m_holding (m_holding' z v) = v := by unfold m_holding m_holding'; exact rfl
theorem q_m_holding_rowLength (z : MM) (v : Nat → Int32) : m_holding (m_rowLength' z v) = m_holding z := by unfold m_holding m_rowLength'; exact rfl
theorem q_m_holding_rowOf (z : MM) (v : Nat → Int64) : m_holding (m_rowOf' z v) = m_holding z := by unfold m_holding m_rowOf'; exact rfl
theorem q_m_holding_refusals (z : MM) (v : Nat → Int32) : m_holding (m_refusals' z v) = m_holding z := by unfold m_holding m_refusals'; exact rfl
theorem q_m_holding_imaged (z : MM) (v : Int32) : m_holding (m_imaged' z v) = m_holding z := by unfold m_holding m_imaged'; exact rfl
theorem q_m_holding_old (z : MM) (v : Nat → Int32) : m_holding (m_old' z v) = m_holding z := by unfold m_holding m_old'; exact rfl
theorem q_m_holding_ahead (z : MM) (v : Nat → Int32) : m_holding (m_ahead' z v) = m_holding z := by unfold m_holding m_ahead'; exact rfl
theorem q_m_holding_bestMove (z : MM) (v : Int32) : m_holding (m_bestMove' z v) = m_holding z := by unfold m_holding m_bestMove'; exact rfl
theorem q_m_rowLength_w (z : MM) (v : Int32) : m_rowLength (m_w' z v) = m_rowLength z := by unfold m_rowLength m_w'; exact rfl
theorem q_m_rowLength_h (z : MM) (v : Int32) : m_rowLength (m_h' z v) = m_rowLength z := by unfold m_rowLength m_h'; exact rfl
theorem q_m_rowLength_hedge (z : MM) (v : Nat → Int32) : m_rowLength (m_hedge' z v) = m_rowLength z := by unfold m_rowLength m_hedge'; exact rfl
theorem q_m_rowLength_dug (z : MM) (v : Nat → Int32) : m_rowLength (m_dug' z v) = m_rowLength z := by unfold m_rowLength m_dug'; exact rfl
theorem q_m_rowLength_owner (z : MM) (v : Nat → Int32) : m_rowLength (m_owner' z v) = m_rowLength z := by unfold m_rowLength m_owner'; exact rfl
theorem q_m_rowLength_turn (z : MM) (v : Int32) : m_rowLength (m_turn' z v) = m_rowLength z := by unfold m_rowLength m_turn'; exact rfl
theorem q_m_rowLength_made (z : MM) (v : Int32) : m_rowLength (m_made' z v) = m_rowLength z := by unfold m_rowLength m_made'; exact rfl
theorem q_m_rowLength_players (z : MM) (v : Int32) : m_rowLength (m_players' z v) = m_rowLength z := by unfold m_rowLength m_players'; exact rfl
theorem q_m_rowLength_kind (z : MM) (v : Nat → Int32) : m_rowLength (m_kind' z v) = m_rowLength z := by unfold m_rowLength m_kind'; exact rfl
theorem q_m_rowLength_own (z : MM) (v : Nat → Int32) : m_rowLength (m_own' z v) = m_rowLength z := by unfold m_rowLength m_own'; exact rfl
theorem q_m_rowLength_seed (z : MM) (v : Int32) : m_rowLength (m_seed' z v) = m_rowLength z := by unfold m_rowLength m_seed'; exact rfl
theorem q_m_rowLength_taped (z : MM) (v : Int32) : m_rowLength (m_taped' z v) = m_rowLength z := by unfold m_rowLength m_taped'; exact rfl
theorem q_m_rowLength_tape (z : MM) (v : Nat → Int32) : m_rowLength (m_tape' z v) = m_rowLength z := by unfold m_rowLength m_tape'; exact rfl
theorem q_m_rowLength_from (z : MM) (v : Int32) : m_rowLength (m_from' z v) = m_rowLength z := by unfold m_rowLength m_from'; exact rfl
theorem q_m_rowLength_to (z : MM) (v : Int32) : m_rowLength (m_to' z v) = m_rowLength z := by unfold m_rowLength m_to'; exact rfl
theorem q_m_rowLength_token (z : MM) (v : Int32) : m_rowLength (m_token' z v) = m_rowLength z := by unfold m_rowLength m_token'; exact rfl
theorem q_m_rowLength_value (z : MM) (v : Int32) : m_rowLength (m_value' z v) = m_rowLength z := by unfold m_rowLength m_value'; exact rfl
theorem q_m_rowLength_holding (z : MM) (v : Nat → Int32) : m_rowLength (m_holding' z v) = m_rowLength z := by unfold m_rowLength m_holding'; exact rfl
theorem q_m_rowLength_rowLength (z : MM) (v : Nat → Int32) : m_rowLength (m_rowLength' z v) = v := by unfold m_rowLength m_rowLength'; exact rfl
theorem q_m_rowLength_rowOf (z : MM) (v : Nat → Int64) : m_rowLength (m_rowOf' z v) = m_rowLength z := by unfold m_rowLength m_rowOf'; exact rfl
theorem q_m_rowLength_refusals (z : MM) (v : Nat → Int32) : m_rowLength (m_refusals' z v) = m_rowLength z := by unfold m_rowLength m_refusals'; exact rfl
theorem q_m_rowLength_imaged (z : MM) (v : Int32) : m_rowLength (m_imaged' z v) = m_rowLength z := by unfold m_rowLength m_imaged'; exact rfl
theorem q_m_rowLength_old (z : MM) (v : Nat → Int32) : m_rowLength (m_old' z v) = m_rowLength z := by unfold m_rowLength m_old'; exact rfl
theorem q_m_rowLength_ahead (z : MM) (v : Nat → Int32) : m_rowLength (m_ahead' z v) = m_rowLength z := by unfold m_rowLength m_ahead'; exact rfl
theorem q_m_rowLength_bestMove (z : MM) (v : Int32) : m_rowLength (m_bestMove' z v) = m_rowLength z := by unfold m_rowLength m_bestMove'; exact rfl
theorem q_m_rowOf_w (z : MM) (v : Int32) : m_rowOf (m_w' z v) = m_rowOf z := by unfold m_rowOf m_w'; exact rfl
theorem q_m_rowOf_h (z : MM) (v : Int32) : m_rowOf (m_h' z v) = m_rowOf z := by unfold m_rowOf m_h'; exact rfl
theorem q_m_rowOf_hedge (z : MM) (v : Nat → Int32) : m_rowOf (m_hedge' z v) = m_rowOf z := by unfold m_rowOf m_hedge'; exact rfl
theorem q_m_rowOf_dug (z : MM) (v : Nat → Int32) : m_rowOf (m_dug' z v) = m_rowOf z := by unfold m_rowOf m_dug'; exact rfl
theorem q_m_rowOf_owner (z : MM) (v : Nat → Int32) : m_rowOf (m_owner' z v) = m_rowOf z := by unfold m_rowOf m_owner'; exact rfl
theorem q_m_rowOf_turn (z : MM) (v : Int32) : m_rowOf (m_turn' z v) = m_rowOf z := by unfold m_rowOf m_turn'; exact rfl
theorem q_m_rowOf_made (z : MM) (v : Int32) : m_rowOf (m_made' z v) = m_rowOf z := by unfold m_rowOf m_made'; exact rfl
theorem q_m_rowOf_players (z : MM) (v : Int32) : m_rowOf (m_players' z v) = m_rowOf z := by unfold m_rowOf m_players'; exact rfl
theorem q_m_rowOf_kind (z : MM) (v : Nat → Int32) : m_rowOf (m_kind' z v) = m_rowOf z := by unfold m_rowOf m_kind'; exact rfl
theorem q_m_rowOf_own (z : MM) (v : Nat → Int32) : m_rowOf (m_own' z v) = m_rowOf z := by unfold m_rowOf m_own'; exact rfl
theorem q_m_rowOf_seed (z : MM) (v : Int32) : m_rowOf (m_seed' z v) = m_rowOf z := by unfold m_rowOf m_seed'; exact rfl
theorem q_m_rowOf_taped (z : MM) (v : Int32) : m_rowOf (m_taped' z v) = m_rowOf z := by unfold m_rowOf m_taped'; exact rfl
theorem q_m_rowOf_tape (z : MM) (v : Nat → Int32) : m_rowOf (m_tape' z v) = m_rowOf z := by unfold m_rowOf m_tape'; exact rfl
theorem q_m_rowOf_from (z : MM) (v : Int32) : m_rowOf (m_from' z v) = m_rowOf z := by unfold m_rowOf m_from'; exact rfl
theorem q_m_rowOf_to (z : MM) (v : Int32) : m_rowOf (m_to' z v) = m_rowOf z := by unfold m_rowOf m_to'; exact rfl
theorem q_m_rowOf_token (z : MM) (v : Int32) : m_rowOf (m_token' z v) = m_rowOf z := by unfold m_rowOf m_token'; exact rfl
theorem q_m_rowOf_value (z : MM) (v : Int32) : m_rowOf (m_value' z v) = m_rowOf z := by unfold m_rowOf m_value'; exact rfl
theorem q_m_rowOf_holding (z : MM) (v : Nat → Int32) : m_rowOf (m_holding' z v) = m_rowOf z := by unfold m_rowOf m_holding'; exact rfl
theorem q_m_rowOf_rowLength (z : MM) (v : Nat → Int32) : m_rowOf (m_rowLength' z v) = m_rowOf z := by unfold m_rowOf m_rowLength'; exact rfl
theorem q_m_rowOf_rowOf (z : MM) (v : Nat → Int64) : m_rowOf (m_rowOf' z v) = v := by unfold m_rowOf m_rowOf'; exact rfl
theorem q_m_rowOf_refusals (z : MM) (v : Nat → Int32) : m_rowOf (m_refusals' z v) = m_rowOf z := by unfold m_rowOf m_refusals'; exact rfl
theorem q_m_rowOf_imaged (z : MM) (v : Int32) : m_rowOf (m_imaged' z v) = m_rowOf z := by unfold m_rowOf m_imaged'; exact rfl
theorem q_m_rowOf_old (z : MM) (v : Nat → Int32) : m_rowOf (m_old' z v) = m_rowOf z := by unfold m_rowOf m_old'; exact rfl
theorem q_m_rowOf_ahead (z : MM) (v : Nat → Int32) : m_rowOf (m_ahead' z v) = m_rowOf z := by unfold m_rowOf m_ahead'; exact rfl
theorem q_m_rowOf_bestMove (z : MM) (v : Int32) : m_rowOf (m_bestMove' z v) = m_rowOf z := by unfold m_rowOf m_bestMove'; exact rfl
theorem q_m_refusals_w (z : MM) (v : Int32) : m_refusals (m_w' z v) = m_refusals z := by unfold m_refusals m_w'; exact rfl
theorem q_m_refusals_h (z : MM) (v : Int32) : m_refusals (m_h' z v) = m_refusals z := by unfold m_refusals m_h'; exact rfl
theorem q_m_refusals_hedge (z : MM) (v : Nat → Int32) : m_refusals (m_hedge' z v) = m_refusals z := by unfold m_refusals m_hedge'; exact rfl
theorem q_m_refusals_dug (z : MM) (v : Nat → Int32) : m_refusals (m_dug' z v) = m_refusals z := by unfold m_refusals m_dug'; exact rfl
theorem q_m_refusals_owner (z : MM) (v : Nat → Int32) : m_refusals (m_owner' z v) = m_refusals z := by unfold m_refusals m_owner'; exact rfl
theorem q_m_refusals_turn (z : MM) (v : Int32) : m_refusals (m_turn' z v) = m_refusals z := by unfold m_refusals m_turn'; exact rfl
theorem q_m_refusals_made (z : MM) (v : Int32) : m_refusals (m_made' z v) = m_refusals z := by unfold m_refusals m_made'; exact rfl
theorem q_m_refusals_players (z : MM) (v : Int32) : m_refusals (m_players' z v) = m_refusals z := by unfold m_refusals m_players'; exact rfl
theorem q_m_refusals_kind (z : MM) (v : Nat → Int32) : m_refusals (m_kind' z v) = m_refusals z := by unfold m_refusals m_kind'; exact rfl
theorem q_m_refusals_own (z : MM) (v : Nat → Int32) : m_refusals (m_own' z v) = m_refusals z := by unfold m_refusals m_own'; exact rfl
theorem q_m_refusals_seed (z : MM) (v : Int32) : m_refusals (m_seed' z v) = m_refusals z := by unfold m_refusals m_seed'; exact rfl
theorem q_m_refusals_taped (z : MM) (v : Int32) : m_refusals (m_taped' z v) = m_refusals z := by unfold m_refusals m_taped'; exact rfl
theorem q_m_refusals_tape (z : MM) (v : Nat → Int32) : m_refusals (m_tape' z v) = m_refusals z := by unfold m_refusals m_tape'; exact rfl
theorem q_m_refusals_from (z : MM) (v : Int32) : m_refusals (m_from' z v) = m_refusals z := by unfold m_refusals m_from'; exact rfl
theorem q_m_refusals_to (z : MM) (v : Int32) : m_refusals (m_to' z v) = m_refusals z := by unfold m_refusals m_to'; exact rfl
theorem q_m_refusals_token (z : MM) (v : Int32) : m_refusals (m_token' z v) = m_refusals z := by unfold m_refusals m_token'; exact rfl
theorem q_m_refusals_value (z : MM) (v : Int32) : m_refusals (m_value' z v) = m_refusals z := by unfold m_refusals m_value'; exact rfl
theorem q_m_refusals_holding (z : MM) (v : Nat → Int32) : m_refusals (m_holding' z v) = m_refusals z := by unfold m_refusals m_holding'; exact rfl
theorem q_m_refusals_rowLength (z : MM) (v : Nat → Int32) : m_refusals (m_rowLength' z v) = m_refusals z := by unfold m_refusals m_rowLength'; exact rfl
theorem q_m_refusals_rowOf (z : MM) (v : Nat → Int64) : m_refusals (m_rowOf' z v) = m_refusals z := by unfold m_refusals m_rowOf'; exact rfl
theorem q_m_refusals_refusals (z : MM) (v : Nat → Int32) : m_refusals (m_refusals' z v) = v := by unfold m_refusals m_refusals'; exact rfl
theorem q_m_refusals_imaged (z : MM) (v : Int32) : m_refusals (m_imaged' z v) = m_refusals z := by unfold m_refusals m_imaged'; exact rfl
theorem q_m_refusals_old (z : MM) (v : Nat → Int32) : m_refusals (m_old' z v) = m_refusals z := by unfold m_refusals m_old'; exact rfl
theorem q_m_refusals_ahead (z : MM) (v : Nat → Int32) : m_refusals (m_ahead' z v) = m_refusals z := by unfold m_refusals m_ahead'; exact rfl
theorem q_m_refusals_bestMove (z : MM) (v : Int32) : m_refusals (m_bestMove' z v) = m_refusals z := by unfold m_refusals m_bestMove'; exact rfl
theorem q_m_imaged_w (z : MM) (v : Int32) : m_imaged (m_w' z v) = m_imaged z := by unfold m_imaged m_w'; exact rfl
theorem q_m_imaged_h (z : MM) (v : Int32) : m_imaged (m_h' z v) = m_imaged z := by unfold m_imaged m_h'; exact rfl
theorem q_m_imaged_hedge (z : MM) (v : Nat → Int32) : m_imaged (m_hedge' z v) = m_imaged z := by unfold m_imaged m_hedge'; exact rfl
theorem q_m_imaged_dug (z : MM) (v : Nat → Int32) : m_imaged (m_dug' z v) = m_imaged z := by unfold m_imaged m_dug'; exact rfl
theorem q_m_imaged_owner (z : MM) (v : Nat → Int32) : m_imaged (m_owner' z v) = m_imaged z := by unfold m_imaged m_owner'; exact rfl
theorem q_m_imaged_turn (z : MM) (v : Int32) : m_imaged (m_turn' z v) = m_imaged z := by unfold m_imaged m_turn'; exact rfl
theorem q_m_imaged_made (z : MM) (v : Int32) : m_imaged (m_made' z v) = m_imaged z := by unfold m_imaged m_made'; exact rfl
theorem q_m_imaged_players (z : MM) (v : Int32) : m_imaged (m_players' z v) = m_imaged z := by unfold m_imaged m_players'; exact rfl
theorem q_m_imaged_kind (z : MM) (v : Nat → Int32) : m_imaged (m_kind' z v) = m_imaged z := by unfold m_imaged m_kind'; exact rfl
theorem q_m_imaged_own (z : MM) (v : Nat → Int32) : m_imaged (m_own' z v) = m_imaged z := by unfold m_imaged m_own'; exact rfl
theorem q_m_imaged_seed (z : MM) (v : Int32) : m_imaged (m_seed' z v) = m_imaged z := by unfold m_imaged m_seed'; exact rfl
theorem q_m_imaged_taped (z : MM) (v : Int32) : m_imaged (m_taped' z v) = m_imaged z := by unfold m_imaged m_taped'; exact rfl
theorem q_m_imaged_tape (z : MM) (v : Nat → Int32) : m_imaged (m_tape' z v) = m_imaged z := by unfold m_imaged m_tape'; exact rfl
theorem q_m_imaged_from (z : MM) (v : Int32) : m_imaged (m_from' z v) = m_imaged z := by unfold m_imaged m_from'; exact rfl
theorem q_m_imaged_to (z : MM) (v : Int32) : m_imaged (m_to' z v) = m_imaged z := by unfold m_imaged m_to'; exact rfl
theorem q_m_imaged_token (z : MM) (v : Int32) : m_imaged (m_token' z v) = m_imaged z := by unfold m_imaged m_token'; exact rfl
theorem q_m_imaged_value (z : MM) (v : Int32) : m_imaged (m_value' z v) = m_imaged z := by unfold m_imaged m_value'; exact rfl
theorem q_m_imaged_holding (z : MM) (v : Nat → Int32) : m_imaged (m_holding' z v) = m_imaged z := by unfold m_imaged m_holding'; exact rfl
theorem q_m_imaged_rowLength (z : MM) (v : Nat → Int32) : m_imaged (m_rowLength' z v) = m_imaged z := by unfold m_imaged m_rowLength'; exact rfl
theorem q_m_imaged_rowOf (z : MM) (v : Nat → Int64) : m_imaged (m_rowOf' z v) = m_imaged z := by unfold m_imaged m_rowOf'; exact rfl
theorem q_m_imaged_refusals (z : MM) (v : Nat → Int32) : m_imaged (m_refusals' z v) = m_imaged z := by unfold m_imaged m_refusals'; exact rfl
theorem q_m_imaged_imaged (z : MM) (v : Int32) : m_imaged (m_imaged' z v) = v := by unfold m_imaged m_imaged'; exact rfl
theorem q_m_imaged_old (z : MM) (v : Nat → Int32) : m_imaged (m_old' z v) = m_imaged z := by unfold m_imaged m_old'; exact rfl
theorem q_m_imaged_ahead (z : MM) (v : Nat → Int32) : m_imaged (m_ahead' z v) = m_imaged z := by unfold m_imaged m_ahead'; exact rfl
theorem q_m_imaged_bestMove (z : MM) (v : Int32) : m_imaged (m_bestMove' z v) = m_imaged z := by unfold m_imaged m_bestMove'; exact rfl
theorem q_m_old_w (z : MM) (v : Int32) : m_old (m_w' z v) = m_old z := by unfold m_old m_w'; exact rfl
theorem q_m_old_h (z : MM) (v : Int32) : m_old (m_h' z v) = m_old z := by unfold m_old m_h'; exact rfl
theorem q_m_old_hedge (z : MM) (v : Nat → Int32) : m_old (m_hedge' z v) = m_old z := by unfold m_old m_hedge'; exact rfl
theorem q_m_old_dug (z : MM) (v : Nat → Int32) : m_old (m_dug' z v) = m_old z := by unfold m_old m_dug'; exact rfl
theorem q_m_old_owner (z : MM) (v : Nat → Int32) : m_old (m_owner' z v) = m_old z := by unfold m_old m_owner'; exact rfl
theorem q_m_old_turn (z : MM) (v : Int32) : m_old (m_turn' z v) = m_old z := by unfold m_old m_turn'; exact rfl
theorem q_m_old_made (z : MM) (v : Int32) : m_old (m_made' z v) = m_old z := by unfold m_old m_made'; exact rfl
theorem q_m_old_players (z : MM) (v : Int32) : m_old (m_players' z v) = m_old z := by unfold m_old m_players'; exact rfl
theorem q_m_old_kind (z : MM) (v : Nat → Int32) : m_old (m_kind' z v) = m_old z := by unfold m_old m_kind'; exact rfl
theorem q_m_old_own (z : MM) (v : Nat → Int32) : m_old (m_own' z v) = m_old z := by unfold m_old m_own'; exact rfl
theorem q_m_old_seed (z : MM) (v : Int32) : m_old (m_seed' z v) = m_old z := by unfold m_old m_seed'; exact rfl
theorem q_m_old_taped (z : MM) (v : Int32) : m_old (m_taped' z v) = m_old z := by unfold m_old m_taped'; exact rfl
theorem q_m_old_tape (z : MM) (v : Nat → Int32) : m_old (m_tape' z v) = m_old z := by unfold m_old m_tape'; exact rfl
theorem q_m_old_from (z : MM) (v : Int32) : m_old (m_from' z v) = m_old z := by unfold m_old m_from'; exact rfl
theorem q_m_old_to (z : MM) (v : Int32) : m_old (m_to' z v) = m_old z := by unfold m_old m_to'; exact rfl
theorem q_m_old_token (z : MM) (v : Int32) : m_old (m_token' z v) = m_old z := by unfold m_old m_token'; exact rfl
theorem q_m_old_value (z : MM) (v : Int32) : m_old (m_value' z v) = m_old z := by unfold m_old m_value'; exact rfl
theorem q_m_old_holding (z : MM) (v : Nat → Int32) : m_old (m_holding' z v) = m_old z := by unfold m_old m_holding'; exact rfl
theorem q_m_old_rowLength (z : MM) (v : Nat → Int32) : m_old (m_rowLength' z v) = m_old z := by unfold m_old m_rowLength'; exact rfl
theorem q_m_old_rowOf (z : MM) (v : Nat → Int64) : m_old (m_rowOf' z v) = m_old z := by unfold m_old m_rowOf'; exact rfl
theorem q_m_old_refusals (z : MM) (v : Nat → Int32) : m_old (m_refusals' z v) = m_old z := by unfold m_old m_refusals'; exact rfl
theorem q_m_old_imaged (z : MM) (v : Int32) : m_old (m_imaged' z v) = m_old z := by unfold m_old m_imaged'; exact rfl
theorem q_m_old_old (z : MM) (v : Nat → Int32) : m_old (m_old' z v) = v := by unfold m_old m_old'; exact rfl
theorem q_m_old_ahead (z : MM) (v : Nat → Int32) : m_old (m_ahead' z v) = m_old z := by unfold m_old m_ahead'; exact rfl
theorem q_m_old_bestMove (z : MM) (v : Int32) : m_old (m_bestMove' z v) = m_old z := by unfold m_old m_bestMove'; exact rfl
theorem q_m_ahead_w (z : MM) (v : Int32) : m_ahead (m_w' z v) = m_ahead z := by unfold m_ahead m_w'; exact rfl
theorem q_m_ahead_h (z : MM) (v : Int32) : m_ahead (m_h' z v) = m_ahead z := by unfold m_ahead m_h'; exact rfl
theorem q_m_ahead_hedge (z : MM) (v : Nat → Int32) : m_ahead (m_hedge' z v) = m_ahead z := by unfold m_ahead m_hedge'; exact rfl
theorem q_m_ahead_dug (z : MM) (v : Nat → Int32) : m_ahead (m_dug' z v) = m_ahead z := by unfold m_ahead m_dug'; exact rfl
theorem q_m_ahead_owner (z : MM) (v : Nat → Int32) : m_ahead (m_owner' z v) = m_ahead z := by unfold m_ahead m_owner'; exact rfl
theorem q_m_ahead_turn (z : MM) (v : Int32) : m_ahead (m_turn' z v) = m_ahead z := by unfold m_ahead m_turn'; exact rfl
theorem q_m_ahead_made (z : MM) (v : Int32) : m_ahead (m_made' z v) = m_ahead z := by unfold m_ahead m_made'; exact rfl
theorem q_m_ahead_players (z : MM) (v : Int32) : m_ahead (m_players' z v) = m_ahead z := by unfold m_ahead m_players'; exact rfl
theorem q_m_ahead_kind (z : MM) (v : Nat → Int32) : m_ahead (m_kind' z v) = m_ahead z := by unfold m_ahead m_kind'; exact rfl
theorem q_m_ahead_own (z : MM) (v : Nat → Int32) : m_ahead (m_own' z v) = m_ahead z := by unfold m_ahead m_own'; exact rfl
theorem q_m_ahead_seed (z : MM) (v : Int32) : m_ahead (m_seed' z v) = m_ahead z := by unfold m_ahead m_seed'; exact rfl
theorem q_m_ahead_taped (z : MM) (v : Int32) : m_ahead (m_taped' z v) = m_ahead z := by unfold m_ahead m_taped'; exact rfl
theorem q_m_ahead_tape (z : MM) (v : Nat → Int32) : m_ahead (m_tape' z v) = m_ahead z := by unfold m_ahead m_tape'; exact rfl
theorem q_m_ahead_from (z : MM) (v : Int32) : m_ahead (m_from' z v) = m_ahead z := by unfold m_ahead m_from'; exact rfl
theorem q_m_ahead_to (z : MM) (v : Int32) : m_ahead (m_to' z v) = m_ahead z := by unfold m_ahead m_to'; exact rfl
theorem q_m_ahead_token (z : MM) (v : Int32) : m_ahead (m_token' z v) = m_ahead z := by unfold m_ahead m_token'; exact rfl
theorem q_m_ahead_value (z : MM) (v : Int32) : m_ahead (m_value' z v) = m_ahead z := by unfold m_ahead m_value'; exact rfl
theorem q_m_ahead_holding (z : MM) (v : Nat → Int32) : m_ahead (m_holding' z v) = m_ahead z := by unfold m_ahead m_holding'; exact rfl
theorem q_m_ahead_rowLength (z : MM) (v : Nat → Int32) : m_ahead (m_rowLength' z v) = m_ahead z := by unfold m_ahead m_rowLength'; exact rfl
theorem q_m_ahead_rowOf (z : MM) (v : Nat → Int64) : m_ahead (m_rowOf' z v) = m_ahead z := by unfold m_ahead m_rowOf'; exact rfl
theorem q_m_ahead_refusals (z : MM) (v : Nat → Int32) : m_ahead (m_refusals' z v) = m_ahead z := by unfold m_ahead m_refusals'; exact rfl
theorem q_m_ahead_imaged (z : MM) (v : Int32) : m_ahead (m_imaged' z v) = m_ahead z := by unfold m_ahead m_imaged'; exact rfl
theorem q_m_ahead_old (z : MM) (v : Nat → Int32) : m_ahead (m_old' z v) = m_ahead z := by unfold m_ahead m_old'; exact rfl
theorem q_m_ahead_ahead (z : MM) (v : Nat → Int32) : m_ahead (m_ahead' z v) = v := by unfold m_ahead m_ahead'; exact rfl
theorem q_m_ahead_bestMove (z : MM) (v : Int32) : m_ahead (m_bestMove' z v) = m_ahead z := by unfold m_ahead m_bestMove'; exact rfl
theorem q_m_bestMove_w (z : MM) (v : Int32) : m_bestMove (m_w' z v) = m_bestMove z := by unfold m_bestMove m_w'; exact rfl
theorem q_m_bestMove_h (z : MM) (v : Int32) : m_bestMove (m_h' z v) = m_bestMove z := by unfold m_bestMove m_h'; exact rfl
theorem q_m_bestMove_hedge (z : MM) (v : Nat → Int32) : m_bestMove (m_hedge' z v) = m_bestMove z := by unfold m_bestMove m_hedge'; exact rfl
theorem q_m_bestMove_dug (z : MM) (v : Nat → Int32) : m_bestMove (m_dug' z v) = m_bestMove z := by unfold m_bestMove m_dug'; exact rfl
theorem q_m_bestMove_owner (z : MM) (v : Nat → Int32) : m_bestMove (m_owner' z v) = m_bestMove z := by unfold m_bestMove m_owner'; exact rfl
theorem q_m_bestMove_turn (z : MM) (v : Int32) : m_bestMove (m_turn' z v) = m_bestMove z := by unfold m_bestMove m_turn'; exact rfl
theorem q_m_bestMove_made (z : MM) (v : Int32) : m_bestMove (m_made' z v) = m_bestMove z := by unfold m_bestMove m_made'; exact rfl
theorem q_m_bestMove_players (z : MM) (v : Int32) : m_bestMove (m_players' z v) = m_bestMove z := by unfold m_bestMove m_players'; exact rfl
theorem q_m_bestMove_kind (z : MM) (v : Nat → Int32) : m_bestMove (m_kind' z v) = m_bestMove z := by unfold m_bestMove m_kind'; exact rfl
theorem q_m_bestMove_own (z : MM) (v : Nat → Int32) : m_bestMove (m_own' z v) = m_bestMove z := by unfold m_bestMove m_own'; exact rfl
theorem q_m_bestMove_seed (z : MM) (v : Int32) : m_bestMove (m_seed' z v) = m_bestMove z := by unfold m_bestMove m_seed'; exact rfl
theorem q_m_bestMove_taped (z : MM) (v : Int32) : m_bestMove (m_taped' z v) = m_bestMove z := by unfold m_bestMove m_taped'; exact rfl
theorem q_m_bestMove_tape (z : MM) (v : Nat → Int32) : m_bestMove (m_tape' z v) = m_bestMove z := by unfold m_bestMove m_tape'; exact rfl
theorem q_m_bestMove_from (z : MM) (v : Int32) : m_bestMove (m_from' z v) = m_bestMove z := by unfold m_bestMove m_from'; exact rfl
theorem q_m_bestMove_to (z : MM) (v : Int32) : m_bestMove (m_to' z v) = m_bestMove z := by unfold m_bestMove m_to'; exact rfl
theorem q_m_bestMove_token (z : MM) (v : Int32) : m_bestMove (m_token' z v) = m_bestMove z := by unfold m_bestMove m_token'; exact rfl
theorem q_m_bestMove_value (z : MM) (v : Int32) : m_bestMove (m_value' z v) = m_bestMove z := by unfold m_bestMove m_value'; exact rfl
theorem q_m_bestMove_holding (z : MM) (v : Nat → Int32) : m_bestMove (m_holding' z v) = m_bestMove z := by unfold m_bestMove m_holding'; exact rfl
theorem q_m_bestMove_rowLength (z : MM) (v : Nat → Int32) : m_bestMove (m_rowLength' z v) = m_bestMove z := by unfold m_bestMove m_rowLength'; exact rfl
theorem q_m_bestMove_rowOf (z : MM) (v : Nat → Int64) : m_bestMove (m_rowOf' z v) = m_bestMove z := by unfold m_bestMove m_rowOf'; exact rfl
theorem q_m_bestMove_refusals (z : MM) (v : Nat → Int32) : m_bestMove (m_refusals' z v) = m_bestMove z := by unfold m_bestMove m_refusals'; exact rfl
theorem q_m_bestMove_imaged (z : MM) (v : Int32) : m_bestMove (m_imaged' z v) = m_bestMove z := by unfold m_bestMove m_imaged'; exact rfl
theorem q_m_bestMove_old (z : MM) (v : Nat → Int32) : m_bestMove (m_old' z v) = m_bestMove z := by unfold m_bestMove m_old'; exact rfl
theorem q_m_bestMove_ahead (z : MM) (v : Nat → Int32) : m_bestMove (m_ahead' z v) = m_bestMove z := by unfold m_bestMove m_ahead'; exact rfl
theorem q_m_bestMove_bestMove (z : MM) (v : Int32) : m_bestMove (m_bestMove' z v) = v := by unfold m_bestMove m_bestMove'; exact rfl
theorem q_x_now_now (z : XX) (v : GG) : x_now (x_now' z v) = v := by unfold x_now x_now'; exact rfl
theorem q_x_now_thought (z : XX) (v : GG) : x_now (x_thought' z v) = x_now z := by unfold x_now x_thought'; exact rfl
theorem q_x_now_kept (z : XX) (v : GG) : x_now (x_kept' z v) = x_now z := by unfold x_now x_kept'; exact rfl
theorem q_x_now_keptCrew (z : XX) (v : Int32) : x_now (x_keptCrew' z v) = x_now z := by unfold x_now x_keptCrew'; exact rfl
theorem q_x_now_kinds (z : XX) (v : Nat → Int32) : x_now (x_kinds' z v) = x_now z := by unfold x_now x_kinds'; exact rfl
theorem q_x_now_amounts (z : XX) (v : Nat → Int32) : x_now (x_amounts' z v) = x_now z := by unfold x_now x_amounts'; exact rfl
theorem q_x_now_crew (z : XX) (v : Int32) : x_now (x_crew' z v) = x_now z := by unfold x_now x_crew'; exact rfl
theorem q_x_now_crewRead (z : XX) (v : Int32) : x_now (x_crewRead' z v) = x_now z := by unfold x_now x_crewRead'; exact rfl
theorem q_x_now_shelves (z : XX) (v : Nat → SS) : x_now (x_shelves' z v) = x_now z := by unfold x_now x_shelves'; exact rfl
theorem q_x_now_tape (z : XX) (v : TT) : x_now (x_tape' z v) = x_now z := by unfold x_now x_tape'; exact rfl
theorem q_x_now_refusals (z : XX) (v : Nat → Int32) : x_now (x_refusals' z v) = x_now z := by unfold x_now x_refusals'; exact rfl
theorem q_x_thought_now (z : XX) (v : GG) : x_thought (x_now' z v) = x_thought z := by unfold x_thought x_now'; exact rfl
theorem q_x_thought_thought (z : XX) (v : GG) : x_thought (x_thought' z v) = v := by unfold x_thought x_thought'; exact rfl
theorem q_x_thought_kept (z : XX) (v : GG) : x_thought (x_kept' z v) = x_thought z := by unfold x_thought x_kept'; exact rfl
theorem q_x_thought_keptCrew (z : XX) (v : Int32) : x_thought (x_keptCrew' z v) = x_thought z := by unfold x_thought x_keptCrew'; exact rfl
theorem q_x_thought_kinds (z : XX) (v : Nat → Int32) : x_thought (x_kinds' z v) = x_thought z := by unfold x_thought x_kinds'; exact rfl
theorem q_x_thought_amounts (z : XX) (v : Nat → Int32) : x_thought (x_amounts' z v) = x_thought z := by unfold x_thought x_amounts'; exact rfl
theorem q_x_thought_crew (z : XX) (v : Int32) : x_thought (x_crew' z v) = x_thought z := by unfold x_thought x_crew'; exact rfl
theorem q_x_thought_crewRead (z : XX) (v : Int32) : x_thought (x_crewRead' z v) = x_thought z := by unfold x_thought x_crewRead'; exact rfl
theorem q_x_thought_shelves (z : XX) (v : Nat → SS) : x_thought (x_shelves' z v) = x_thought z := by unfold x_thought x_shelves'; exact rfl
theorem q_x_thought_tape (z : XX) (v : TT) : x_thought (x_tape' z v) = x_thought z := by unfold x_thought x_tape'; exact rfl
theorem q_x_thought_refusals (z : XX) (v : Nat → Int32) : x_thought (x_refusals' z v) = x_thought z := by unfold x_thought x_refusals'; exact rfl
theorem q_x_kept_now (z : XX) (v : GG) : x_kept (x_now' z v) = x_kept z := by unfold x_kept x_now'; exact rfl
theorem q_x_kept_thought (z : XX) (v : GG) : x_kept (x_thought' z v) = x_kept z := by unfold x_kept x_thought'; exact rfl
theorem q_x_kept_kept (z : XX) (v : GG) : x_kept (x_kept' z v) = v := by unfold x_kept x_kept'; exact rfl
theorem q_x_kept_keptCrew (z : XX) (v : Int32) : x_kept (x_keptCrew' z v) = x_kept z := by unfold x_kept x_keptCrew'; exact rfl
theorem q_x_kept_kinds (z : XX) (v : Nat → Int32) : x_kept (x_kinds' z v) = x_kept z := by unfold x_kept x_kinds'; exact rfl
theorem q_x_kept_amounts (z : XX) (v : Nat → Int32) : x_kept (x_amounts' z v) = x_kept z := by unfold x_kept x_amounts'; exact rfl
theorem q_x_kept_crew (z : XX) (v : Int32) : x_kept (x_crew' z v) = x_kept z := by unfold x_kept x_crew'; exact rfl
theorem q_x_kept_crewRead (z : XX) (v : Int32) : x_kept (x_crewRead' z v) = x_kept z := by unfold x_kept x_crewRead'; exact rfl
theorem q_x_kept_shelves (z : XX) (v : Nat → SS) : x_kept (x_shelves' z v) = x_kept z := by unfold x_kept x_shelves'; exact rfl
theorem q_x_kept_tape (z : XX) (v : TT) : x_kept (x_tape' z v) = x_kept z := by unfold x_kept x_tape'; exact rfl
theorem q_x_kept_refusals (z : XX) (v : Nat → Int32) : x_kept (x_refusals' z v) = x_kept z := by unfold x_kept x_refusals'; exact rfl
theorem q_x_keptCrew_now (z : XX) (v : GG) : x_keptCrew (x_now' z v) = x_keptCrew z := by unfold x_keptCrew x_now'; exact rfl
theorem q_x_keptCrew_thought (z : XX) (v : GG) : x_keptCrew (x_thought' z v) = x_keptCrew z := by unfold x_keptCrew x_thought'; exact rfl
theorem q_x_keptCrew_kept (z : XX) (v : GG) : x_keptCrew (x_kept' z v) = x_keptCrew z := by unfold x_keptCrew x_kept'; exact rfl
theorem q_x_keptCrew_keptCrew (z : XX) (v : Int32) : x_keptCrew (x_keptCrew' z v) = v := by unfold x_keptCrew x_keptCrew'; exact rfl
theorem q_x_keptCrew_kinds (z : XX) (v : Nat → Int32) : x_keptCrew (x_kinds' z v) = x_keptCrew z := by unfold x_keptCrew x_kinds'; exact rfl
theorem q_x_keptCrew_amounts (z : XX) (v : Nat → Int32) : x_keptCrew (x_amounts' z v) = x_keptCrew z := by unfold x_keptCrew x_amounts'; exact rfl
theorem q_x_keptCrew_crew (z : XX) (v : Int32) : x_keptCrew (x_crew' z v) = x_keptCrew z := by unfold x_keptCrew x_crew'; exact rfl
theorem q_x_keptCrew_crewRead (z : XX) (v : Int32) : x_keptCrew (x_crewRead' z v) = x_keptCrew z := by unfold x_keptCrew x_crewRead'; exact rfl
theorem q_x_keptCrew_shelves (z : XX) (v : Nat → SS) : x_keptCrew (x_shelves' z v) = x_keptCrew z := by unfold x_keptCrew x_shelves'; exact rfl
theorem q_x_keptCrew_tape (z : XX) (v : TT) : x_keptCrew (x_tape' z v) = x_keptCrew z := by unfold x_keptCrew x_tape'; exact rfl
theorem q_x_keptCrew_refusals (z : XX) (v : Nat → Int32) : x_keptCrew (x_refusals' z v) = x_keptCrew z := by unfold x_keptCrew x_refusals'; exact rfl
theorem q_x_kinds_now (z : XX) (v : GG) : x_kinds (x_now' z v) = x_kinds z := by unfold x_kinds x_now'; exact rfl
theorem q_x_kinds_thought (z : XX) (v : GG) : x_kinds (x_thought' z v) = x_kinds z := by unfold x_kinds x_thought'; exact rfl
theorem q_x_kinds_kept (z : XX) (v : GG) : x_kinds (x_kept' z v) = x_kinds z := by unfold x_kinds x_kept'; exact rfl
theorem q_x_kinds_keptCrew (z : XX) (v : Int32) : x_kinds (x_keptCrew' z v) = x_kinds z := by unfold x_kinds x_keptCrew'; exact rfl
theorem q_x_kinds_kinds (z : XX) (v : Nat → Int32) : x_kinds (x_kinds' z v) = v := by unfold x_kinds x_kinds'; exact rfl
theorem q_x_kinds_amounts (z : XX) (v : Nat → Int32) : x_kinds (x_amounts' z v) = x_kinds z := by unfold x_kinds x_amounts'; exact rfl
theorem q_x_kinds_crew (z : XX) (v : Int32) : x_kinds (x_crew' z v) = x_kinds z := by unfold x_kinds x_crew'; exact rfl
theorem q_x_kinds_crewRead (z : XX) (v : Int32) : x_kinds (x_crewRead' z v) = x_kinds z := by unfold x_kinds x_crewRead'; exact rfl
theorem q_x_kinds_shelves (z : XX) (v : Nat → SS) : x_kinds (x_shelves' z v) = x_kinds z := by unfold x_kinds x_shelves'; exact rfl
theorem q_x_kinds_tape (z : XX) (v : TT) : x_kinds (x_tape' z v) = x_kinds z := by unfold x_kinds x_tape'; exact rfl
theorem q_x_kinds_refusals (z : XX) (v : Nat → Int32) : x_kinds (x_refusals' z v) = x_kinds z := by unfold x_kinds x_refusals'; exact rfl
theorem q_x_amounts_now (z : XX) (v : GG) : x_amounts (x_now' z v) = x_amounts z := by unfold x_amounts x_now'; exact rfl
theorem q_x_amounts_thought (z : XX) (v : GG) : x_amounts (x_thought' z v) = x_amounts z := by unfold x_amounts x_thought'; exact rfl
theorem q_x_amounts_kept (z : XX) (v : GG) : x_amounts (x_kept' z v) = x_amounts z := by unfold x_amounts x_kept'; exact rfl
theorem q_x_amounts_keptCrew (z : XX) (v : Int32) : x_amounts (x_keptCrew' z v) = x_amounts z := by unfold x_amounts x_keptCrew'; exact rfl
theorem q_x_amounts_kinds (z : XX) (v : Nat → Int32) : x_amounts (x_kinds' z v) = x_amounts z := by unfold x_amounts x_kinds'; exact rfl
theorem q_x_amounts_amounts (z : XX) (v : Nat → Int32) : x_amounts (x_amounts' z v) = v := by unfold x_amounts x_amounts'; exact rfl
theorem q_x_amounts_crew (z : XX) (v : Int32) : x_amounts (x_crew' z v) = x_amounts z := by unfold x_amounts x_crew'; exact rfl
theorem q_x_amounts_crewRead (z : XX) (v : Int32) : x_amounts (x_crewRead' z v) = x_amounts z := by unfold x_amounts x_crewRead'; exact rfl
theorem q_x_amounts_shelves (z : XX) (v : Nat → SS) : x_amounts (x_shelves' z v) = x_amounts z := by unfold x_amounts x_shelves'; exact rfl
theorem q_x_amounts_tape (z : XX) (v : TT) : x_amounts (x_tape' z v) = x_amounts z := by unfold x_amounts x_tape'; exact rfl
theorem q_x_amounts_refusals (z : XX) (v : Nat → Int32) : x_amounts (x_refusals' z v) = x_amounts z := by unfold x_amounts x_refusals'; exact rfl
theorem q_x_crew_now (z : XX) (v : GG) : x_crew (x_now' z v) = x_crew z := by unfold x_crew x_now'; exact rfl
theorem q_x_crew_thought (z : XX) (v : GG) : x_crew (x_thought' z v) = x_crew z := by unfold x_crew x_thought'; exact rfl
theorem q_x_crew_kept (z : XX) (v : GG) : x_crew (x_kept' z v) = x_crew z := by unfold x_crew x_kept'; exact rfl
theorem q_x_crew_keptCrew (z : XX) (v : Int32) : x_crew (x_keptCrew' z v) = x_crew z := by unfold x_crew x_keptCrew'; exact rfl
theorem q_x_crew_kinds (z : XX) (v : Nat → Int32) : x_crew (x_kinds' z v) = x_crew z := by unfold x_crew x_kinds'; exact rfl
theorem q_x_crew_amounts (z : XX) (v : Nat → Int32) : x_crew (x_amounts' z v) = x_crew z := by unfold x_crew x_amounts'; exact rfl
theorem q_x_crew_crew (z : XX) (v : Int32) : x_crew (x_crew' z v) = v := by unfold x_crew x_crew'; exact rfl
theorem q_x_crew_crewRead (z : XX) (v : Int32) : x_crew (x_crewRead' z v) = x_crew z := by unfold x_crew x_crewRead'; exact rfl
theorem q_x_crew_shelves (z : XX) (v : Nat → SS) : x_crew (x_shelves' z v) = x_crew z := by unfold x_crew x_shelves'; exact rfl
theorem q_x_crew_tape (z : XX) (v : TT) : x_crew (x_tape' z v) = x_crew z := by unfold x_crew x_tape'; exact rfl
theorem q_x_crew_refusals (z : XX) (v : Nat → Int32) : x_crew (x_refusals' z v) = x_crew z := by unfold x_crew x_refusals'; exact rfl
theorem q_x_crewRead_now (z : XX) (v : GG) : x_crewRead (x_now' z v) = x_crewRead z := by unfold x_crewRead x_now'; exact rfl
theorem q_x_crewRead_thought (z : XX) (v : GG) : x_crewRead (x_thought' z v) = x_crewRead z := by unfold x_crewRead x_thought'; exact rfl
theorem q_x_crewRead_kept (z : XX) (v : GG) : x_crewRead (x_kept' z v) = x_crewRead z := by unfold x_crewRead x_kept'; exact rfl
theorem q_x_crewRead_keptCrew (z : XX) (v : Int32) : x_crewRead (x_keptCrew' z v) = x_crewRead z := by unfold x_crewRead x_keptCrew'; exact rfl
theorem q_x_crewRead_kinds (z : XX) (v : Nat → Int32) : x_crewRead (x_kinds' z v) = x_crewRead z := by unfold x_crewRead x_kinds'; exact rfl
theorem q_x_crewRead_amounts (z : XX) (v : Nat → Int32) : x_crewRead (x_amounts' z v) = x_crewRead z := by unfold x_crewRead x_amounts'; exact rfl
theorem q_x_crewRead_crew (z : XX) (v : Int32) : x_crewRead (x_crew' z v) = x_crewRead z := by unfold x_crewRead x_crew'; exact rfl
theorem q_x_crewRead_crewRead (z : XX) (v : Int32) : x_crewRead (x_crewRead' z v) = v := by unfold x_crewRead x_crewRead'; exact rfl
theorem q_x_crewRead_shelves (z : XX) (v : Nat → SS) : x_crewRead (x_shelves' z v) = x_crewRead z := by unfold x_crewRead x_shelves'; exact rfl
theorem q_x_crewRead_tape (z : XX) (v : TT) : x_crewRead (x_tape' z v) = x_crewRead z := by unfold x_crewRead x_tape'; exact rfl
theorem q_x_crewRead_refusals (z : XX) (v : Nat → Int32) : x_crewRead (x_refusals' z v) = x_crewRead z := by unfold x_crewRead x_refusals'; exact rfl
theorem q_x_shelves_now (z : XX) (v : GG) : x_shelves (x_now' z v) = x_shelves z := by unfold x_shelves x_now'; exact rfl
theorem q_x_shelves_thought (z : XX) (v : GG) : x_shelves (x_thought' z v) = x_shelves z := by unfold x_shelves x_thought'; exact rfl
theorem q_x_shelves_kept (z : XX) (v : GG) : x_shelves (x_kept' z v) = x_shelves z := by unfold x_shelves x_kept'; exact rfl
theorem q_x_shelves_keptCrew (z : XX) (v : Int32) : x_shelves (x_keptCrew' z v) = x_shelves z := by unfold x_shelves x_keptCrew'; exact rfl
theorem q_x_shelves_kinds (z : XX) (v : Nat → Int32) : x_shelves (x_kinds' z v) = x_shelves z := by unfold x_shelves x_kinds'; exact rfl
theorem q_x_shelves_amounts (z : XX) (v : Nat → Int32) : x_shelves (x_amounts' z v) = x_shelves z := by unfold x_shelves x_amounts'; exact rfl
theorem q_x_shelves_crew (z : XX) (v : Int32) : x_shelves (x_crew' z v) = x_shelves z := by unfold x_shelves x_crew'; exact rfl
theorem q_x_shelves_crewRead (z : XX) (v : Int32) : x_shelves (x_crewRead' z v) = x_shelves z := by unfold x_shelves x_crewRead'; exact rfl
theorem q_x_shelves_shelves (z : XX) (v : Nat → SS) : x_shelves (x_shelves' z v) = v := by unfold x_shelves x_shelves'; exact rfl
theorem q_x_shelves_tape (z : XX) (v : TT) : x_shelves (x_tape' z v) = x_shelves z := by unfold x_shelves x_tape'; exact rfl
theorem q_x_shelves_refusals (z : XX) (v : Nat → Int32) : x_shelves (x_refusals' z v) = x_shelves z := by unfold x_shelves x_refusals'; exact rfl
theorem q_x_tape_now (z : XX) (v : GG) : x_tape (x_now' z v) = x_tape z := by unfold x_tape x_now'; exact rfl
theorem q_x_tape_thought (z : XX) (v : GG) : x_tape (x_thought' z v) = x_tape z := by unfold x_tape x_thought'; exact rfl
theorem q_x_tape_kept (z : XX) (v : GG) : x_tape (x_kept' z v) = x_tape z := by unfold x_tape x_kept'; exact rfl
theorem q_x_tape_keptCrew (z : XX) (v : Int32) : x_tape (x_keptCrew' z v) = x_tape z := by unfold x_tape x_keptCrew'; exact rfl
theorem q_x_tape_kinds (z : XX) (v : Nat → Int32) : x_tape (x_kinds' z v) = x_tape z := by unfold x_tape x_kinds'; exact rfl
theorem q_x_tape_amounts (z : XX) (v : Nat → Int32) : x_tape (x_amounts' z v) = x_tape z := by unfold x_tape x_amounts'; exact rfl
theorem q_x_tape_crew (z : XX) (v : Int32) : x_tape (x_crew' z v) = x_tape z := by unfold x_tape x_crew'; exact rfl
theorem q_x_tape_crewRead (z : XX) (v : Int32) : x_tape (x_crewRead' z v) = x_tape z := by unfold x_tape x_crewRead'; exact rfl
theorem q_x_tape_shelves (z : XX) (v : Nat → SS) : x_tape (x_shelves' z v) = x_tape z := by unfold x_tape x_shelves'; exact rfl
theorem q_x_tape_tape (z : XX) (v : TT) : x_tape (x_tape' z v) = v := by unfold x_tape x_tape'; exact rfl
theorem q_x_tape_refusals (z : XX) (v : Nat → Int32) : x_tape (x_refusals' z v) = x_tape z := by unfold x_tape x_refusals'; exact rfl
theorem q_x_refusals_now (z : XX) (v : GG) : x_refusals (x_now' z v) = x_refusals z := by unfold x_refusals x_now'; exact rfl
theorem q_x_refusals_thought (z : XX) (v : GG) : x_refusals (x_thought' z v) = x_refusals z := by unfold x_refusals x_thought'; exact rfl
theorem q_x_refusals_kept (z : XX) (v : GG) : x_refusals (x_kept' z v) = x_refusals z := by unfold x_refusals x_kept'; exact rfl
theorem q_x_refusals_keptCrew (z : XX) (v : Int32) : x_refusals (x_keptCrew' z v) = x_refusals z := by unfold x_refusals x_keptCrew'; exact rfl
theorem q_x_refusals_kinds (z : XX) (v : Nat → Int32) : x_refusals (x_kinds' z v) = x_refusals z := by unfold x_refusals x_kinds'; exact rfl
theorem q_x_refusals_amounts (z : XX) (v : Nat → Int32) : x_refusals (x_amounts' z v) = x_refusals z := by unfold x_refusals x_amounts'; exact rfl
theorem q_x_refusals_crew (z : XX) (v : Int32) : x_refusals (x_crew' z v) = x_refusals z := by unfold x_refusals x_crew'; exact rfl
theorem q_x_refusals_crewRead (z : XX) (v : Int32) : x_refusals (x_crewRead' z v) = x_refusals z := by unfold x_refusals x_crewRead'; exact rfl
theorem q_x_refusals_shelves (z : XX) (v : Nat → SS) : x_refusals (x_shelves' z v) = x_refusals z := by unfold x_refusals x_shelves'; exact rfl
theorem q_x_refusals_tape (z : XX) (v : TT) : x_refusals (x_tape' z v) = x_refusals z := by unfold x_refusals x_tape'; exact rfl
theorem q_x_refusals_refusals (z : XX) (v : Nat → Int32) : x_refusals (x_refusals' z v) = v := by unfold x_refusals x_refusals'; exact rfl
theorem q_g_width_width (z : GG) (v : Int32) : g_width (g_width' z v) = v := by unfold g_width g_width'; exact rfl
theorem q_g_width_height (z : GG) (v : Int32) : g_width (g_height' z v) = g_width z := by unfold g_width g_height'; exact rfl
theorem q_g_width_fields (z : GG) (v : Int32) : g_width (g_fields' z v) = g_width z := by unfold g_width g_fields'; exact rfl
theorem q_g_width_edges (z : GG) (v : Int32) : g_width (g_edges' z v) = g_width z := by unfold g_width g_edges'; exact rfl
theorem q_g_width_uprights (z : GG) (v : Int32) : g_width (g_uprights' z v) = g_width z := by unfold g_width g_uprights'; exact rfl
theorem q_g_width_all (z : GG) (v : Int32) : g_width (g_all' z v) = g_width z := by unfold g_width g_all'; exact rfl
theorem q_g_width_leftmost (z : GG) (v : Int32) : g_width (g_leftmost' z v) = g_width z := by unfold g_width g_leftmost'; exact rfl
theorem q_g_width_rightmost (z : GG) (v : Int32) : g_width (g_rightmost' z v) = g_width z := by unfold g_width g_rightmost'; exact rfl
theorem q_g_width_rimEdges (z : GG) (v : Int64) : g_width (g_rimEdges' z v) = g_width z := by unfold g_width g_rimEdges'; exact rfl
theorem q_g_width_hedges (z : GG) (v : Int64) : g_width (g_hedges' z v) = g_width z := by unfold g_width g_hedges'; exact rfl
theorem q_g_width_dug (z : GG) (v : Int32) : g_width (g_dug' z v) = g_width z := by unfold g_width g_dug'; exact rfl
theorem q_g_width_ownedBy0 (z : GG) (v : Int32) : g_width (g_ownedBy0' z v) = g_width z := by unfold g_width g_ownedBy0'; exact rfl
theorem q_g_width_ownedBy1 (z : GG) (v : Int32) : g_width (g_ownedBy1' z v) = g_width z := by unfold g_width g_ownedBy1'; exact rfl
theorem q_g_width_turn (z : GG) (v : Int32) : g_width (g_turn' z v) = g_width z := by unfold g_width g_turn'; exact rfl
theorem q_g_width_made (z : GG) (v : Int32) : g_width (g_made' z v) = g_width z := by unfold g_width g_made'; exact rfl
theorem q_g_width_seed (z : GG) (v : Int32) : g_width (g_seed' z v) = g_width z := by unfold g_width g_seed'; exact rfl
theorem q_g_height_width (z : GG) (v : Int32) : g_height (g_width' z v) = g_height z := by unfold g_height g_width'; exact rfl
theorem q_g_height_height (z : GG) (v : Int32) : g_height (g_height' z v) = v := by unfold g_height g_height'; exact rfl
theorem q_g_height_fields (z : GG) (v : Int32) : g_height (g_fields' z v) = g_height z := by unfold g_height g_fields'; exact rfl
theorem q_g_height_edges (z : GG) (v : Int32) : g_height (g_edges' z v) = g_height z := by unfold g_height g_edges'; exact rfl
theorem q_g_height_uprights (z : GG) (v : Int32) : g_height (g_uprights' z v) = g_height z := by unfold g_height g_uprights'; exact rfl
theorem q_g_height_all (z : GG) (v : Int32) : g_height (g_all' z v) = g_height z := by unfold g_height g_all'; exact rfl
theorem q_g_height_leftmost (z : GG) (v : Int32) : g_height (g_leftmost' z v) = g_height z := by unfold g_height g_leftmost'; exact rfl
theorem q_g_height_rightmost (z : GG) (v : Int32) : g_height (g_rightmost' z v) = g_height z := by unfold g_height g_rightmost'; exact rfl
theorem q_g_height_rimEdges (z : GG) (v : Int64) : g_height (g_rimEdges' z v) = g_height z := by unfold g_height g_rimEdges'; exact rfl
theorem q_g_height_hedges (z : GG) (v : Int64) : g_height (g_hedges' z v) = g_height z := by unfold g_height g_hedges'; exact rfl
theorem q_g_height_dug (z : GG) (v : Int32) : g_height (g_dug' z v) = g_height z := by unfold g_height g_dug'; exact rfl
theorem q_g_height_ownedBy0 (z : GG) (v : Int32) : g_height (g_ownedBy0' z v) = g_height z := by unfold g_height g_ownedBy0'; exact rfl
theorem q_g_height_ownedBy1 (z : GG) (v : Int32) : g_height (g_ownedBy1' z v) = g_height z := by unfold g_height g_ownedBy1'; exact rfl
theorem q_g_height_turn (z : GG) (v : Int32) : g_height (g_turn' z v) = g_height z := by unfold g_height g_turn'; exact rfl
theorem q_g_height_made (z : GG) (v : Int32) : g_height (g_made' z v) = g_height z := by unfold g_height g_made'; exact rfl
theorem q_g_height_seed (z : GG) (v : Int32) : g_height (g_seed' z v) = g_height z := by unfold g_height g_seed'; exact rfl
theorem q_g_fields_width (z : GG) (v : Int32) : g_fields (g_width' z v) = g_fields z := by unfold g_fields g_width'; exact rfl
theorem q_g_fields_height (z : GG) (v : Int32) : g_fields (g_height' z v) = g_fields z := by unfold g_fields g_height'; exact rfl
theorem q_g_fields_fields (z : GG) (v : Int32) : g_fields (g_fields' z v) = v := by unfold g_fields g_fields'; exact rfl
theorem q_g_fields_edges (z : GG) (v : Int32) : g_fields (g_edges' z v) = g_fields z := by unfold g_fields g_edges'; exact rfl
theorem q_g_fields_uprights (z : GG) (v : Int32) : g_fields (g_uprights' z v) = g_fields z := by unfold g_fields g_uprights'; exact rfl
theorem q_g_fields_all (z : GG) (v : Int32) : g_fields (g_all' z v) = g_fields z := by unfold g_fields g_all'; exact rfl
theorem q_g_fields_leftmost (z : GG) (v : Int32) : g_fields (g_leftmost' z v) = g_fields z := by unfold g_fields g_leftmost'; exact rfl
theorem q_g_fields_rightmost (z : GG) (v : Int32) : g_fields (g_rightmost' z v) = g_fields z := by unfold g_fields g_rightmost'; exact rfl
theorem q_g_fields_rimEdges (z : GG) (v : Int64) : g_fields (g_rimEdges' z v) = g_fields z := by unfold g_fields g_rimEdges'; exact rfl
theorem q_g_fields_hedges (z : GG) (v : Int64) : g_fields (g_hedges' z v) = g_fields z := by unfold g_fields g_hedges'; exact rfl
theorem q_g_fields_dug (z : GG) (v : Int32) : g_fields (g_dug' z v) = g_fields z := by unfold g_fields g_dug'; exact rfl
theorem q_g_fields_ownedBy0 (z : GG) (v : Int32) : g_fields (g_ownedBy0' z v) = g_fields z := by unfold g_fields g_ownedBy0'; exact rfl
theorem q_g_fields_ownedBy1 (z : GG) (v : Int32) : g_fields (g_ownedBy1' z v) = g_fields z := by unfold g_fields g_ownedBy1'; exact rfl
theorem q_g_fields_turn (z : GG) (v : Int32) : g_fields (g_turn' z v) = g_fields z := by unfold g_fields g_turn'; exact rfl
theorem q_g_fields_made (z : GG) (v : Int32) : g_fields (g_made' z v) = g_fields z := by unfold g_fields g_made'; exact rfl
theorem q_g_fields_seed (z : GG) (v : Int32) : g_fields (g_seed' z v) = g_fields z := by unfold g_fields g_seed'; exact rfl
theorem q_g_edges_width (z : GG) (v : Int32) : g_edges (g_width' z v) = g_edges z := by unfold g_edges g_width'; exact rfl
theorem q_g_edges_height (z : GG) (v : Int32) : g_edges (g_height' z v) = g_edges z := by unfold g_edges g_height'; exact rfl
theorem q_g_edges_fields (z : GG) (v : Int32) : g_edges (g_fields' z v) = g_edges z := by unfold g_edges g_fields'; exact rfl
theorem q_g_edges_edges (z : GG) (v : Int32) : g_edges (g_edges' z v) = v := by unfold g_edges g_edges'; exact rfl
theorem q_g_edges_uprights (z : GG) (v : Int32) : g_edges (g_uprights' z v) = g_edges z := by unfold g_edges g_uprights'; exact rfl
theorem q_g_edges_all (z : GG) (v : Int32) : g_edges (g_all' z v) = g_edges z := by unfold g_edges g_all'; exact rfl
theorem q_g_edges_leftmost (z : GG) (v : Int32) : g_edges (g_leftmost' z v) = g_edges z := by unfold g_edges g_leftmost'; exact rfl
theorem q_g_edges_rightmost (z : GG) (v : Int32) : g_edges (g_rightmost' z v) = g_edges z := by unfold g_edges g_rightmost'; exact rfl
theorem q_g_edges_rimEdges (z : GG) (v : Int64) : g_edges (g_rimEdges' z v) = g_edges z := by unfold g_edges g_rimEdges'; exact rfl
theorem q_g_edges_hedges (z : GG) (v : Int64) : g_edges (g_hedges' z v) = g_edges z := by unfold g_edges g_hedges'; exact rfl
theorem q_g_edges_dug (z : GG) (v : Int32) : g_edges (g_dug' z v) = g_edges z := by unfold g_edges g_dug'; exact rfl
theorem q_g_edges_ownedBy0 (z : GG) (v : Int32) : g_edges (g_ownedBy0' z v) = g_edges z := by unfold g_edges g_ownedBy0'; exact rfl
theorem q_g_edges_ownedBy1 (z : GG) (v : Int32) : g_edges (g_ownedBy1' z v) = g_edges z := by unfold g_edges g_ownedBy1'; exact rfl
theorem q_g_edges_turn (z : GG) (v : Int32) : g_edges (g_turn' z v) = g_edges z := by unfold g_edges g_turn'; exact rfl
theorem q_g_edges_made (z : GG) (v : Int32) : g_edges (g_made' z v) = g_edges z := by unfold g_edges g_made'; exact rfl
theorem q_g_edges_seed (z : GG) (v : Int32) : g_edges (g_seed' z v) = g_edges z := by unfold g_edges g_seed'; exact rfl
theorem q_g_uprights_width (z : GG) (v : Int32) : g_uprights (g_width' z v) = g_uprights z := by unfold g_uprights g_width'; exact rfl
theorem q_g_uprights_height (z : GG) (v : Int32) : g_uprights (g_height' z v) = g_uprights z := by unfold g_uprights g_height'; exact rfl
theorem q_g_uprights_fields (z : GG) (v : Int32) : g_uprights (g_fields' z v) = g_uprights z := by unfold g_uprights g_fields'; exact rfl
theorem q_g_uprights_edges (z : GG) (v : Int32) : g_uprights (g_edges' z v) = g_uprights z := by unfold g_uprights g_edges'; exact rfl
theorem q_g_uprights_uprights (z : GG) (v : Int32) : g_uprights (g_uprights' z v) = v := by unfold g_uprights g_uprights'; exact rfl
theorem q_g_uprights_all (z : GG) (v : Int32) : g_uprights (g_all' z v) = g_uprights z := by unfold g_uprights g_all'; exact rfl
theorem q_g_uprights_leftmost (z : GG) (v : Int32) : g_uprights (g_leftmost' z v) = g_uprights z := by unfold g_uprights g_leftmost'; exact rfl
theorem q_g_uprights_rightmost (z : GG) (v : Int32) : g_uprights (g_rightmost' z v) = g_uprights z := by unfold g_uprights g_rightmost'; exact rfl
theorem q_g_uprights_rimEdges (z : GG) (v : Int64) : g_uprights (g_rimEdges' z v) = g_uprights z := by unfold g_uprights g_rimEdges'; exact rfl
theorem q_g_uprights_hedges (z : GG) (v : Int64) : g_uprights (g_hedges' z v) = g_uprights z := by unfold g_uprights g_hedges'; exact rfl
theorem q_g_uprights_dug (z : GG) (v : Int32) : g_uprights (g_dug' z v) = g_uprights z := by unfold g_uprights g_dug'; exact rfl
theorem q_g_uprights_ownedBy0 (z : GG) (v : Int32) : g_uprights (g_ownedBy0' z v) = g_uprights z := by unfold g_uprights g_ownedBy0'; exact rfl
theorem q_g_uprights_ownedBy1 (z : GG) (v : Int32) : g_uprights (g_ownedBy1' z v) = g_uprights z := by unfold g_uprights g_ownedBy1'; exact rfl
theorem q_g_uprights_turn (z : GG) (v : Int32) : g_uprights (g_turn' z v) = g_uprights z := by unfold g_uprights g_turn'; exact rfl
theorem q_g_uprights_made (z : GG) (v : Int32) : g_uprights (g_made' z v) = g_uprights z := by unfold g_uprights g_made'; exact rfl
theorem q_g_uprights_seed (z : GG) (v : Int32) : g_uprights (g_seed' z v) = g_uprights z := by unfold g_uprights g_seed'; exact rfl
theorem q_g_all_width (z : GG) (v : Int32) : g_all (g_width' z v) = g_all z := by unfold g_all g_width'; exact rfl
theorem q_g_all_height (z : GG) (v : Int32) : g_all (g_height' z v) = g_all z := by unfold g_all g_height'; exact rfl
theorem q_g_all_fields (z : GG) (v : Int32) : g_all (g_fields' z v) = g_all z := by unfold g_all g_fields'; exact rfl
theorem q_g_all_edges (z : GG) (v : Int32) : g_all (g_edges' z v) = g_all z := by unfold g_all g_edges'; exact rfl
theorem q_g_all_uprights (z : GG) (v : Int32) : g_all (g_uprights' z v) = g_all z := by unfold g_all g_uprights'; exact rfl
theorem q_g_all_all (z : GG) (v : Int32) : g_all (g_all' z v) = v := by unfold g_all g_all'; exact rfl
theorem q_g_all_leftmost (z : GG) (v : Int32) : g_all (g_leftmost' z v) = g_all z := by unfold g_all g_leftmost'; exact rfl
theorem q_g_all_rightmost (z : GG) (v : Int32) : g_all (g_rightmost' z v) = g_all z := by unfold g_all g_rightmost'; exact rfl
theorem q_g_all_rimEdges (z : GG) (v : Int64) : g_all (g_rimEdges' z v) = g_all z := by unfold g_all g_rimEdges'; exact rfl
theorem q_g_all_hedges (z : GG) (v : Int64) : g_all (g_hedges' z v) = g_all z := by unfold g_all g_hedges'; exact rfl
theorem q_g_all_dug (z : GG) (v : Int32) : g_all (g_dug' z v) = g_all z := by unfold g_all g_dug'; exact rfl
theorem q_g_all_ownedBy0 (z : GG) (v : Int32) : g_all (g_ownedBy0' z v) = g_all z := by unfold g_all g_ownedBy0'; exact rfl
theorem q_g_all_ownedBy1 (z : GG) (v : Int32) : g_all (g_ownedBy1' z v) = g_all z := by unfold g_all g_ownedBy1'; exact rfl
theorem q_g_all_turn (z : GG) (v : Int32) : g_all (g_turn' z v) = g_all z := by unfold g_all g_turn'; exact rfl
theorem q_g_all_made (z : GG) (v : Int32) : g_all (g_made' z v) = g_all z := by unfold g_all g_made'; exact rfl
theorem q_g_all_seed (z : GG) (v : Int32) : g_all (g_seed' z v) = g_all z := by unfold g_all g_seed'; exact rfl
theorem q_g_leftmost_width (z : GG) (v : Int32) : g_leftmost (g_width' z v) = g_leftmost z := by unfold g_leftmost g_width'; exact rfl
theorem q_g_leftmost_height (z : GG) (v : Int32) : g_leftmost (g_height' z v) = g_leftmost z := by unfold g_leftmost g_height'; exact rfl
theorem q_g_leftmost_fields (z : GG) (v : Int32) : g_leftmost (g_fields' z v) = g_leftmost z := by unfold g_leftmost g_fields'; exact rfl
theorem q_g_leftmost_edges (z : GG) (v : Int32) : g_leftmost (g_edges' z v) = g_leftmost z := by unfold g_leftmost g_edges'; exact rfl
theorem q_g_leftmost_uprights (z : GG) (v : Int32) : g_leftmost (g_uprights' z v) = g_leftmost z := by unfold g_leftmost g_uprights'; exact rfl
theorem q_g_leftmost_all (z : GG) (v : Int32) : g_leftmost (g_all' z v) = g_leftmost z := by unfold g_leftmost g_all'; exact rfl
theorem q_g_leftmost_leftmost (z : GG) (v : Int32) : g_leftmost (g_leftmost' z v) = v := by unfold g_leftmost g_leftmost'; exact rfl
theorem q_g_leftmost_rightmost (z : GG) (v : Int32) : g_leftmost (g_rightmost' z v) = g_leftmost z := by unfold g_leftmost g_rightmost'; exact rfl
theorem q_g_leftmost_rimEdges (z : GG) (v : Int64) : g_leftmost (g_rimEdges' z v) = g_leftmost z := by unfold g_leftmost g_rimEdges'; exact rfl
theorem q_g_leftmost_hedges (z : GG) (v : Int64) : g_leftmost (g_hedges' z v) = g_leftmost z := by unfold g_leftmost g_hedges'; exact rfl
theorem q_g_leftmost_dug (z : GG) (v : Int32) : g_leftmost (g_dug' z v) = g_leftmost z := by unfold g_leftmost g_dug'; exact rfl
theorem q_g_leftmost_ownedBy0 (z : GG) (v : Int32) : g_leftmost (g_ownedBy0' z v) = g_leftmost z := by unfold g_leftmost g_ownedBy0'; exact rfl
theorem q_g_leftmost_ownedBy1 (z : GG) (v : Int32) : g_leftmost (g_ownedBy1' z v) = g_leftmost z := by unfold g_leftmost g_ownedBy1'; exact rfl
theorem q_g_leftmost_turn (z : GG) (v : Int32) : g_leftmost (g_turn' z v) = g_leftmost z := by unfold g_leftmost g_turn'; exact rfl
theorem q_g_leftmost_made (z : GG) (v : Int32) : g_leftmost (g_made' z v) = g_leftmost z := by unfold g_leftmost g_made'; exact rfl
theorem q_g_leftmost_seed (z : GG) (v : Int32) : g_leftmost (g_seed' z v) = g_leftmost z := by unfold g_leftmost g_seed'; exact rfl
theorem q_g_rightmost_width (z : GG) (v : Int32) : g_rightmost (g_width' z v) = g_rightmost z := by unfold g_rightmost g_width'; exact rfl
theorem q_g_rightmost_height (z : GG) (v : Int32) : g_rightmost (g_height' z v) = g_rightmost z := by unfold g_rightmost g_height'; exact rfl
theorem q_g_rightmost_fields (z : GG) (v : Int32) : g_rightmost (g_fields' z v) = g_rightmost z := by unfold g_rightmost g_fields'; exact rfl
theorem q_g_rightmost_edges (z : GG) (v : Int32) : g_rightmost (g_edges' z v) = g_rightmost z := by unfold g_rightmost g_edges'; exact rfl
theorem q_g_rightmost_uprights (z : GG) (v : Int32) : g_rightmost (g_uprights' z v) = g_rightmost z := by unfold g_rightmost g_uprights'; exact rfl
theorem q_g_rightmost_all (z : GG) (v : Int32) : g_rightmost (g_all' z v) = g_rightmost z := by unfold g_rightmost g_all'; exact rfl
theorem q_g_rightmost_leftmost (z : GG) (v : Int32) : g_rightmost (g_leftmost' z v) = g_rightmost z := by unfold g_rightmost g_leftmost'; exact rfl
theorem q_g_rightmost_rightmost (z : GG) (v : Int32) : g_rightmost (g_rightmost' z v) = v := by unfold g_rightmost g_rightmost'; exact rfl
theorem q_g_rightmost_rimEdges (z : GG) (v : Int64) : g_rightmost (g_rimEdges' z v) = g_rightmost z := by unfold g_rightmost g_rimEdges'; exact rfl
theorem q_g_rightmost_hedges (z : GG) (v : Int64) : g_rightmost (g_hedges' z v) = g_rightmost z := by unfold g_rightmost g_hedges'; exact rfl
theorem q_g_rightmost_dug (z : GG) (v : Int32) : g_rightmost (g_dug' z v) = g_rightmost z := by unfold g_rightmost g_dug'; exact rfl
theorem q_g_rightmost_ownedBy0 (z : GG) (v : Int32) : g_rightmost (g_ownedBy0' z v) = g_rightmost z := by unfold g_rightmost g_ownedBy0'; exact rfl
theorem q_g_rightmost_ownedBy1 (z : GG) (v : Int32) : g_rightmost (g_ownedBy1' z v) = g_rightmost z := by unfold g_rightmost g_ownedBy1'; exact rfl
theorem q_g_rightmost_turn (z : GG) (v : Int32) : g_rightmost (g_turn' z v) = g_rightmost z := by unfold g_rightmost g_turn'; exact rfl
theorem q_g_rightmost_made (z : GG) (v : Int32) : g_rightmost (g_made' z v) = g_rightmost z := by unfold g_rightmost g_made'; exact rfl
theorem q_g_rightmost_seed (z : GG) (v : Int32) : g_rightmost (g_seed' z v) = g_rightmost z := by unfold g_rightmost g_seed'; exact rfl
theorem q_g_rimEdges_width (z : GG) (v : Int32) : g_rimEdges (g_width' z v) = g_rimEdges z := by unfold g_rimEdges g_width'; exact rfl
theorem q_g_rimEdges_height (z : GG) (v : Int32) : g_rimEdges (g_height' z v) = g_rimEdges z := by unfold g_rimEdges g_height'; exact rfl
theorem q_g_rimEdges_fields (z : GG) (v : Int32) : g_rimEdges (g_fields' z v) = g_rimEdges z := by unfold g_rimEdges g_fields'; exact rfl
theorem q_g_rimEdges_edges (z : GG) (v : Int32) : g_rimEdges (g_edges' z v) = g_rimEdges z := by unfold g_rimEdges g_edges'; exact rfl
theorem q_g_rimEdges_uprights (z : GG) (v : Int32) : g_rimEdges (g_uprights' z v) = g_rimEdges z := by unfold g_rimEdges g_uprights'; exact rfl
theorem q_g_rimEdges_all (z : GG) (v : Int32) : g_rimEdges (g_all' z v) = g_rimEdges z := by unfold g_rimEdges g_all'; exact rfl
theorem q_g_rimEdges_leftmost (z : GG) (v : Int32) : g_rimEdges (g_leftmost' z v) = g_rimEdges z := by unfold g_rimEdges g_leftmost'; exact rfl
theorem q_g_rimEdges_rightmost (z : GG) (v : Int32) : g_rimEdges (g_rightmost' z v) = g_rimEdges z := by unfold g_rimEdges g_rightmost'; exact rfl
theorem q_g_rimEdges_rimEdges (z : GG) (v : Int64) : g_rimEdges (g_rimEdges' z v) = v := by unfold g_rimEdges g_rimEdges'; exact rfl
theorem q_g_rimEdges_hedges (z : GG) (v : Int64) : g_rimEdges (g_hedges' z v) = g_rimEdges z := by unfold g_rimEdges g_hedges'; exact rfl
theorem q_g_rimEdges_dug (z : GG) (v : Int32) : g_rimEdges (g_dug' z v) = g_rimEdges z := by unfold g_rimEdges g_dug'; exact rfl
theorem q_g_rimEdges_ownedBy0 (z : GG) (v : Int32) : g_rimEdges (g_ownedBy0' z v) = g_rimEdges z := by unfold g_rimEdges g_ownedBy0'; exact rfl
theorem q_g_rimEdges_ownedBy1 (z : GG) (v : Int32) : g_rimEdges (g_ownedBy1' z v) = g_rimEdges z := by unfold g_rimEdges g_ownedBy1'; exact rfl
theorem q_g_rimEdges_turn (z : GG) (v : Int32) : g_rimEdges (g_turn' z v) = g_rimEdges z := by unfold g_rimEdges g_turn'; exact rfl
theorem q_g_rimEdges_made (z : GG) (v : Int32) : g_rimEdges (g_made' z v) = g_rimEdges z := by unfold g_rimEdges g_made'; exact rfl
theorem q_g_rimEdges_seed (z : GG) (v : Int32) : g_rimEdges (g_seed' z v) = g_rimEdges z := by unfold g_rimEdges g_seed'; exact rfl
theorem q_g_hedges_width (z : GG) (v : Int32) : g_hedges (g_width' z v) = g_hedges z := by unfold g_hedges g_width'; exact rfl
theorem q_g_hedges_height (z : GG) (v : Int32) : g_hedges (g_height' z v) = g_hedges z := by unfold g_hedges g_height'; exact rfl
theorem q_g_hedges_fields (z : GG) (v : Int32) : g_hedges (g_fields' z v) = g_hedges z := by unfold g_hedges g_fields'; exact rfl
theorem q_g_hedges_edges (z : GG) (v : Int32) : g_hedges (g_edges' z v) = g_hedges z := by unfold g_hedges g_edges'; exact rfl
theorem q_g_hedges_uprights (z : GG) (v : Int32) : g_hedges (g_uprights' z v) = g_hedges z := by unfold g_hedges g_uprights'; exact rfl
theorem q_g_hedges_all (z : GG) (v : Int32) : g_hedges (g_all' z v) = g_hedges z := by unfold g_hedges g_all'; exact rfl
theorem q_g_hedges_leftmost (z : GG) (v : Int32) : g_hedges (g_leftmost' z v) = g_hedges z := by unfold g_hedges g_leftmost'; exact rfl
theorem q_g_hedges_rightmost (z : GG) (v : Int32) : g_hedges (g_rightmost' z v) = g_hedges z := by unfold g_hedges g_rightmost'; exact rfl
theorem q_g_hedges_rimEdges (z : GG) (v : Int64) : g_hedges (g_rimEdges' z v) = g_hedges z := by unfold g_hedges g_rimEdges'; exact rfl
theorem q_g_hedges_hedges (z : GG) (v : Int64) : g_hedges (g_hedges' z v) = v := by unfold g_hedges g_hedges'; exact rfl
theorem q_g_hedges_dug (z : GG) (v : Int32) : g_hedges (g_dug' z v) = g_hedges z := by unfold g_hedges g_dug'; exact rfl
theorem q_g_hedges_ownedBy0 (z : GG) (v : Int32) : g_hedges (g_ownedBy0' z v) = g_hedges z := by unfold g_hedges g_ownedBy0'; exact rfl
theorem q_g_hedges_ownedBy1 (z : GG) (v : Int32) : g_hedges (g_ownedBy1' z v) = g_hedges z := by unfold g_hedges g_ownedBy1'; exact rfl
theorem q_g_hedges_turn (z : GG) (v : Int32) : g_hedges (g_turn' z v) = g_hedges z := by unfold g_hedges g_turn'; exact rfl
theorem q_g_hedges_made (z : GG) (v : Int32) : g_hedges (g_made' z v) = g_hedges z := by unfold g_hedges g_made'; exact rfl
theorem q_g_hedges_seed (z : GG) (v : Int32) : g_hedges (g_seed' z v) = g_hedges z := by unfold g_hedges g_seed'; exact rfl
theorem q_g_dug_width (z : GG) (v : Int32) : g_dug (g_width' z v) = g_dug z := by unfold g_dug g_width'; exact rfl
theorem q_g_dug_height (z : GG) (v : Int32) : g_dug (g_height' z v) = g_dug z := by unfold g_dug g_height'; exact rfl
theorem q_g_dug_fields (z : GG) (v : Int32) : g_dug (g_fields' z v) = g_dug z := by unfold g_dug g_fields'; exact rfl
theorem q_g_dug_edges (z : GG) (v : Int32) : g_dug (g_edges' z v) = g_dug z := by unfold g_dug g_edges'; exact rfl
theorem q_g_dug_uprights (z : GG) (v : Int32) : g_dug (g_uprights' z v) = g_dug z := by unfold g_dug g_uprights'; exact rfl
theorem q_g_dug_all (z : GG) (v : Int32) : g_dug (g_all' z v) = g_dug z := by unfold g_dug g_all'; exact rfl
theorem q_g_dug_leftmost (z : GG) (v : Int32) : g_dug (g_leftmost' z v) = g_dug z := by unfold g_dug g_leftmost'; exact rfl
theorem q_g_dug_rightmost (z : GG) (v : Int32) : g_dug (g_rightmost' z v) = g_dug z := by unfold g_dug g_rightmost'; exact rfl
theorem q_g_dug_rimEdges (z : GG) (v : Int64) : g_dug (g_rimEdges' z v) = g_dug z := by unfold g_dug g_rimEdges'; exact rfl
theorem q_g_dug_hedges (z : GG) (v : Int64) : g_dug (g_hedges' z v) = g_dug z := by unfold g_dug g_hedges'; exact rfl
theorem q_g_dug_dug (z : GG) (v : Int32) : g_dug (g_dug' z v) = v := by unfold g_dug g_dug'; exact rfl
theorem q_g_dug_ownedBy0 (z : GG) (v : Int32) : g_dug (g_ownedBy0' z v) = g_dug z := by unfold g_dug g_ownedBy0'; exact rfl
theorem q_g_dug_ownedBy1 (z : GG) (v : Int32) : g_dug (g_ownedBy1' z v) = g_dug z := by unfold g_dug g_ownedBy1'; exact rfl
theorem q_g_dug_turn (z : GG) (v : Int32) : g_dug (g_turn' z v) = g_dug z := by unfold g_dug g_turn'; exact rfl
theorem q_g_dug_made (z : GG) (v : Int32) : g_dug (g_made' z v) = g_dug z := by unfold g_dug g_made'; exact rfl
theorem q_g_dug_seed (z : GG) (v : Int32) : g_dug (g_seed' z v) = g_dug z := by unfold g_dug g_seed'; exact rfl
theorem q_g_ownedBy0_width (z : GG) (v : Int32) : g_ownedBy0 (g_width' z v) = g_ownedBy0 z := by unfold g_ownedBy0 g_width'; exact rfl
theorem q_g_ownedBy0_height (z : GG) (v : Int32) : g_ownedBy0 (g_height' z v) = g_ownedBy0 z := by unfold g_ownedBy0 g_height'; exact rfl
theorem q_g_ownedBy0_fields (z : GG) (v : Int32) : g_ownedBy0 (g_fields' z v) = g_ownedBy0 z := by unfold g_ownedBy0 g_fields'; exact rfl
theorem q_g_ownedBy0_edges (z : GG) (v : Int32) : g_ownedBy0 (g_edges' z v) = g_ownedBy0 z := by unfold g_ownedBy0 g_edges'; exact rfl
theorem q_g_ownedBy0_uprights (z : GG) (v : Int32) : g_ownedBy0 (g_uprights' z v) = g_ownedBy0 z := by unfold g_ownedBy0 g_uprights'; exact rfl
theorem q_g_ownedBy0_all (z : GG) (v : Int32) : g_ownedBy0 (g_all' z v) = g_ownedBy0 z := by unfold g_ownedBy0 g_all'; exact rfl
theorem q_g_ownedBy0_leftmost (z : GG) (v : Int32) : g_ownedBy0 (g_leftmost' z v) = g_ownedBy0 z := by unfold g_ownedBy0 g_leftmost'; exact rfl
theorem q_g_ownedBy0_rightmost (z : GG) (v : Int32) : g_ownedBy0 (g_rightmost' z v) = g_ownedBy0 z := by unfold g_ownedBy0 g_rightmost'; exact rfl
theorem q_g_ownedBy0_rimEdges (z : GG) (v : Int64) : g_ownedBy0 (g_rimEdges' z v) = g_ownedBy0 z := by unfold g_ownedBy0 g_rimEdges'; exact rfl
theorem q_g_ownedBy0_hedges (z : GG) (v : Int64) : g_ownedBy0 (g_hedges' z v) = g_ownedBy0 z := by unfold g_ownedBy0 g_hedges'; exact rfl
theorem q_g_ownedBy0_dug (z : GG) (v : Int32) : g_ownedBy0 (g_dug' z v) = g_ownedBy0 z := by unfold g_ownedBy0 g_dug'; exact rfl
theorem q_g_ownedBy0_ownedBy0 (z : GG) (v : Int32) : g_ownedBy0 (g_ownedBy0' z v) = v := by unfold g_ownedBy0 g_ownedBy0'; exact rfl
theorem q_g_ownedBy0_ownedBy1 (z : GG) (v : Int32) : g_ownedBy0 (g_ownedBy1' z v) = g_ownedBy0 z := by unfold g_ownedBy0 g_ownedBy1'; exact rfl
theorem q_g_ownedBy0_turn (z : GG) (v : Int32) : g_ownedBy0 (g_turn' z v) = g_ownedBy0 z := by unfold g_ownedBy0 g_turn'; exact rfl
theorem q_g_ownedBy0_made (z : GG) (v : Int32) : g_ownedBy0 (g_made' z v) = g_ownedBy0 z := by unfold g_ownedBy0 g_made'; exact rfl
theorem q_g_ownedBy0_seed (z : GG) (v : Int32) : g_ownedBy0 (g_seed' z v) = g_ownedBy0 z := by unfold g_ownedBy0 g_seed'; exact rfl
theorem q_g_ownedBy1_width (z : GG) (v : Int32) : g_ownedBy1 (g_width' z v) = g_ownedBy1 z := by unfold g_ownedBy1 g_width'; exact rfl
theorem q_g_ownedBy1_height (z : GG) (v : Int32) : g_ownedBy1 (g_height' z v) = g_ownedBy1 z := by unfold g_ownedBy1 g_height'; exact rfl
theorem q_g_ownedBy1_fields (z : GG) (v : Int32) : g_ownedBy1 (g_fields' z v) = g_ownedBy1 z := by unfold g_ownedBy1 g_fields'; exact rfl
theorem q_g_ownedBy1_edges (z : GG) (v : Int32) : g_ownedBy1 (g_edges' z v) = g_ownedBy1 z := by unfold g_ownedBy1 g_edges'; exact rfl
theorem q_g_ownedBy1_uprights (z : GG) (v : Int32) : g_ownedBy1 (g_uprights' z v) = g_ownedBy1 z := by unfold g_ownedBy1 g_uprights'; exact rfl
theorem q_g_ownedBy1_all (z : GG) (v : Int32) : g_ownedBy1 (g_all' z v) = g_ownedBy1 z := by unfold g_ownedBy1 g_all'; exact rfl
theorem q_g_ownedBy1_leftmost (z : GG) (v : Int32) : g_ownedBy1 (g_leftmost' z v) = g_ownedBy1 z := by unfold g_ownedBy1 g_leftmost'; exact rfl
theorem q_g_ownedBy1_rightmost (z : GG) (v : Int32) : g_ownedBy1 (g_rightmost' z v) = g_ownedBy1 z := by unfold g_ownedBy1 g_rightmost'; exact rfl
theorem q_g_ownedBy1_rimEdges (z : GG) (v : Int64) : g_ownedBy1 (g_rimEdges' z v) = g_ownedBy1 z := by unfold g_ownedBy1 g_rimEdges'; exact rfl
theorem q_g_ownedBy1_hedges (z : GG) (v : Int64) : g_ownedBy1 (g_hedges' z v) = g_ownedBy1 z := by unfold g_ownedBy1 g_hedges'; exact rfl
theorem q_g_ownedBy1_dug (z : GG) (v : Int32) : g_ownedBy1 (g_dug' z v) = g_ownedBy1 z := by unfold g_ownedBy1 g_dug'; exact rfl
theorem q_g_ownedBy1_ownedBy0 (z : GG) (v : Int32) : g_ownedBy1 (g_ownedBy0' z v) = g_ownedBy1 z := by unfold g_ownedBy1 g_ownedBy0'; exact rfl
theorem q_g_ownedBy1_ownedBy1 (z : GG) (v : Int32) : g_ownedBy1 (g_ownedBy1' z v) = v := by unfold g_ownedBy1 g_ownedBy1'; exact rfl
theorem q_g_ownedBy1_turn (z : GG) (v : Int32) : g_ownedBy1 (g_turn' z v) = g_ownedBy1 z := by unfold g_ownedBy1 g_turn'; exact rfl
theorem q_g_ownedBy1_made (z : GG) (v : Int32) : g_ownedBy1 (g_made' z v) = g_ownedBy1 z := by unfold g_ownedBy1 g_made'; exact rfl
theorem q_g_ownedBy1_seed (z : GG) (v : Int32) : g_ownedBy1 (g_seed' z v) = g_ownedBy1 z := by unfold g_ownedBy1 g_seed'; exact rfl
theorem q_g_turn_width (z : GG) (v : Int32) : g_turn (g_width' z v) = g_turn z := by unfold g_turn g_width'; exact rfl
theorem q_g_turn_height (z : GG) (v : Int32) : g_turn (g_height' z v) = g_turn z := by unfold g_turn g_height'; exact rfl
theorem q_g_turn_fields (z : GG) (v : Int32) : g_turn (g_fields' z v) = g_turn z := by unfold g_turn g_fields'; exact rfl
theorem q_g_turn_edges (z : GG) (v : Int32) : g_turn (g_edges' z v) = g_turn z := by unfold g_turn g_edges'; exact rfl
theorem q_g_turn_uprights (z : GG) (v : Int32) : g_turn (g_uprights' z v) = g_turn z := by unfold g_turn g_uprights'; exact rfl
theorem q_g_turn_all (z : GG) (v : Int32) : g_turn (g_all' z v) = g_turn z := by unfold g_turn g_all'; exact rfl
theorem q_g_turn_leftmost (z : GG) (v : Int32) : g_turn (g_leftmost' z v) = g_turn z := by unfold g_turn g_leftmost'; exact rfl
theorem q_g_turn_rightmost (z : GG) (v : Int32) : g_turn (g_rightmost' z v) = g_turn z := by unfold g_turn g_rightmost'; exact rfl
theorem q_g_turn_rimEdges (z : GG) (v : Int64) : g_turn (g_rimEdges' z v) = g_turn z := by unfold g_turn g_rimEdges'; exact rfl
theorem q_g_turn_hedges (z : GG) (v : Int64) : g_turn (g_hedges' z v) = g_turn z := by unfold g_turn g_hedges'; exact rfl
theorem q_g_turn_dug (z : GG) (v : Int32) : g_turn (g_dug' z v) = g_turn z := by unfold g_turn g_dug'; exact rfl
theorem q_g_turn_ownedBy0 (z : GG) (v : Int32) : g_turn (g_ownedBy0' z v) = g_turn z := by unfold g_turn g_ownedBy0'; exact rfl
theorem q_g_turn_ownedBy1 (z : GG) (v : Int32) : g_turn (g_ownedBy1' z v) = g_turn z := by unfold g_turn g_ownedBy1'; exact rfl
theorem q_g_turn_turn (z : GG) (v : Int32) : g_turn (g_turn' z v) = v := by unfold g_turn g_turn'; exact rfl
theorem q_g_turn_made (z : GG) (v : Int32) : g_turn (g_made' z v) = g_turn z := by unfold g_turn g_made'; exact rfl
theorem q_g_turn_seed (z : GG) (v : Int32) : g_turn (g_seed' z v) = g_turn z := by unfold g_turn g_seed'; exact rfl
theorem q_g_made_width (z : GG) (v : Int32) : g_made (g_width' z v) = g_made z := by unfold g_made g_width'; exact rfl
theorem q_g_made_height (z : GG) (v : Int32) : g_made (g_height' z v) = g_made z := by unfold g_made g_height'; exact rfl
theorem q_g_made_fields (z : GG) (v : Int32) : g_made (g_fields' z v) = g_made z := by unfold g_made g_fields'; exact rfl
theorem q_g_made_edges (z : GG) (v : Int32) : g_made (g_edges' z v) = g_made z := by unfold g_made g_edges'; exact rfl
theorem q_g_made_uprights (z : GG) (v : Int32) : g_made (g_uprights' z v) = g_made z := by unfold g_made g_uprights'; exact rfl
theorem q_g_made_all (z : GG) (v : Int32) : g_made (g_all' z v) = g_made z := by unfold g_made g_all'; exact rfl
theorem q_g_made_leftmost (z : GG) (v : Int32) : g_made (g_leftmost' z v) = g_made z := by unfold g_made g_leftmost'; exact rfl
theorem q_g_made_rightmost (z : GG) (v : Int32) : g_made (g_rightmost' z v) = g_made z := by unfold g_made g_rightmost'; exact rfl
theorem q_g_made_rimEdges (z : GG) (v : Int64) : g_made (g_rimEdges' z v) = g_made z := by unfold g_made g_rimEdges'; exact rfl
theorem q_g_made_hedges (z : GG) (v : Int64) : g_made (g_hedges' z v) = g_made z := by unfold g_made g_hedges'; exact rfl
theorem q_g_made_dug (z : GG) (v : Int32) : g_made (g_dug' z v) = g_made z := by unfold g_made g_dug'; exact rfl
theorem q_g_made_ownedBy0 (z : GG) (v : Int32) : g_made (g_ownedBy0' z v) = g_made z := by unfold g_made g_ownedBy0'; exact rfl
theorem q_g_made_ownedBy1 (z : GG) (v : Int32) : g_made (g_ownedBy1' z v) = g_made z := by unfold g_made g_ownedBy1'; exact rfl
theorem q_g_made_turn (z : GG) (v : Int32) : g_made (g_turn' z v) = g_made z := by unfold g_made g_turn'; exact rfl
theorem q_g_made_made (z : GG) (v : Int32) : g_made (g_made' z v) = v := by unfold g_made g_made'; exact rfl
theorem q_g_made_seed (z : GG) (v : Int32) : g_made (g_seed' z v) = g_made z := by unfold g_made g_seed'; exact rfl
theorem q_g_seed_width (z : GG) (v : Int32) : g_seed (g_width' z v) = g_seed z := by unfold g_seed g_width'; exact rfl
theorem q_g_seed_height (z : GG) (v : Int32) : g_seed (g_height' z v) = g_seed z := by unfold g_seed g_height'; exact rfl
theorem q_g_seed_fields (z : GG) (v : Int32) : g_seed (g_fields' z v) = g_seed z := by unfold g_seed g_fields'; exact rfl
theorem q_g_seed_edges (z : GG) (v : Int32) : g_seed (g_edges' z v) = g_seed z := by unfold g_seed g_edges'; exact rfl
theorem q_g_seed_uprights (z : GG) (v : Int32) : g_seed (g_uprights' z v) = g_seed z := by unfold g_seed g_uprights'; exact rfl
theorem q_g_seed_all (z : GG) (v : Int32) : g_seed (g_all' z v) = g_seed z := by unfold g_seed g_all'; exact rfl
theorem q_g_seed_leftmost (z : GG) (v : Int32) : g_seed (g_leftmost' z v) = g_seed z := by unfold g_seed g_leftmost'; exact rfl
theorem q_g_seed_rightmost (z : GG) (v : Int32) : g_seed (g_rightmost' z v) = g_seed z := by unfold g_seed g_rightmost'; exact rfl
theorem q_g_seed_rimEdges (z : GG) (v : Int64) : g_seed (g_rimEdges' z v) = g_seed z := by unfold g_seed g_rimEdges'; exact rfl
theorem q_g_seed_hedges (z : GG) (v : Int64) : g_seed (g_hedges' z v) = g_seed z := by unfold g_seed g_hedges'; exact rfl
theorem q_g_seed_dug (z : GG) (v : Int32) : g_seed (g_dug' z v) = g_seed z := by unfold g_seed g_dug'; exact rfl
theorem q_g_seed_ownedBy0 (z : GG) (v : Int32) : g_seed (g_ownedBy0' z v) = g_seed z := by unfold g_seed g_ownedBy0'; exact rfl
theorem q_g_seed_ownedBy1 (z : GG) (v : Int32) : g_seed (g_ownedBy1' z v) = g_seed z := by unfold g_seed g_ownedBy1'; exact rfl
theorem q_g_seed_turn (z : GG) (v : Int32) : g_seed (g_turn' z v) = g_seed z := by unfold g_seed g_turn'; exact rfl
theorem q_g_seed_made (z : GG) (v : Int32) : g_seed (g_made' z v) = g_seed z := by unfold g_seed g_made'; exact rfl
theorem q_g_seed_seed (z : GG) (v : Int32) : g_seed (g_seed' z v) = v := by unfold g_seed g_seed'; exact rfl
theorem q_s_content_content (z : SS) (v : Int32) : s_content (s_content' z v) = v := by unfold s_content s_content'; exact rfl
theorem q_s_content_length (z : SS) (v : Int32) : s_content (s_length' z v) = s_content z := by unfold s_content s_length'; exact rfl
theorem q_s_content_elements (z : SS) (v : Nat → Int64) : s_content (s_elements' z v) = s_content z := by unfold s_content s_elements'; exact rfl
theorem q_s_length_content (z : SS) (v : Int32) : s_length (s_content' z v) = s_length z := by unfold s_length s_content'; exact rfl
theorem q_s_length_length (z : SS) (v : Int32) : s_length (s_length' z v) = v := by unfold s_length s_length'; exact rfl
theorem q_s_length_elements (z : SS) (v : Nat → Int64) : s_length (s_elements' z v) = s_length z := by unfold s_length s_elements'; exact rfl
theorem q_s_elements_content (z : SS) (v : Int32) : s_elements (s_content' z v) = s_elements z := by unfold s_elements s_content'; exact rfl
theorem q_s_elements_length (z : SS) (v : Int32) : s_elements (s_length' z v) = s_elements z := by unfold s_elements s_length'; exact rfl
theorem q_s_elements_elements (z : SS) (v : Nat → Int64) : s_elements (s_elements' z v) = v := by unfold s_elements s_elements'; exact rfl
theorem q_t_bytes_bytes (z : TT) (v : Nat → Int32) : t_bytes (t_bytes' z v) = v := by unfold t_bytes t_bytes'; exact rfl
theorem q_t_bytes_length (z : TT) (v : Int32) : t_bytes (t_length' z v) = t_bytes z := by unfold t_bytes t_length'; exact rfl
theorem q_t_bytes_from (z : TT) (v : Int32) : t_bytes (t_from' z v) = t_bytes z := by unfold t_bytes t_from'; exact rfl
theorem q_t_bytes_upto (z : TT) (v : Int32) : t_bytes (t_upto' z v) = t_bytes z := by unfold t_bytes t_upto'; exact rfl
theorem q_t_length_bytes (z : TT) (v : Nat → Int32) : t_length (t_bytes' z v) = t_length z := by unfold t_length t_bytes'; exact rfl
theorem q_t_length_length (z : TT) (v : Int32) : t_length (t_length' z v) = v := by unfold t_length t_length'; exact rfl
theorem q_t_length_from (z : TT) (v : Int32) : t_length (t_from' z v) = t_length z := by unfold t_length t_from'; exact rfl
theorem q_t_length_upto (z : TT) (v : Int32) : t_length (t_upto' z v) = t_length z := by unfold t_length t_upto'; exact rfl
theorem q_t_from_bytes (z : TT) (v : Nat → Int32) : t_from (t_bytes' z v) = t_from z := by unfold t_from t_bytes'; exact rfl
theorem q_t_from_length (z : TT) (v : Int32) : t_from (t_length' z v) = t_from z := by unfold t_from t_length'; exact rfl
theorem q_t_from_from (z : TT) (v : Int32) : t_from (t_from' z v) = v := by unfold t_from t_from'; exact rfl
theorem q_t_from_upto (z : TT) (v : Int32) : t_from (t_upto' z v) = t_from z := by unfold t_from t_upto'; exact rfl
theorem q_t_upto_bytes (z : TT) (v : Nat → Int32) : t_upto (t_bytes' z v) = t_upto z := by unfold t_upto t_bytes'; exact rfl
theorem q_t_upto_length (z : TT) (v : Int32) : t_upto (t_length' z v) = t_upto z := by unfold t_upto t_length'; exact rfl
theorem q_t_upto_from (z : TT) (v : Int32) : t_upto (t_from' z v) = t_upto z := by unfold t_upto t_from'; exact rfl
theorem q_t_upto_upto (z : TT) (v : Int32) : t_upto (t_upto' z v) = v := by unfold t_upto t_upto'; exact rfl
