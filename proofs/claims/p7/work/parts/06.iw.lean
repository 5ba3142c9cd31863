theorem iw_X0 : ∀ w ∈ u_ws RX0 TX0 4, w ∈ TS := by
  intro w hw
  obtain ⟨k, hk, rfl⟩ := List.mem_map.mp hw
  rw [List.mem_range] at hk
  match k, hk with
  | 0, _ => exact la_X0_rows
  | 1, _ => exact la_X0_count
  | 2, _ => exact la_X0_taken
  | 3, _ => exact la_X0_lost
  | k + 4, hk => omega
theorem iw_X1 : ∀ w ∈ u_ws RX1 TX1 5, w ∈ TS := by
  intro w hw
  obtain ⟨k, hk, rfl⟩ := List.mem_map.mp hw
  rw [List.mem_range] at hk
  match k, hk with
  | 0, _ => exact la_X1_cells
  | 1, _ => exact la_X1_regions
  | 2, _ => exact la_X1_ring
  | 3, _ => exact la_X1_head
  | 4, _ => exact la_X1_completed
  | k + 5, hk => omega
theorem iw_X2 : ∀ w ∈ u_ws RX2 TX2 8, w ∈ TS := by
  intro w hw
  obtain ⟨k, hk, rfl⟩ := List.mem_map.mp hw
  rw [List.mem_range] at hk
  match k, hk with
  | 0, _ => exact la_X2_pair
  | 1, _ => exact la_X2_kind
  | 2, _ => exact la_X2_number
  | 3, _ => exact la_X2_count
  | 4, _ => exact la_X2_mark
  | 5, _ => exact la_X2_place
  | 6, _ => exact la_X2_value
  | 7, _ => exact la_X2_cells
  | k + 8, hk => omega
theorem iw_X3 : ∀ w ∈ u_ws RX3 TX3 3, w ∈ TS := by
  intro w hw
  obtain ⟨k, hk, rfl⟩ := List.mem_map.mp hw
  rw [List.mem_range] at hk
  match k, hk with
  | 0, _ => exact la_X3_requester
  | 1, _ => exact la_X3_responder
  | 2, _ => exact la_X3_state
  | k + 3, hk => omega
theorem iw_X4 : ∀ w ∈ u_ws RX4 TX4 10, w ∈ TS := by
  intro w hw
  obtain ⟨k, hk, rfl⟩ := List.mem_map.mp hw
  rw [List.mem_range] at hk
  match k, hk with
  | 0, _ => exact la_X4_kind
  | 1, _ => exact la_X4_serial
  | 2, _ => exact la_X4_here
  | 3, _ => exact la_X4_n
  | 4, _ => exact la_X4_first
  | 5, _ => exact la_X4_numbers
  | 6, _ => exact la_X4_region
  | 7, _ => exact la_X4_place
  | 8, _ => exact la_X4_value
  | 9, _ => exact la_X4_came
  | k + 10, hk => omega
theorem iw_X5 : ∀ w ∈ u_ws RX5 TX5 6, w ∈ TS := by
  intro w hw
  obtain ⟨k, hk, rfl⟩ := List.mem_map.mp hw
  rw [List.mem_range] at hk
  match k, hk with
  | 0, _ => exact la_X5_pair
  | 1, _ => exact la_X5_node
  | 2, _ => exact la_X5_rows
  | 3, _ => exact la_X5_head
  | 4, _ => exact la_X5_count
  | 5, _ => exact la_X5_serials
  | k + 6, hk => omega
theorem iw_X6 : ∀ w ∈ u_ws RX6 TX6 3, w ∈ TS := by
  intro w hw
  obtain ⟨k, hk, rfl⟩ := List.mem_map.mp hw
  rw [List.mem_range] at hk
  match k, hk with
  | 0, _ => exact la_X6_base
  | 1, _ => exact la_X6_length
  | 2, _ => exact la_X6_rights
  | k + 3, hk => omega
theorem iw_X7 : ∀ w ∈ u_ws RX7 TX7 14, w ∈ TS := by
  intro w hw
  obtain ⟨k, hk, rfl⟩ := List.mem_map.mp hw
  rw [List.mem_range] at hk
  match k, hk with
  | 0, _ => exact la_X7_peer
  | 1, _ => exact la_X7_node
  | 2, _ => exact la_X7_fabric
  | 3, _ => exact la_X7_timeout
  | 4, _ => exact la_X7_mostTries
  | 5, _ => exact la_X7_mostRefusals
  | 6, _ => exact la_X7_requests
  | 7, _ => exact la_X7_next
  | 8, _ => exact la_X7_oldest
  | 9, _ => exact la_X7_cursor
  | 10, _ => exact la_X7_clock
  | 11, _ => exact la_X7_tries
  | 12, _ => exact la_X7_refusals
  | 13, _ => exact la_X7_resting
  | k + 14, hk => omega
theorem iw_X8 : ∀ w ∈ u_ws RX8 TX8 9, w ∈ TS := by
  intro w hw
  obtain ⟨k, hk, rfl⟩ := List.mem_map.mp hw
  rw [List.mem_range] at hk
  match k, hk with
  | 0, _ => exact la_X8_peer
  | 1, _ => exact la_X8_node
  | 2, _ => exact la_X8_fabric
  | 3, _ => exact la_X8_receives
  | 4, _ => exact la_X8_expected
  | 5, _ => exact la_X8_begun
  | 6, _ => exact la_X8_sequenceTold
  | 7, _ => exact la_X8_addNumbers
  | 8, _ => exact la_X8_addReplies
  | k + 9, hk => omega
theorem iw_X9 : ∀ w ∈ u_ws RX9 TX9 3, w ∈ TS := by
  intro w hw
  obtain ⟨k, hk, rfl⟩ := List.mem_map.mp hw
  rw [List.mem_range] at hk
  match k, hk with
  | 0, _ => exact la_X9_nodes
  | 1, _ => exact la_X9_pairs
  | 2, _ => exact la_X9_fabric
  | k + 3, hk => omega
theorem iw_X10 : ∀ w ∈ u_ws RX10 TX10 49, w ∈ TS := by
  intro w hw
  obtain ⟨k, hk, rfl⟩ := List.mem_map.mp hw
  rw [List.mem_range] at hk
  match k, hk with
  | 0, _ => exact la_X10_timeout
  | 1, _ => exact la_X10_mostTries
  | 2, _ => exact la_X10_mostRefusals
  | 3, _ => exact la_X10_code
  | 4, _ => exact la_X10_memory
  | 5, _ => exact la_X10_base
  | 6, _ => exact la_X10_span
  | 7, _ => exact la_X10_rights
  | 8, _ => exact la_X10_done
  | 9, _ => exact la_X10_ends
  | 10, _ => exact la_X10_state
  | 11, _ => exact la_X10_following
  | 12, _ => exact la_X10_oldest
  | 13, _ => exact la_X10_cursor
  | 14, _ => exact la_X10_expected
  | 15, _ => exact la_X10_clock
  | 16, _ => exact la_X10_tries
  | 17, _ => exact la_X10_refusals
  | 18, _ => exact la_X10_resting
  | 19, _ => exact la_X10_nakked
  | 20, _ => exact la_X10_requests
  | 21, _ => exact la_X10_serials
  | 22, _ => exact la_X10_rKind
  | 23, _ => exact la_X10_rHere
  | 24, _ => exact la_X10_rSize
  | 25, _ => exact la_X10_rRegion
  | 26, _ => exact la_X10_rPlace
  | 27, _ => exact la_X10_rValue
  | 28, _ => exact la_X10_rSerial
  | 29, _ => exact la_X10_rFirst
  | 30, _ => exact la_X10_receives
  | 31, _ => exact la_X10_receiveSerials
  | 32, _ => exact la_X10_vHere
  | 33, _ => exact la_X10_vSize
  | 34, _ => exact la_X10_vSerial
  | 35, _ => exact la_X10_vCame
  | 36, _ => exact la_X10_begun
  | 37, _ => exact la_X10_adds
  | 38, _ => exact la_X10_addNumber
  | 39, _ => exact la_X10_addValue
  | 40, _ => exact la_X10_packets
  | 41, _ => exact la_X10_pTo
  | 42, _ => exact la_X10_pKind
  | 43, _ => exact la_X10_pNumber
  | 44, _ => exact la_X10_pSize
  | 45, _ => exact la_X10_pMark
  | 46, _ => exact la_X10_pPlace
  | 47, _ => exact la_X10_pValue
  | 48, _ => exact la_X10_pCell
  | k + 49, hk => omega
