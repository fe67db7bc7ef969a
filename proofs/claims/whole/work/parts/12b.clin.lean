set_option maxRecDepth 20000 in
theorem cl_in0 : ∀ w ∈ u_ws RX0 TX0 12, w ∈ gT := by
  intro w hw
  obtain ⟨k, hk, rfl⟩ := List.mem_map.mp hw
  have hk := List.mem_range.mp hk
  rcases (by omega : k = 0 ∨ k = 1 ∨ k = 2 ∨ k = 3 ∨ k = 4 ∨ k = 5 ∨ k = 6 ∨ k = 7 ∨ k = 8 ∨ k = 9 ∨ k = 10 ∨ k = 11) with rfl | rfl | rfl | rfl | rfl | rfl | rfl | rfl | rfl | rfl | rfl | rfl
  · exact gT_1 78 rfl rfl
  · exact gT_1 80 rfl rfl
  · exact gT_1 82 rfl rfl
  · exact gT_1 84 rfl rfl
  · exact gT_1 86 rfl rfl
  · exact gT_1 88 rfl rfl
  · exact gT_1 90 rfl rfl
  · exact gT_1 92 rfl rfl
  · exact gT_1 94 rfl rfl
  · exact gT_1 96 rfl rfl
  · exact gT_1 98 rfl rfl
  · exact gT_1 100 rfl rfl

set_option maxRecDepth 20000 in
theorem cl_in1 : ∀ w ∈ u_ws RX1 TX1 3, w ∈ gT := by
  intro w hw
  obtain ⟨k, hk, rfl⟩ := List.mem_map.mp hw
  have hk := List.mem_range.mp hk
  rcases (by omega : k = 0 ∨ k = 1 ∨ k = 2) with rfl | rfl | rfl
  · exact gT_1 233 rfl rfl
  · exact gT_1 234 rfl rfl
  · exact gT_1 235 rfl rfl

set_option maxRecDepth 20000 in
theorem cl_in2 : ∀ w ∈ u_ws RX2 TX2 3, w ∈ gT := by
  intro w hw
  obtain ⟨k, hk, rfl⟩ := List.mem_map.mp hw
  have hk := List.mem_range.mp hk
  rcases (by omega : k = 0 ∨ k = 1 ∨ k = 2) with rfl | rfl | rfl
  · exact gT_2 3 rfl rfl
  · exact gT_2 4 rfl rfl
  · exact gT_2 5 rfl rfl

set_option maxRecDepth 20000 in
theorem cl_in3 : ∀ w ∈ u_ws RX3 TX3 3, w ∈ gT := by
  intro w hw
  obtain ⟨k, hk, rfl⟩ := List.mem_map.mp hw
  have hk := List.mem_range.mp hk
  rcases (by omega : k = 0 ∨ k = 1 ∨ k = 2) with rfl | rfl | rfl
  · exact gT_1 220 rfl rfl
  · exact gT_1 222 rfl rfl
  · exact gT_1 224 rfl rfl

set_option maxRecDepth 20000 in
theorem cl_in4 : ∀ w ∈ u_ws RX4 TX4 3, w ∈ gT := by
  intro w hw
  obtain ⟨k, hk, rfl⟩ := List.mem_map.mp hw
  have hk := List.mem_range.mp hk
  rcases (by omega : k = 0 ∨ k = 1 ∨ k = 2) with rfl | rfl | rfl
  · exact gT_2 23 rfl rfl
  · exact gT_2 24 rfl rfl
  · exact gT_2 25 rfl rfl

set_option maxRecDepth 20000 in
theorem cl_in5 : ∀ w ∈ u_ws RX5 TX5 3, w ∈ gT := by
  intro w hw
  obtain ⟨k, hk, rfl⟩ := List.mem_map.mp hw
  have hk := List.mem_range.mp hk
  rcases (by omega : k = 0 ∨ k = 1 ∨ k = 2) with rfl | rfl | rfl
  · exact gT_2 13 rfl rfl
  · exact gT_2 14 rfl rfl
  · exact gT_2 15 rfl rfl

set_option maxRecDepth 20000 in
theorem cl_in6 : ∀ w ∈ u_ws RX6 TX6 3, w ∈ gT := by
  intro w hw
  obtain ⟨k, hk, rfl⟩ := List.mem_map.mp hw
  have hk := List.mem_range.mp hk
  rcases (by omega : k = 0 ∨ k = 1 ∨ k = 2) with rfl | rfl | rfl
  · exact gT_1 152 rfl rfl
  · exact gT_1 154 rfl rfl
  · exact gT_1 156 rfl rfl

set_option maxRecDepth 20000 in
theorem cl_in7 : ∀ w ∈ u_ws RX7 TX7 3, w ∈ gT := by
  intro w hw
  obtain ⟨k, hk, rfl⟩ := List.mem_map.mp hw
  have hk := List.mem_range.mp hk
  rcases (by omega : k = 0 ∨ k = 1 ∨ k = 2) with rfl | rfl | rfl
  · exact gT_2 33 rfl rfl
  · exact gT_2 34 rfl rfl
  · exact gT_2 35 rfl rfl

set_option maxRecDepth 20000 in
theorem cl_in8 : ∀ w ∈ u_ws RX8 TX8 4, w ∈ gT := by
  intro w hw
  obtain ⟨k, hk, rfl⟩ := List.mem_map.mp hw
  have hk := List.mem_range.mp hk
  rcases (by omega : k = 0 ∨ k = 1 ∨ k = 2 ∨ k = 3) with rfl | rfl | rfl | rfl
  · exact gT_1 128 rfl rfl
  · exact gT_1 130 rfl rfl
  · exact gT_1 132 rfl rfl
  · exact gT_1 134 rfl rfl

set_option maxRecDepth 20000 in
theorem cl_in9 : ∀ w ∈ u_ws RX9 TX9 3, w ∈ gT := by
  intro w hw
  obtain ⟨k, hk, rfl⟩ := List.mem_map.mp hw
  have hk := List.mem_range.mp hk
  rcases (by omega : k = 0 ∨ k = 1 ∨ k = 2) with rfl | rfl | rfl
  · exact gT_1 185 rfl rfl
  · exact gT_1 187 rfl rfl
  · exact gT_1 189 rfl rfl

set_option maxRecDepth 20000 in
theorem cl_in10 : ∀ w ∈ u_ws RX10 TX10 2, w ∈ gT := by
  intro w hw
  obtain ⟨k, hk, rfl⟩ := List.mem_map.mp hw
  have hk := List.mem_range.mp hk
  rcases (by omega : k = 0 ∨ k = 1) with rfl | rfl
  · exact gT_1 112 rfl rfl
  · exact gT_1 114 rfl rfl

set_option maxRecDepth 20000 in
theorem cl_in11 : ∀ w ∈ u_ws RX11 TX11 15, w ∈ gT := by
  intro w hw
  obtain ⟨k, hk, rfl⟩ := List.mem_map.mp hw
  have hk := List.mem_range.mp hk
  rcases (by omega : k = 0 ∨ k = 1 ∨ k = 2 ∨ k = 3 ∨ k = 4 ∨ k = 5 ∨ k = 6 ∨ k = 7 ∨ k = 8 ∨ k = 9 ∨ k = 10 ∨ k = 11 ∨ k = 12 ∨ k = 13 ∨ k = 14) with rfl | rfl | rfl | rfl | rfl | rfl | rfl | rfl | rfl | rfl | rfl | rfl | rfl | rfl | rfl
  · exact gT_2 52 rfl rfl
  · exact gT_2 54 rfl rfl
  · exact gT_2 56 rfl rfl
  · exact gT_2 58 rfl rfl
  · exact gT_2 60 rfl rfl
  · exact gT_2 62 rfl rfl
  · exact gT_2 64 rfl rfl
  · exact gT_2 66 rfl rfl
  · exact gT_2 68 rfl rfl
  · exact gT_2 70 rfl rfl
  · exact gT_2 72 rfl rfl
  · exact gT_2 74 rfl rfl
  · exact gT_2 76 rfl rfl
  · exact gT_2 78 rfl rfl
  · exact gT_2 80 rfl rfl

set_option maxRecDepth 20000 in
theorem cl_in12 : ∀ w ∈ u_ws RX12 TX12 27, w ∈ gT := by
  intro w hw
  obtain ⟨k, hk, rfl⟩ := List.mem_map.mp hw
  have hk := List.mem_range.mp hk
  rcases (by omega : k = 0 ∨ k = 1 ∨ k = 2 ∨ k = 3 ∨ k = 4 ∨ k = 5 ∨ k = 6 ∨ k = 7 ∨ k = 8 ∨ k = 9 ∨ k = 10 ∨ k = 11 ∨ k = 12 ∨ k = 13 ∨ k = 14 ∨ k = 15 ∨ k = 16 ∨ k = 17 ∨ k = 18 ∨ k = 19 ∨ k = 20 ∨ k = 21 ∨ k = 22 ∨ k = 23 ∨ k = 24 ∨ k = 25 ∨ k = 26) with rfl | rfl | rfl | rfl | rfl | rfl | rfl | rfl | rfl | rfl | rfl | rfl | rfl | rfl | rfl | rfl | rfl | rfl | rfl | rfl | rfl | rfl | rfl | rfl | rfl | rfl | rfl
  · exact gT_5 34 rfl rfl
  · exact gT_5 36 rfl rfl
  · exact gT_5 38 rfl rfl
  · exact gT_5 40 rfl rfl
  · exact gT_5 42 rfl rfl
  · exact gT_5 44 rfl rfl
  · exact gT_5 46 rfl rfl
  · exact gT_5 48 rfl rfl
  · exact gT_5 50 rfl rfl
  · exact gT_5 52 rfl rfl
  · exact gT_5 54 rfl rfl
  · exact gT_5 56 rfl rfl
  · exact gT_5 58 rfl rfl
  · exact gT_5 60 rfl rfl
  · exact gT_5 62 rfl rfl
  · exact gT_5 64 rfl rfl
  · exact gT_5 66 rfl rfl
  · exact gT_5 68 rfl rfl
  · exact gT_5 70 rfl rfl
  · exact gT_5 72 rfl rfl
  · exact gT_5 74 rfl rfl
  · exact gT_5 76 rfl rfl
  · exact gT_5 78 rfl rfl
  · exact gT_5 80 rfl rfl
  · exact gT_5 82 rfl rfl
  · exact gT_5 84 rfl rfl
  · exact gT_5 86 rfl rfl

set_option maxRecDepth 20000 in
theorem cl_in {ci : Nat} (h : ci < 13) : ∀ w ∈ u_ws (clC ci) (clT ci) (clN ci), w ∈ gT := by
  rcases (by omega : ci = 0 ∨ ci = 1 ∨ ci = 2 ∨ ci = 3 ∨ ci = 4 ∨ ci = 5 ∨ ci = 6 ∨ ci = 7 ∨ ci = 8 ∨ ci = 9 ∨ ci = 10 ∨ ci = 11 ∨ ci = 12) with rfl | rfl | rfl | rfl | rfl | rfl | rfl | rfl | rfl | rfl | rfl | rfl | rfl
  · exact cl_in0
  · exact cl_in1
  · exact cl_in2
  · exact cl_in3
  · exact cl_in4
  · exact cl_in5
  · exact cl_in6
  · exact cl_in7
  · exact cl_in8
  · exact cl_in9
  · exact cl_in10
  · exact cl_in11
  · exact cl_in12
