/-- the words that stay, whoever is called -/
def g_tb : List Cond := lw_tbl.filter goodWord
theorem inY0 : ∀ w ∈ u_ws RX0 TX0 4, w ∈ g_tb := fun w h => List.mem_filter.mpr ⟨(show ∀ w ∈ u_ws RX0 TX0 4, w ∈ lw_tbl by decide +kernel) w h, (show ∀ w ∈ u_ws RX0 TX0 4, goodWord w = true by decide +kernel) w h⟩
theorem inY1 : ∀ w ∈ u_ws RX1 TX1 7, w ∈ g_tb := fun w h => List.mem_filter.mpr ⟨(show ∀ w ∈ u_ws RX1 TX1 7, w ∈ lw_tbl by decide +kernel) w h, (show ∀ w ∈ u_ws RX1 TX1 7, goodWord w = true by decide +kernel) w h⟩
theorem inY2 : ∀ w ∈ u_ws RX2 TX2 5, w ∈ g_tb := fun w h => List.mem_filter.mpr ⟨(show ∀ w ∈ u_ws RX2 TX2 5, w ∈ lw_tbl by decide +kernel) w h, (show ∀ w ∈ u_ws RX2 TX2 5, goodWord w = true by decide +kernel) w h⟩
theorem inY3 : ∀ w ∈ u_ws RX3 TX3 5, w ∈ g_tb := fun w h => List.mem_filter.mpr ⟨(show ∀ w ∈ u_ws RX3 TX3 5, w ∈ lw_tbl by decide +kernel) w h, (show ∀ w ∈ u_ws RX3 TX3 5, goodWord w = true by decide +kernel) w h⟩
theorem inY4 : ∀ w ∈ u_ws RX4 TX4 13, w ∈ g_tb := fun w h => List.mem_filter.mpr ⟨(show ∀ w ∈ u_ws RX4 TX4 13, w ∈ lw_tbl by decide +kernel) w h, (show ∀ w ∈ u_ws RX4 TX4 13, goodWord w = true by decide +kernel) w h⟩
theorem inY5 : ∀ w ∈ u_ws RX5 TX5 6, w ∈ g_tb := fun w h => List.mem_filter.mpr ⟨(show ∀ w ∈ u_ws RX5 TX5 6, w ∈ lw_tbl by decide +kernel) w h, (show ∀ w ∈ u_ws RX5 TX5 6, goodWord w = true by decide +kernel) w h⟩
theorem inY6 : ∀ w ∈ u_ws RX6 TX6 6, w ∈ g_tb := fun w h => List.mem_filter.mpr ⟨(show ∀ w ∈ u_ws RX6 TX6 6, w ∈ lw_tbl by decide +kernel) w h, (show ∀ w ∈ u_ws RX6 TX6 6, goodWord w = true by decide +kernel) w h⟩
theorem inY7 : ∀ w ∈ u_ws RX7 TX7 4, w ∈ g_tb := fun w h => List.mem_filter.mpr ⟨(show ∀ w ∈ u_ws RX7 TX7 4, w ∈ lw_tbl by decide +kernel) w h, (show ∀ w ∈ u_ws RX7 TX7 4, goodWord w = true by decide +kernel) w h⟩
theorem inY8 : ∀ w ∈ u_ws RX8 TX8 4, w ∈ g_tb := fun w h => List.mem_filter.mpr ⟨(show ∀ w ∈ u_ws RX8 TX8 4, w ∈ lw_tbl by decide +kernel) w h, (show ∀ w ∈ u_ws RX8 TX8 4, goodWord w = true by decide +kernel) w h⟩
theorem inY9 : ∀ w ∈ u_ws RX9 TX9 3, w ∈ g_tb := fun w h => List.mem_filter.mpr ⟨(show ∀ w ∈ u_ws RX9 TX9 3, w ∈ lw_tbl by decide +kernel) w h, (show ∀ w ∈ u_ws RX9 TX9 3, goodWord w = true by decide +kernel) w h⟩
theorem inY10 : ∀ w ∈ u_ws RX10 TX10 1, w ∈ g_tb := fun w h => List.mem_filter.mpr ⟨(show ∀ w ∈ u_ws RX10 TX10 1, w ∈ lw_tbl by decide +kernel) w h, (show ∀ w ∈ u_ws RX10 TX10 1, goodWord w = true by decide +kernel) w h⟩
theorem inY11 : ∀ w ∈ u_ws RX11 TX11 3, w ∈ g_tb := fun w h => List.mem_filter.mpr ⟨(show ∀ w ∈ u_ws RX11 TX11 3, w ∈ lw_tbl by decide +kernel) w h, (show ∀ w ∈ u_ws RX11 TX11 3, goodWord w = true by decide +kernel) w h⟩
theorem inY12 : ∀ w ∈ u_ws RX12 TX12 13, w ∈ g_tb := fun w h => List.mem_filter.mpr ⟨(show ∀ w ∈ u_ws RX12 TX12 13, w ∈ lw_tbl by decide +kernel) w h, (show ∀ w ∈ u_ws RX12 TX12 13, goodWord w = true by decide +kernel) w h⟩
theorem inY13 : ∀ w ∈ u_ws RX13 TX13 46, w ∈ g_tb := fun w h => List.mem_filter.mpr ⟨(show ∀ w ∈ u_ws RX13 TX13 46, w ∈ lw_tbl by decide +kernel) w h, (show ∀ w ∈ u_ws RX13 TX13 46, goodWord w = true by decide +kernel) w h⟩
