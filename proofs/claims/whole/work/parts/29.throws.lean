set_option maxRecDepth 20000 in
theorem thG_ISE : ∀ w ∈ (vx_at0 RX2 32 xISE xup).filter goodWord, w ∈ lw_tbl := by decide +kernel
theorem thISE : thK RX2 30 32 xISE := ⟨by decide +kernel, k119, k8, fun w h => List.mem_filter.mpr ⟨thG_ISE w h, (List.mem_filter.mp h).2⟩, by decide +kernel, by decide +kernel, Or.inr (Or.inl rfl)⟩
set_option maxRecDepth 20000 in
theorem thG_IAE : ∀ w ∈ (vx_at0 RX2 73 xIAE xup).filter goodWord, w ∈ lw_tbl := by decide +kernel
theorem thIAE : thK RX2 71 73 xIAE := ⟨by decide +kernel, k260, k10, fun w h => List.mem_filter.mpr ⟨thG_IAE w h, (List.mem_filter.mp h).2⟩, by decide +kernel, by decide +kernel, Or.inl rfl⟩
set_option maxRecDepth 20000 in
theorem thG_NSE : ∀ w ∈ (vx_at0 RX2 83 xNSE xup).filter goodWord, w ∈ lw_tbl := by decide +kernel
theorem thNSE : thK RX2 81 83 xNSE := ⟨by decide +kernel, k275, k11, fun w h => List.mem_filter.mpr ⟨thG_NSE w h, (List.mem_filter.mp h).2⟩, by decide +kernel, by decide +kernel, Or.inr (Or.inr (Or.inl rfl))⟩
set_option maxRecDepth 20000 in
theorem thG_IOB : ∀ w ∈ (vx_at0 RX2 99 xIOB xup).filter goodWord, w ∈ lw_tbl := by decide +kernel
theorem thIOB : thK RX2 97 99 xIOB := ⟨by decide +kernel, k340, k12, fun w h => List.mem_filter.mpr ⟨thG_IOB w h, (List.mem_filter.mp h).2⟩, by decide +kernel, by decide +kernel, Or.inr (Or.inr (Or.inr rfl))⟩
