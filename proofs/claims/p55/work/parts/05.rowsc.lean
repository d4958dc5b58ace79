section RKW
set_option maxRecDepth 20000 in
theorem rtg_c139_2 : ∀ w ∈ (vx_atS "Ringdays" 139 (rEx 2) ["java/lang/RuntimeException", "java/lang/Exception"]).filter goodWord, w ∈ rT := r_memT (by decide +kernel)
set_option maxRecDepth 20000 in
theorem rtb_c139_2 : ∀ w ∈ (vx_atS "Ringdays" 139 (rEx 2) ["java/lang/RuntimeException", "java/lang/Exception"]).filter (fun w => !goodWord w), w ∈ rFc := r_memF (by decide +kernel)
set_option maxRecDepth 20000 in
theorem rtg_c154_0 : ∀ w ∈ (vx_atS "Ringdays" 154 (rEx 0) ["java/lang/RuntimeException", "java/lang/Exception"]).filter goodWord, w ∈ rT := r_memT (by decide +kernel)
set_option maxRecDepth 20000 in
theorem rtb_c154_0 : ∀ w ∈ (vx_atS "Ringdays" 154 (rEx 0) ["java/lang/RuntimeException", "java/lang/Exception"]).filter (fun w => !goodWord w), w ∈ rFc := r_memF (by decide +kernel)
set_option maxRecDepth 20000 in
theorem rtg_c215_1 : ∀ w ∈ (vx_atS "Ringdays" 215 (rEx 1) ["java/lang/RuntimeException", "java/lang/Exception"]).filter goodWord, w ∈ rT := r_memT (by decide +kernel)
set_option maxRecDepth 20000 in
theorem rtb_c215_1 : ∀ w ∈ (vx_atS "Ringdays" 215 (rEx 1) ["java/lang/RuntimeException", "java/lang/Exception"]).filter (fun w => !goodWord w), w ∈ rFc := r_memF (by decide +kernel)
set_option maxRecDepth 20000 in
theorem rto_135_c139_2 : ∀ w ∈ Cond.classLink "Ringdays" 135 (rEx 2) :: Cond.initialized (rEx 2) :: vx_atS "Ringdays" 139 (rEx 2) ["java/lang/RuntimeException", "java/lang/Exception"], vx_ot w = true := by decide +kernel
set_option maxRecDepth 20000 in
theorem rto_150_c154_0 : ∀ w ∈ Cond.classLink "Ringdays" 150 (rEx 0) :: Cond.initialized (rEx 0) :: vx_atS "Ringdays" 154 (rEx 0) ["java/lang/RuntimeException", "java/lang/Exception"], vx_ot w = true := by decide +kernel
set_option maxRecDepth 20000 in
theorem rto_211_c215_1 : ∀ w ∈ Cond.classLink "Ringdays" 211 (rEx 1) :: Cond.initialized (rEx 1) :: vx_atS "Ringdays" 215 (rEx 1) ["java/lang/RuntimeException", "java/lang/Exception"], vx_ot w = true := by decide +kernel
end RKW
