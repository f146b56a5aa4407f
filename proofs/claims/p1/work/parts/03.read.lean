theorem m_X10_has_1 : (.fieldLink RX10 17 "RestBoard$Tree" "now" "LRestBoard$State;" : Cond) ∈ wsX10_has := List.mem_of_getElem? (i := 1) (by decide +kernel)
theorem m_X10_has_2 : (.fieldLink RX10 26 "RestBoard$State" "size" "I" : Cond) ∈ wsX10_has := List.mem_of_getElem? (i := 2) (by decide +kernel)
theorem i_X10_has_X10 : ∀ w ∈ u_ws RX10 TX10 2, w ∈ wsX10_has := fun w h => List.mem_cons_of_mem _ (List.mem_append_left _ (List.mem_append_right _ h))
theorem i_X10_has_X8 : ∀ w ∈ u_ws RX8 TX8 17, w ∈ wsX10_has := fun w h => List.mem_cons_of_mem _ (List.mem_append_right _ h)
theorem m_X10_is_1 : (.fieldLink RX10 11 "RestBoard$Tree" "nodes" "[LRestBoard$Node;" : Cond) ∈ wsX10_is := List.mem_of_getElem? (i := 1) (by decide +kernel)
theorem m_X10_is_2 : (.fieldLink RX10 36 "RestBoard$Node" "kind" "I" : Cond) ∈ wsX10_is := List.mem_of_getElem? (i := 2) (by decide +kernel)
theorem i_X10_is_X10 : ∀ w ∈ u_ws RX10 TX10 2, w ∈ wsX10_is := fun w h => List.mem_cons_of_mem _ (List.mem_append_left _ (List.mem_append_left _ (List.mem_append_right _ h)))
theorem i_X10_is_X4 : ∀ w ∈ u_ws RX4 TX4 14, w ∈ wsX10_is := fun w h => List.mem_cons_of_mem _ (List.mem_append_left _ (List.mem_append_right _ h))
theorem m_X10_find_1 : (.fieldLink RX10 17 "RestBoard$Tree" "now" "LRestBoard$State;" : Cond) ∈ wsX10_find := List.mem_of_getElem? (i := 1) (by decide +kernel)
theorem m_X10_find_2 : (.fieldLink RX10 26 "RestBoard$State" "size" "I" : Cond) ∈ wsX10_find := List.mem_of_getElem? (i := 2) (by decide +kernel)
theorem m_X10_find_3 : (.fieldLink RX10 11 "RestBoard$Tree" "nodes" "[LRestBoard$Node;" : Cond) ∈ wsX10_find := List.mem_of_getElem? (i := 3) (by decide +kernel)
theorem m_X10_find_4 : (.fieldLink RX10 46 "RestBoard$Node" "parent" "I" : Cond) ∈ wsX10_find := List.mem_of_getElem? (i := 4) (by decide +kernel)
theorem i_X10_find_X10 : ∀ w ∈ u_ws RX10 TX10 2, w ∈ wsX10_find := fun w h => List.mem_cons_of_mem _ (List.mem_append_left _ (List.mem_append_left _ (List.mem_append_right _ h)))
theorem i_X10_find_X4 : ∀ w ∈ u_ws RX4 TX4 14, w ∈ wsX10_find := fun w h => List.mem_cons_of_mem _ (List.mem_append_right _ h)
theorem i_X10_find_X8 : ∀ w ∈ u_ws RX8 TX8 17, w ∈ wsX10_find := fun w h => List.mem_cons_of_mem _ (List.mem_append_left _ (List.mem_append_right _ h))
theorem m_X10_own_1 : (.fieldLink RX10 17 "RestBoard$Tree" "now" "LRestBoard$State;" : Cond) ∈ wsX10_own := List.mem_of_getElem? (i := 1) (by decide +kernel)
theorem m_X10_own_2 : (.fieldLink RX10 26 "RestBoard$State" "size" "I" : Cond) ∈ wsX10_own := List.mem_of_getElem? (i := 2) (by decide +kernel)
theorem i_X10_own_X10 : ∀ w ∈ u_ws RX10 TX10 2, w ∈ wsX10_own := fun w h => List.mem_cons_of_mem _ (List.mem_append_left _ (List.mem_append_left _ (List.mem_append_right _ h)))
theorem i_X10_own_X8 : ∀ w ∈ u_ws RX8 TX8 17, w ∈ wsX10_own := fun w h => List.mem_cons_of_mem _ (List.mem_append_left _ (List.mem_append_right _ h))
theorem m_X10_devices_1 : (.fieldLink RX10 17 "RestBoard$Tree" "now" "LRestBoard$State;" : Cond) ∈ wsX10_devices := List.mem_of_getElem? (i := 1) (by decide +kernel)
theorem m_X10_devices_2 : (.fieldLink RX10 26 "RestBoard$State" "size" "I" : Cond) ∈ wsX10_devices := List.mem_of_getElem? (i := 2) (by decide +kernel)
theorem m_X10_devices_3 : (.fieldLink RX10 11 "RestBoard$Tree" "nodes" "[LRestBoard$Node;" : Cond) ∈ wsX10_devices := List.mem_of_getElem? (i := 3) (by decide +kernel)
theorem m_X10_devices_4 : (.fieldLink RX10 36 "RestBoard$Node" "kind" "I" : Cond) ∈ wsX10_devices := List.mem_of_getElem? (i := 4) (by decide +kernel)
theorem i_X10_devices_X10 : ∀ w ∈ u_ws RX10 TX10 2, w ∈ wsX10_devices := fun w h => List.mem_cons_of_mem _ (List.mem_append_left _ (List.mem_append_left _ (List.mem_append_right _ h)))
theorem i_X10_devices_X4 : ∀ w ∈ u_ws RX4 TX4 14, w ∈ wsX10_devices := fun w h => List.mem_cons_of_mem _ (List.mem_append_right _ h)
theorem i_X10_devices_X8 : ∀ w ∈ u_ws RX8 TX8 17, w ∈ wsX10_devices := fun w h => List.mem_cons_of_mem _ (List.mem_append_left _ (List.mem_append_right _ h))
theorem m_X11_isValue_1 : (.constant RX11 296 (65536) : Cond) ∈ wsX11_isValue := List.mem_of_getElem? (i := 1) (by decide +kernel)
theorem m_X11_isRaised_1 : (.fieldLink RX11 10 "RestBoard" "now" "LRestBoard$State;" : Cond) ∈ wsX11_isRaised := List.mem_of_getElem? (i := 1) (by decide +kernel)
theorem m_X11_isRaised_2 : (.fieldLink RX11 187 "RestBoard$State" "raised" "I" : Cond) ∈ wsX11_isRaised := List.mem_of_getElem? (i := 2) (by decide +kernel)
theorem i_X11_isRaised_X11 : ∀ w ∈ u_ws RX11 TX11 11, w ∈ wsX11_isRaised := fun w h => List.mem_cons_of_mem _ (List.mem_append_left _ (List.mem_append_right _ h))
theorem i_X11_isRaised_X8 : ∀ w ∈ u_ws RX8 TX8 17, w ∈ wsX11_isRaised := fun w h => List.mem_cons_of_mem _ (List.mem_append_right _ h)
theorem m_X7_numberOf_1 : (.fieldLink RX7 15 "RestBoard$Rests" "tree" "LRestBoard$Tree;" : Cond) ∈ wsX7_numberOf := List.mem_of_getElem? (i := 1) (by decide +kernel)
theorem i_X7_numberOf_X7 : ∀ w ∈ u_ws RX7 TX7 5, w ∈ wsX7_numberOf := fun w h => List.mem_cons_of_mem _ (List.mem_append_left _ (List.mem_append_left _ (List.mem_append_left _ (List.mem_append_right _ h))))
theorem m_X7_mostAbove_1 : (.fieldLink RX7 19 "RestBoard$Rests" "now" "LRestBoard$State;" : Cond) ∈ wsX7_mostAbove := List.mem_of_getElem? (i := 1) (by decide +kernel)
theorem m_X7_mostAbove_2 : (.fieldLink RX7 35 "RestBoard$State" "size" "I" : Cond) ∈ wsX7_mostAbove := List.mem_of_getElem? (i := 2) (by decide +kernel)
theorem m_X7_mostAbove_3 : (.fieldLink RX7 15 "RestBoard$Rests" "tree" "LRestBoard$Tree;" : Cond) ∈ wsX7_mostAbove := List.mem_of_getElem? (i := 3) (by decide +kernel)
theorem m_X7_mostAbove_4 : (.fieldLink RX7 59 "RestBoard$Tree" "nodes" "[LRestBoard$Node;" : Cond) ∈ wsX7_mostAbove := List.mem_of_getElem? (i := 4) (by decide +kernel)
theorem m_X7_mostAbove_5 : (.fieldLink RX7 87 "RestBoard$Node" "above" "I" : Cond) ∈ wsX7_mostAbove := List.mem_of_getElem? (i := 5) (by decide +kernel)
theorem m_X7_mostAbove_6 : (.methodLink RX7 90 Lib.Math.max.name : Cond) ∈ wsX7_mostAbove := List.mem_of_getElem? (i := 6) (by decide +kernel)
theorem m_X7_mostAbove_7 : (.static Lib.Math.max.name : Cond) ∈ wsX7_mostAbove := List.mem_of_getElem? (i := 7) (by decide +kernel)
theorem m_X7_mostAbove_8 : (.initialized "java/lang/Math" : Cond) ∈ wsX7_mostAbove := List.mem_of_getElem? (i := 8) (by decide +kernel)
theorem m_X7_mostAbove_9 : (.code Lib.Math.max.name Lib.Math.max.code 2 (some .int) : Cond) ∈ wsX7_mostAbove := List.mem_of_getElem? (i := 9) (by decide +kernel)
theorem i_X7_mostAbove_X10 : ∀ w ∈ u_ws RX10 TX10 2, w ∈ wsX7_mostAbove := fun w h => List.mem_cons_of_mem _ (List.mem_append_left _ (List.mem_append_right _ h))
theorem i_X7_mostAbove_X4 : ∀ w ∈ u_ws RX4 TX4 14, w ∈ wsX7_mostAbove := fun w h => List.mem_cons_of_mem _ (List.mem_append_right _ h)
theorem i_X7_mostAbove_X7 : ∀ w ∈ u_ws RX7 TX7 5, w ∈ wsX7_mostAbove := fun w h => List.mem_cons_of_mem _ (List.mem_append_left _ (List.mem_append_left _ (List.mem_append_left _ (List.mem_append_right _ h))))
theorem i_X7_mostAbove_X8 : ∀ w ∈ u_ws RX8 TX8 17, w ∈ wsX7_mostAbove := fun w h => List.mem_cons_of_mem _ (List.mem_append_left _ (List.mem_append_left _ (List.mem_append_right _ h)))
theorem m_X7_tiedTo_1 : (.fieldLink RX7 19 "RestBoard$Rests" "now" "LRestBoard$State;" : Cond) ∈ wsX7_tiedTo := List.mem_of_getElem? (i := 1) (by decide +kernel)
theorem m_X7_tiedTo_2 : (.fieldLink RX7 35 "RestBoard$State" "size" "I" : Cond) ∈ wsX7_tiedTo := List.mem_of_getElem? (i := 2) (by decide +kernel)
theorem m_X7_tiedTo_3 : (.fieldLink RX7 41 "RestBoard$State" "lines" "[I" : Cond) ∈ wsX7_tiedTo := List.mem_of_getElem? (i := 3) (by decide +kernel)
theorem i_X7_tiedTo_X7 : ∀ w ∈ u_ws RX7 TX7 5, w ∈ wsX7_tiedTo := fun w h => List.mem_cons_of_mem _ (List.mem_append_left _ (List.mem_append_right _ h))
theorem i_X7_tiedTo_X8 : ∀ w ∈ u_ws RX8 TX8 17, w ∈ wsX7_tiedTo := fun w h => List.mem_cons_of_mem _ (List.mem_append_right _ h)
theorem m_X3_told_1 : (.fieldLink RX3 17 "RestBoard$Machine" "latest" "[I" : Cond) ∈ wsX3_told := List.mem_of_getElem? (i := 1) (by decide +kernel)
theorem i_X3_told_X3 : ∀ w ∈ u_ws RX3 TX3 10, w ∈ wsX3_told := fun w h => List.mem_cons_of_mem _ (List.mem_append_right _ h)
theorem m_X3_steps_1 : (.fieldLink RX3 41 "RestBoard$Machine" "steps" "I" : Cond) ∈ wsX3_steps := List.mem_of_getElem? (i := 1) (by decide +kernel)
theorem i_X3_steps_X3 : ∀ w ∈ u_ws RX3 TX3 10, w ∈ wsX3_steps := fun w h => List.mem_cons_of_mem _ (List.mem_append_right _ h)
theorem m_X1_kept_1 : (.fieldLink RX1 24 "RestBoard$History" "kept" "I" : Cond) ∈ wsX1_kept := List.mem_of_getElem? (i := 1) (by decide +kernel)
theorem i_X1_kept_X1 : ∀ w ∈ u_ws RX1 TX1 5, w ∈ wsX1_kept := fun w h => List.mem_cons_of_mem _ (List.mem_append_right _ h)
theorem m_X9_length_1 : (.fieldLink RX9 35 "RestBoard$Table" "length" "I" : Cond) ∈ wsX9_length := List.mem_of_getElem? (i := 1) (by decide +kernel)
theorem i_X9_length_X9 : ∀ w ∈ u_ws RX9 TX9 15, w ∈ wsX9_length := fun w h => List.mem_cons_of_mem _ (List.mem_append_right _ h)
theorem m_X2_told_1 : (.fieldLink RX2 22 "RestBoard$Log" "kept" "I" : Cond) ∈ wsX2_told := List.mem_of_getElem? (i := 1) (by decide +kernel)
theorem i_X2_told_X2 : ∀ w ∈ u_ws RX2 TX2 4, w ∈ wsX2_told := fun w h => List.mem_cons_of_mem _ (List.mem_append_right _ h)
theorem m_X5_needs_1 : (.fieldLink RX5 22 "RestBoard$Powers" "now" "LRestBoard$State;" : Cond) ∈ wsX5_needs := List.mem_of_getElem? (i := 1) (by decide +kernel)
theorem m_X5_needs_2 : (.fieldLink RX5 80 "RestBoard$State" "wanting" "[I" : Cond) ∈ wsX5_needs := List.mem_of_getElem? (i := 2) (by decide +kernel)
theorem m_X5_needs_3 : (.fieldLink RX5 116 "RestBoard$State" "tied" "[I" : Cond) ∈ wsX5_needs := List.mem_of_getElem? (i := 3) (by decide +kernel)
theorem i_X5_needs_X5 : ∀ w ∈ u_ws RX5 TX5 4, w ∈ wsX5_needs := fun w h => List.mem_cons_of_mem _ (List.mem_append_left _ (List.mem_append_right _ h))
theorem i_X5_needs_X8 : ∀ w ∈ u_ws RX8 TX8 17, w ∈ wsX5_needs := fun w h => List.mem_cons_of_mem _ (List.mem_append_right _ h)
theorem m_X5_resourcesOn_1 : (.fieldLink RX5 22 "RestBoard$Powers" "now" "LRestBoard$State;" : Cond) ∈ wsX5_resourcesOn := List.mem_of_getElem? (i := 1) (by decide +kernel)
theorem m_X5_resourcesOn_2 : (.fieldLink RX5 63 "RestBoard$State" "size" "I" : Cond) ∈ wsX5_resourcesOn := List.mem_of_getElem? (i := 2) (by decide +kernel)
theorem m_X5_resourcesOn_3 : (.fieldLink RX5 18 "RestBoard$Powers" "tree" "LRestBoard$Tree;" : Cond) ∈ wsX5_resourcesOn := List.mem_of_getElem? (i := 3) (by decide +kernel)
theorem m_X5_resourcesOn_4 : (.fieldLink RX5 36 "RestBoard$Tree" "nodes" "[LRestBoard$Node;" : Cond) ∈ wsX5_resourcesOn := List.mem_of_getElem? (i := 4) (by decide +kernel)
theorem m_X5_resourcesOn_5 : (.fieldLink RX5 66 "RestBoard$Node" "kind" "I" : Cond) ∈ wsX5_resourcesOn := List.mem_of_getElem? (i := 5) (by decide +kernel)
theorem i_X5_resourcesOn_X10 : ∀ w ∈ u_ws RX10 TX10 2, w ∈ wsX5_resourcesOn := fun w h => List.mem_cons_of_mem _ (List.mem_append_left _ (List.mem_append_right _ h))
theorem i_X5_resourcesOn_X4 : ∀ w ∈ u_ws RX4 TX4 14, w ∈ wsX5_resourcesOn := fun w h => List.mem_cons_of_mem _ (List.mem_append_right _ h)
theorem i_X5_resourcesOn_X5 : ∀ w ∈ u_ws RX5 TX5 4, w ∈ wsX5_resourcesOn := fun w h => List.mem_cons_of_mem _ (List.mem_append_left _ (List.mem_append_left _ (List.mem_append_left _ (List.mem_append_right _ h))))
theorem i_X5_resourcesOn_X8 : ∀ w ∈ u_ws RX8 TX8 17, w ∈ wsX5_resourcesOn := fun w h => List.mem_cons_of_mem _ (List.mem_append_left _ (List.mem_append_left _ (List.mem_append_right _ h)))
theorem m_X5_armedDevices_1 : (.fieldLink RX5 22 "RestBoard$Powers" "now" "LRestBoard$State;" : Cond) ∈ wsX5_armedDevices := List.mem_of_getElem? (i := 1) (by decide +kernel)
theorem m_X5_armedDevices_2 : (.fieldLink RX5 63 "RestBoard$State" "size" "I" : Cond) ∈ wsX5_armedDevices := List.mem_of_getElem? (i := 2) (by decide +kernel)
theorem m_X5_armedDevices_3 : (.fieldLink RX5 119 "RestBoard$State" "lines" "[I" : Cond) ∈ wsX5_armedDevices := List.mem_of_getElem? (i := 3) (by decide +kernel)
theorem i_X5_armedDevices_X5 : ∀ w ∈ u_ws RX5 TX5 4, w ∈ wsX5_armedDevices := fun w h => List.mem_cons_of_mem _ (List.mem_append_left _ (List.mem_append_right _ h))
theorem i_X5_armedDevices_X8 : ∀ w ∈ u_ws RX8 TX8 17, w ∈ wsX5_armedDevices := fun w h => List.mem_cons_of_mem _ (List.mem_append_right _ h)
theorem m_X11_refusalToRun_1 : (.fieldLink RX11 24 "RestBoard" "tree" "LRestBoard$Tree;" : Cond) ∈ wsX11_refusalToRun := List.mem_of_getElem? (i := 1) (by decide +kernel)
theorem i_X11_refusalToRun_X11 : ∀ w ∈ u_ws RX11 TX11 11, w ∈ wsX11_refusalToRun := fun w h => List.mem_cons_of_mem _ (List.mem_append_left _ (List.mem_append_left _ (List.mem_append_left _ (List.mem_append_right _ h))))
theorem m_X11_refusalToChange_1 : (.fieldLink RX11 24 "RestBoard" "tree" "LRestBoard$Tree;" : Cond) ∈ wsX11_refusalToChange := List.mem_of_getElem? (i := 1) (by decide +kernel)
theorem i_X11_refusalToChange_X11 : ∀ w ∈ u_ws RX11 TX11 11, w ∈ wsX11_refusalToChange := fun w h => List.mem_cons_of_mem _ (List.mem_append_left _ (List.mem_append_left _ (List.mem_append_left _ (List.mem_append_right _ h))))
theorem m_X11_refusalToRest_1 : (.fieldLink RX11 10 "RestBoard" "now" "LRestBoard$State;" : Cond) ∈ wsX11_refusalToRest := List.mem_of_getElem? (i := 1) (by decide +kernel)
theorem m_X11_refusalToRest_2 : (.fieldLink RX11 92 "RestBoard$State" "resting" "I" : Cond) ∈ wsX11_refusalToRest := List.mem_of_getElem? (i := 2) (by decide +kernel)
theorem m_X11_refusalToRest_3 : (.fieldLink RX11 58 "RestBoard" "rests" "LRestBoard$Rests;" : Cond) ∈ wsX11_refusalToRest := List.mem_of_getElem? (i := 3) (by decide +kernel)
theorem i_X11_refusalToRest_X11 : ∀ w ∈ u_ws RX11 TX11 11, w ∈ wsX11_refusalToRest := fun w h => List.mem_cons_of_mem _ (List.mem_append_left _ (List.mem_append_left _ (List.mem_append_left _ (List.mem_append_left _ (List.mem_append_right _ h)))))
theorem i_X11_refusalToRest_X8 : ∀ w ∈ u_ws RX8 TX8 17, w ∈ wsX11_refusalToRest := fun w h => List.mem_cons_of_mem _ (List.mem_append_left _ (List.mem_append_left _ (List.mem_append_left _ (List.mem_append_right _ h))))
theorem m_X11_ofDevice_1 : (.fieldLink RX11 10 "RestBoard" "now" "LRestBoard$State;" : Cond) ∈ wsX11_ofDevice := List.mem_of_getElem? (i := 1) (by decide +kernel)
theorem m_X11_ofDevice_2 : (.fieldLink RX11 143 "RestBoard$State" "powers" "[I" : Cond) ∈ wsX11_ofDevice := List.mem_of_getElem? (i := 2) (by decide +kernel)
theorem m_X11_ofDevice_3 : (.fieldLink RX11 160 "RestBoard$State" "lines" "[I" : Cond) ∈ wsX11_ofDevice := List.mem_of_getElem? (i := 3) (by decide +kernel)
theorem i_X11_ofDevice_X11 : ∀ w ∈ u_ws RX11 TX11 11, w ∈ wsX11_ofDevice := fun w h => List.mem_cons_of_mem _ (List.mem_append_left _ (List.mem_append_right _ h))
theorem i_X11_ofDevice_X8 : ∀ w ∈ u_ws RX8 TX8 17, w ∈ wsX11_ofDevice := fun w h => List.mem_cons_of_mem _ (List.mem_append_right _ h)
theorem m_X11_ofItsKind_1 : (.fieldLink RX11 202 "RestBoard$Node" "kind" "I" : Cond) ∈ wsX11_ofItsKind := List.mem_of_getElem? (i := 1) (by decide +kernel)
theorem i_X11_ofItsKind_X4 : ∀ w ∈ u_ws RX4 TX4 14, w ∈ wsX11_ofItsKind := fun w h => List.mem_cons_of_mem _ (List.mem_append_left _ (List.mem_append_left _ (List.mem_append_left _ (List.mem_append_left _ (List.mem_append_left _ (List.mem_append_right _ h))))))
theorem m_X11_fault_1 : (.fieldLink RX11 73 "RestBoard" "latestFault" "I" : Cond) ∈ wsX11_fault := List.mem_of_getElem? (i := 1) (by decide +kernel)
theorem i_X11_fault_X11 : ∀ w ∈ u_ws RX11 TX11 11, w ∈ wsX11_fault := fun w h => List.mem_cons_of_mem _ (List.mem_append_right _ h)
theorem m_X11_status_1 : (.fieldLink RX11 293 "RestBoard" "refusedBy" "I" : Cond) ∈ wsX11_status := List.mem_of_getElem? (i := 1) (by decide +kernel)
theorem i_X11_status_X11 : ∀ w ∈ u_ws RX11 TX11 11, w ∈ wsX11_status := fun w h => List.mem_cons_of_mem _ (List.mem_append_right _ h)
theorem m_X11_node_1 : (.fieldLink RX11 24 "RestBoard" "tree" "LRestBoard$Tree;" : Cond) ∈ wsX11_node := List.mem_of_getElem? (i := 1) (by decide +kernel)
theorem m_X11_node_2 : (.fieldLink RX11 198 "RestBoard$Tree" "nodes" "[LRestBoard$Node;" : Cond) ∈ wsX11_node := List.mem_of_getElem? (i := 2) (by decide +kernel)
theorem m_X11_node_3 : (.fieldLink RX11 202 "RestBoard$Node" "kind" "I" : Cond) ∈ wsX11_node := List.mem_of_getElem? (i := 3) (by decide +kernel)
theorem m_X11_node_4 : (.fieldLink RX11 207 "RestBoard$Node" "name" "I" : Cond) ∈ wsX11_node := List.mem_of_getElem? (i := 4) (by decide +kernel)
theorem m_X11_node_5 : (.fieldLink RX11 210 "RestBoard$Node" "parent" "I" : Cond) ∈ wsX11_node := List.mem_of_getElem? (i := 5) (by decide +kernel)
theorem i_X11_node_X10 : ∀ w ∈ u_ws RX10 TX10 2, w ∈ wsX11_node := fun w h => List.mem_cons_of_mem _ (List.mem_append_left _ (List.mem_append_left _ (List.mem_append_left _ (List.mem_append_left _ (List.mem_append_right _ h)))))
theorem i_X11_node_X11 : ∀ w ∈ u_ws RX11 TX11 11, w ∈ wsX11_node := fun w h => List.mem_cons_of_mem _ (List.mem_append_left _ (List.mem_append_left _ (List.mem_append_left _ (List.mem_append_left _ (List.mem_append_left _ (List.mem_append_right _ h))))))
theorem i_X11_node_X4 : ∀ w ∈ u_ws RX4 TX4 14, w ∈ wsX11_node := fun w h => List.mem_cons_of_mem _ (List.mem_append_left _ (List.mem_append_left _ (List.mem_append_left _ (List.mem_append_right _ h))))
theorem m_X11_code_1 : (.fieldLink RX11 24 "RestBoard" "tree" "LRestBoard$Tree;" : Cond) ∈ wsX11_code := List.mem_of_getElem? (i := 1) (by decide +kernel)
theorem i_X11_code_X11 : ∀ w ∈ u_ws RX11 TX11 11, w ∈ wsX11_code := fun w h => List.mem_cons_of_mem _ (List.mem_append_left _ (List.mem_append_left _ (List.mem_append_left _ (List.mem_append_right _ h))))
theorem m_X11_lookUp_1 : (.fieldLink RX11 24 "RestBoard" "tree" "LRestBoard$Tree;" : Cond) ∈ wsX11_lookUp := List.mem_of_getElem? (i := 1) (by decide +kernel)
theorem i_X11_lookUp_X11 : ∀ w ∈ u_ws RX11 TX11 11, w ∈ wsX11_lookUp := fun w h => List.mem_cons_of_mem _ (List.mem_append_left _ (List.mem_append_left _ (List.mem_append_left _ (List.mem_append_right _ h))))
theorem m_X11_wants_1 : (.fieldLink RX11 24 "RestBoard" "tree" "LRestBoard$Tree;" : Cond) ∈ wsX11_wants := List.mem_of_getElem? (i := 1) (by decide +kernel)
theorem m_X11_wants_2 : (.fieldLink RX11 49 "RestBoard" "powers" "LRestBoard$Powers;" : Cond) ∈ wsX11_wants := List.mem_of_getElem? (i := 2) (by decide +kernel)
theorem m_X11_wants_3 : (.constantLong RX11 237 (-1) : Cond) ∈ wsX11_wants := List.mem_of_getElem? (i := 3) (by decide +kernel)
theorem i_X11_wants_X11 : ∀ w ∈ u_ws RX11 TX11 11, w ∈ wsX11_wants := fun w h => List.mem_cons_of_mem _ (List.mem_append_left _ (List.mem_append_left _ (List.mem_append_left _ (List.mem_append_left _ (List.mem_append_right _ h)))))
theorem m_X11_wanted_1 : (.fieldLink RX11 24 "RestBoard" "tree" "LRestBoard$Tree;" : Cond) ∈ wsX11_wanted := List.mem_of_getElem? (i := 1) (by decide +kernel)
theorem m_X11_wanted_2 : (.constantLong RX11 237 (-1) : Cond) ∈ wsX11_wanted := List.mem_of_getElem? (i := 2) (by decide +kernel)
theorem i_X11_wanted_X11 : ∀ w ∈ u_ws RX11 TX11 11, w ∈ wsX11_wanted := fun w h => List.mem_cons_of_mem _ (List.mem_append_left _ (List.mem_append_left _ (List.mem_append_left _ (List.mem_append_left _ (List.mem_append_right _ h)))))
theorem m_X11_deepest_1 : (.fieldLink RX11 58 "RestBoard" "rests" "LRestBoard$Rests;" : Cond) ∈ wsX11_deepest := List.mem_of_getElem? (i := 1) (by decide +kernel)
theorem i_X11_deepest_X11 : ∀ w ∈ u_ws RX11 TX11 11, w ∈ wsX11_deepest := fun w h => List.mem_cons_of_mem _ (List.mem_append_left _ (List.mem_append_left _ (List.mem_append_left _ (List.mem_append_left _ (List.mem_append_right _ h)))))
theorem m_X11_why_1 : (.fieldLink RX11 58 "RestBoard" "rests" "LRestBoard$Rests;" : Cond) ∈ wsX11_why := List.mem_of_getElem? (i := 1) (by decide +kernel)
theorem i_X11_why_X11 : ∀ w ∈ u_ws RX11 TX11 11, w ∈ wsX11_why := fun w h => List.mem_cons_of_mem _ (List.mem_append_left _ (List.mem_append_left _ (List.mem_append_left _ (List.mem_append_left _ (List.mem_append_right _ h)))))
theorem m_X11_order_1 : (.fieldLink RX11 58 "RestBoard" "rests" "LRestBoard$Rests;" : Cond) ∈ wsX11_order := List.mem_of_getElem? (i := 1) (by decide +kernel)
theorem i_X11_order_X11 : ∀ w ∈ u_ws RX11 TX11 11, w ∈ wsX11_order := fun w h => List.mem_cons_of_mem _ (List.mem_append_left _ (List.mem_append_left _ (List.mem_append_left _ (List.mem_append_left _ (List.mem_append_right _ h)))))
theorem m_X11_error_1 : (.fieldLink RX11 42 "RestBoard" "machine" "LRestBoard$Machine;" : Cond) ∈ wsX11_error := List.mem_of_getElem? (i := 1) (by decide +kernel)
theorem i_X11_error_X11 : ∀ w ∈ u_ws RX11 TX11 11, w ∈ wsX11_error := fun w h => List.mem_cons_of_mem _ (List.mem_append_left _ (List.mem_append_right _ h))
theorem m_X11_note_1 : (.fieldLink RX11 10 "RestBoard" "now" "LRestBoard$State;" : Cond) ∈ wsX11_note := List.mem_of_getElem? (i := 1) (by decide +kernel)
theorem m_X11_note_2 : (.fieldLink RX11 257 "RestBoard$State" "notes" "LRestBoard$Log;" : Cond) ∈ wsX11_note := List.mem_of_getElem? (i := 2) (by decide +kernel)
theorem i_X11_note_X11 : ∀ w ∈ u_ws RX11 TX11 11, w ∈ wsX11_note := fun w h => List.mem_cons_of_mem _ (List.mem_append_left _ (List.mem_append_left _ (List.mem_append_right _ h)))
theorem i_X11_note_X8 : ∀ w ∈ u_ws RX8 TX8 17, w ∈ wsX11_note := fun w h => List.mem_cons_of_mem _ (List.mem_append_left _ (List.mem_append_right _ h))
theorem m_X11_switched_1 : (.fieldLink RX11 10 "RestBoard" "now" "LRestBoard$State;" : Cond) ∈ wsX11_switched := List.mem_of_getElem? (i := 1) (by decide +kernel)
theorem m_X11_switched_2 : (.fieldLink RX11 265 "RestBoard$State" "switches" "LRestBoard$Log;" : Cond) ∈ wsX11_switched := List.mem_of_getElem? (i := 2) (by decide +kernel)
theorem i_X11_switched_X11 : ∀ w ∈ u_ws RX11 TX11 11, w ∈ wsX11_switched := fun w h => List.mem_cons_of_mem _ (List.mem_append_left _ (List.mem_append_left _ (List.mem_append_right _ h)))
theorem i_X11_switched_X8 : ∀ w ∈ u_ws RX8 TX8 17, w ∈ wsX11_switched := fun w h => List.mem_cons_of_mem _ (List.mem_append_left _ (List.mem_append_right _ h))
theorem m_X11_register_1 : (.fieldLink RX11 10 "RestBoard" "now" "LRestBoard$State;" : Cond) ∈ wsX11_register := List.mem_of_getElem? (i := 1) (by decide +kernel)
theorem m_X11_register_2 : (.fieldLink RX11 226 "RestBoard$State" "registers" "LRestBoard$Registers;" : Cond) ∈ wsX11_register := List.mem_of_getElem? (i := 2) (by decide +kernel)
theorem m_X11_register_3 : (.fieldLink RX11 230 "RestBoard$Registers" "bytes" "[I" : Cond) ∈ wsX11_register := List.mem_of_getElem? (i := 3) (by decide +kernel)
theorem i_X11_register_X11 : ∀ w ∈ u_ws RX11 TX11 11, w ∈ wsX11_register := fun w h => List.mem_cons_of_mem _ (List.mem_append_left _ (List.mem_append_left _ (List.mem_append_right _ h)))
theorem i_X11_register_X6 : ∀ w ∈ u_ws RX6 TX6 4, w ∈ wsX11_register := fun w h => List.mem_cons_of_mem _ (List.mem_append_right _ h)
theorem i_X11_register_X8 : ∀ w ∈ u_ws RX8 TX8 17, w ∈ wsX11_register := fun w h => List.mem_cons_of_mem _ (List.mem_append_left _ (List.mem_append_right _ h))
theorem m_X11_count_1 : (.fieldLink RX11 10 "RestBoard" "now" "LRestBoard$State;" : Cond) ∈ wsX11_count := List.mem_of_getElem? (i := 1) (by decide +kernel)
theorem m_X11_count_10 : (.fieldLink RX11 283 "RestBoard$Registers" "select" "I" : Cond) ∈ wsX11_count := List.mem_of_getElem? (i := 10) (by decide +kernel)
theorem m_X11_count_11 : (.fieldLink RX11 257 "RestBoard$State" "notes" "LRestBoard$Log;" : Cond) ∈ wsX11_count := List.mem_of_getElem? (i := 11) (by decide +kernel)
theorem m_X11_count_12 : (.fieldLink RX11 286 "RestBoard$Log" "kept" "I" : Cond) ∈ wsX11_count := List.mem_of_getElem? (i := 12) (by decide +kernel)
theorem m_X11_count_13 : (.fieldLink RX11 265 "RestBoard$State" "switches" "LRestBoard$Log;" : Cond) ∈ wsX11_count := List.mem_of_getElem? (i := 13) (by decide +kernel)
theorem m_X11_count_14 : (.fieldLink RX11 42 "RestBoard" "machine" "LRestBoard$Machine;" : Cond) ∈ wsX11_count := List.mem_of_getElem? (i := 14) (by decide +kernel)
theorem m_X11_count_15 : (.fieldLink RX11 65 "RestBoard" "history" "LRestBoard$History;" : Cond) ∈ wsX11_count := List.mem_of_getElem? (i := 15) (by decide +kernel)
theorem m_X11_count_16 : (.fieldLink RX11 33 "RestBoard" "table" "LRestBoard$Table;" : Cond) ∈ wsX11_count := List.mem_of_getElem? (i := 16) (by decide +kernel)
theorem m_X11_count_17 : (.fieldLink RX11 69 "RestBoard" "refusals" "[I" : Cond) ∈ wsX11_count := List.mem_of_getElem? (i := 17) (by decide +kernel)
theorem m_X11_count_2 : (.fieldLink RX11 95 "RestBoard$State" "size" "I" : Cond) ∈ wsX11_count := List.mem_of_getElem? (i := 2) (by decide +kernel)
theorem m_X11_count_3 : (.fieldLink RX11 24 "RestBoard" "tree" "LRestBoard$Tree;" : Cond) ∈ wsX11_count := List.mem_of_getElem? (i := 3) (by decide +kernel)
theorem m_X11_count_4 : (.fieldLink RX11 92 "RestBoard$State" "resting" "I" : Cond) ∈ wsX11_count := List.mem_of_getElem? (i := 4) (by decide +kernel)
theorem m_X11_count_5 : (.fieldLink RX11 49 "RestBoard" "powers" "LRestBoard$Powers;" : Cond) ∈ wsX11_count := List.mem_of_getElem? (i := 5) (by decide +kernel)
theorem m_X11_count_6 : (.fieldLink RX11 187 "RestBoard$State" "raised" "I" : Cond) ∈ wsX11_count := List.mem_of_getElem? (i := 6) (by decide +kernel)
theorem m_X11_count_7 : (.fieldLink RX11 226 "RestBoard$State" "registers" "LRestBoard$Registers;" : Cond) ∈ wsX11_count := List.mem_of_getElem? (i := 7) (by decide +kernel)
theorem m_X11_count_8 : (.fieldLink RX11 277 "RestBoard$Registers" "reads" "I" : Cond) ∈ wsX11_count := List.mem_of_getElem? (i := 8) (by decide +kernel)
theorem m_X11_count_9 : (.fieldLink RX11 280 "RestBoard$Registers" "writes" "I" : Cond) ∈ wsX11_count := List.mem_of_getElem? (i := 9) (by decide +kernel)
theorem i_X11_count_X11 : ∀ w ∈ u_ws RX11 TX11 11, w ∈ wsX11_count := fun w h => List.mem_cons_of_mem _ (List.mem_append_left _ (List.mem_append_left _ (List.mem_append_left _ (List.mem_append_left _ (List.mem_append_left _ (List.mem_append_left _ (List.mem_append_left _ (List.mem_append_left _ (List.mem_append_left _ (List.mem_append_right _ h))))))))))
theorem i_X11_count_X2 : ∀ w ∈ u_ws RX2 TX2 4, w ∈ wsX11_count := fun w h => List.mem_cons_of_mem _ (List.mem_append_left _ (List.mem_append_left _ (List.mem_append_left _ (List.mem_append_left _ (List.mem_append_left _ (List.mem_append_left _ (List.mem_append_right _ h)))))))
theorem i_X11_count_X6 : ∀ w ∈ u_ws RX6 TX6 4, w ∈ wsX11_count := fun w h => List.mem_cons_of_mem _ (List.mem_append_left _ (List.mem_append_left _ (List.mem_append_left _ (List.mem_append_left _ (List.mem_append_left _ (List.mem_append_left _ (List.mem_append_left _ (List.mem_append_right _ h))))))))
theorem i_X11_count_X8 : ∀ w ∈ u_ws RX8 TX8 17, w ∈ wsX11_count := fun w h => List.mem_cons_of_mem _ (List.mem_append_left _ (List.mem_append_left _ (List.mem_append_left _ (List.mem_append_left _ (List.mem_append_left _ (List.mem_append_left _ (List.mem_append_left _ (List.mem_append_left _ (List.mem_append_right _ h)))))))))
set_option maxHeartbeats 4000000 in
set_option maxRecDepth 100000 in
theorem c_X10_has (l : Launch) (dC : Nat → ClassId) (dI : Nat → Nat → Nat) (cy : Nat → ClassId) (a : Nat → Nat) (g : Nat → Nat → Option Nat) (p0 : Int32) : Met l yX10_has wsX10_has ({ frames := 0, cells := 0, slots := 0, locals := 0 }) (va_Pc [.ref (a 21), .int p0] (pp dC dI cy (fw a cy g))) (va_Qi (fun (r : Int32) (_ : Unit) => ((p0 < 0) ∧ r = 0) ∨ ((¬ p0 < 0) ∧ ((1 : Int32) ≤ p0) ∧ r = 0) ∨ ((p0 = 0) ∧ r = 1)) (fun _ _ => True) (fun _ => False)) 0 0 (fun _ => False) := by
  refine Met.ofW (cc := cX10_has) (maxL := 2) (ret := (some .boolean)) (by decide) rfl ?_
  intro p e s m args below meth c s₁ B hml hv
  obtain ⟨rfl, hP, hC⟩ := hv
  have hK := hC.1
  have hx := B.exec
  have hb := B.bytes
  have hr := B.returns
  have hts := atoms_spec (ws := wsX10_has) B.pre
  have hown : s.vm.findClass RX10 = some m.cls := findClass_of_methodNamed B.named
  have hlocks := B.notSynchronized
  have hS : va_S (fun _ => False) s.heap s.heap [] := va_S.rf
  have hl := lv_entry ([.ref (a 21), .int p0]) (n := 2) (Nat.le_of_ble_eq_true rfl)
  rw [lg_entry_eq]
  generalize (lg_sl ([.ref (a 21), .int p0]) ++ List.replicate (2 - (lg_sl ([.ref (a 21), .int p0])).length) Slot.unset).toArray = ls at hl ⊢
  have hl : lv_has ls 2 [(0, .ref (a 21)), (1, .int p0)] := hl
  refine lv_iload_n hx hb dX10_has_0 rfl (lv_at hl 1 rfl) ?_
  refine lv_if_lt (tgt := 19) hx hb dX10_has_1 (by decide) (fun c1_ => ?_) (fun c1_ => ?_)
  · skip
    refine lv_iconst (v := 0) hx hb dX10_has_19 (by decide) ?_
    exact W.zret (v := 0) (ty := .boolean) hx hb hr rfl (fun t ht hW => ⟨⟨0, (), rfl, Or.inl (⟨c1_, rfl⟩), trivial⟩, hS.F ht⟩) hS.2.2 dX10_has_20
  · skip
    refine lv_iload_n hx hb dX10_has_4 rfl (lv_at hl 1 rfl) ?_
    refine lv_aload_n hx hb dX10_has_5 rfl (lv_at hl 0 rfl) ?_
    refine va_get (D := (dC, dI)) (ci := 10) (v := .ref (a 1)) (C := RX10) (T := TX10) (N := 2) hx hb hts i_X10_has_X10 hown hK hP 21 rfl rfl 1 (by decide) (hts _ m_X10_has_1) (fun _ h9 => h9) rfl dX10_has_6 ?_
    refine va_get (D := (dC, dI)) (ci := 8) (v := .int 1) (C := RX8) (T := TX8) (N := 17) hx hb hts i_X10_has_X8 hown hK hP 1 rfl rfl 0 (by decide) (hts _ m_X10_has_2) (fun _ h9 => h9) rfl dX10_has_9 ?_
    refine lv_icmp_ge (tgt := 19) hx hb dX10_has_12 (by decide) (fun c2_ => ?_) (fun c2_ => ?_)
    · skip
      refine lv_iconst (v := 0) hx hb dX10_has_19 (by decide) ?_
      exact W.zret (v := 0) (ty := .boolean) hx hb hr rfl (fun t ht hW => ⟨⟨0, (), rfl, Or.inr (Or.inl (⟨c1_, c2_, rfl⟩)), trivial⟩, hS.F ht⟩) hS.2.2 dX10_has_20
    · skip
      have e3_ : p0 = 0 := by
        have z0_ := tz_nlt_r c1_ (show (0 : Int32).toInt = 0 by decide)
        have z1_ := tz_nle_l c2_ (show (1 : Int32).toInt = 1 by decide)
        exact tz_pin (show (0 : Int32).toInt = 0 by decide) (by omega)
      subst e3_
      refine lv_iconst (v := 1) hx hb dX10_has_15 (by decide) ?_
      refine lv_goto (tgt := 20) hx hb dX10_has_16 (by decide) ?_
      exact W.zret (v := 1) (ty := .boolean) hx hb hr rfl (fun t ht hW => ⟨⟨1, (), rfl, Or.inr (Or.inr (⟨rfl, rfl⟩)), trivial⟩, hS.F ht⟩) hS.2.2 dX10_has_20

set_option maxHeartbeats 4000000 in
set_option maxRecDepth 100000 in
theorem c_X10_is (l : Launch) (dC : Nat → ClassId) (dI : Nat → Nat → Nat) (cy : Nat → ClassId) (a : Nat → Nat) (g : Nat → Nat → Option Nat) (p0 p1 : Int32) : Met l yX10_is wsX10_is ({ frames := 1, cells := 0, slots := 0, locals := 21 }) (va_Pc [.ref (a 21), .int p0, .int p1] (pp dC dI cy (fw a cy g))) (va_Qi (fun (r : Int32) (_ : Unit) => ((p0 < 0) ∧ r = 0) ∨ ((¬ p0 < 0) ∧ ((1 : Int32) ≤ p0) ∧ r = 0) ∨ ((p0 = 0) ∧ (¬ (1 : Int32) = p1) ∧ r = 0) ∨ ((p0 = 0) ∧ (p1 = 1) ∧ r = 1)) (fun _ _ => True) (fun _ => False)) 0 0 (fun _ => False) := by
  refine Met.ofW (cc := cX10_is) (maxL := 3) (ret := (some .boolean)) (by decide) rfl ?_
  intro p e s m args below meth c s₁ B hml hv
  obtain ⟨rfl, hP, hC⟩ := hv
  have hK := hC.1
  have hx := B.exec
  have hb := B.bytes
  have hr := B.returns
  have hts := atoms_spec (ws := wsX10_is) B.pre
  have hown : s.vm.findClass RX10 = some m.cls := findClass_of_methodNamed B.named
  have hlocks := B.notSynchronized
  have hS : va_S (fun _ => False) s.heap s.heap [] := va_S.rf
  have hl := lv_entry ([.ref (a 21), .int p0, .int p1]) (n := 3) (Nat.le_of_ble_eq_true rfl)
  rw [lg_entry_eq]
  generalize (lg_sl ([.ref (a 21), .int p0, .int p1]) ++ List.replicate (3 - (lg_sl ([.ref (a 21), .int p0, .int p1])).length) Slot.unset).toArray = ls at hl ⊢
  have hl : lv_has ls 3 [(0, .ref (a 21)), (1, .int p0), (2, .int p1)] := hl
  refine lv_aload_n hx hb dX10_is_0 rfl (lv_at hl 0 rfl) ?_
  refine lv_iload_n hx hb dX10_is_1 rfl (lv_at hl 1 rfl) ?_
  refine tk_pi (va_runV (As := [.int p0]) (rest := []) ⟨hx, hb, hml, hown, hts⟩ (c_X10_has l dC dI cy a g p0) (cwV 1 hts gX10_is_X10_has rfl rfl rfl (by decide +kernel) ⟨Nat.le_of_ble_eq_true rfl, Nat.le_of_ble_eq_true rfl⟩) (pv_pp hC hP (ci := 10) (q0 := 21) rfl rfl) rfl rfl hl.1 rfl (lv_room (Nat.le_of_ble_eq_true rfl)) dX10_is_2 ⟨Nat.le_of_ble_eq_true rfl, Nat.le_of_ble_eq_true rfl⟩) hP hS (fun r_ H locs hw hP hS => ?_)
  rcases hw with ⟨c1_, rfl⟩ | ⟨c2_, c3_, rfl⟩ | ⟨c4_, rfl⟩
  · skip
    refine lv_if_eq (tgt := 25) hx hb dX10_is_5 (by decide) (fun _ => ?_) (fun c9_ => absurd (by decide) c9_)
    refine lv_iconst (v := 0) hx hb dX10_is_25 (by decide) ?_
    exact W.zret (v := 0) (ty := .boolean) hx hb hr rfl (fun t ht hW => ⟨⟨0, (), rfl, Or.inl (⟨c1_, rfl⟩), trivial⟩, hS.F ht⟩) hS.2.2 dX10_is_26
  · skip
    refine lv_if_eq (tgt := 25) hx hb dX10_is_5 (by decide) (fun _ => ?_) (fun c9_ => absurd (by decide) c9_)
    refine lv_iconst (v := 0) hx hb dX10_is_25 (by decide) ?_
    exact W.zret (v := 0) (ty := .boolean) hx hb hr rfl (fun t ht hW => ⟨⟨0, (), rfl, Or.inr (Or.inl (⟨c2_, c3_, rfl⟩)), trivial⟩, hS.F ht⟩) hS.2.2 dX10_is_26
  · skip
    subst c4_
    refine lv_if_eq (tgt := 25) hx hb dX10_is_5 (by decide) (fun c9_ => absurd c9_ (by decide)) (fun _ => ?_)
    refine lv_aload_n hx hb dX10_is_8 rfl (lv_at hl 0 rfl) ?_
    refine va_get (D := (dC, dI)) (ci := 10) (v := .ref (a 22)) (C := RX10) (T := TX10) (N := 2) hx hb hts i_X10_is_X10 hown hK hP 21 rfl rfl 0 (by decide) (hts _ m_X10_is_1) (fun _ h9 => h9) rfl dX10_is_9 ?_
    refine lv_iload_n hx hb dX10_is_12 rfl (lv_at hl 1 rfl) ?_
    refine va_aldq hx hb hK hP 22 1 rfl rfl (show ¬ ((0 : Int32) < 0 ∨ 32 ≤ Int32.toNatClampNeg 0) by decide) dX10_is_13 ?_
    refine tk_v (.ref (a 23)) (by rfl) ?_
    refine va_get (D := (dC, dI)) (ci := 4) (v := .int 1) (C := RX4) (T := TX4) (N := 14) hx hb hts i_X10_is_X4 hown hK hP 23 rfl rfl 0 (by decide) (hts _ m_X10_is_2) (fun _ h9 => h9) rfl dX10_is_14 ?_
    refine lv_iload_n hx hb dX10_is_17 rfl (lv_at hl 2 rfl) ?_
    refine lv_icmp_ne (tgt := 25) hx hb dX10_is_18 (by decide) (fun c5_ => ?_) (fun c5_ => ?_)
    · skip
      refine lv_iconst (v := 0) hx hb dX10_is_25 (by decide) ?_
      exact W.zret (v := 0) (ty := .boolean) hx hb hr rfl (fun t ht hW => ⟨⟨0, (), rfl, Or.inr (Or.inr (Or.inl (⟨rfl, c5_, rfl⟩))), trivial⟩, hS.F ht⟩) hS.2.2 dX10_is_26
    · skip
      have e6_ : p1 = 1 := by
        have z0_ := tz_eq_l c5_ (show (1 : Int32).toInt = 1 by decide)
        exact tz_pin (show (1 : Int32).toInt = 1 by decide) (by omega)
      subst e6_
      refine lv_iconst (v := 1) hx hb dX10_is_21 (by decide) ?_
      refine lv_goto (tgt := 26) hx hb dX10_is_22 (by decide) ?_
      exact W.zret (v := 1) (ty := .boolean) hx hb hr rfl (fun t ht hW => ⟨⟨1, (), rfl, Or.inr (Or.inr (Or.inr (⟨rfl, rfl, rfl⟩))), trivial⟩, hS.F ht⟩) hS.2.2 dX10_is_26

set_option maxHeartbeats 4000000 in
set_option maxRecDepth 100000 in
theorem c_X10_holdsValue (l : Launch) (dC : Nat → ClassId) (dI : Nat → Nat → Nat) (cy : Nat → ClassId) (a : Nat → Nat) (g : Nat → Nat → Option Nat) (p0 : Int32) : Met l yX10_holdsValue wsX10_holdsValue ({ frames := 2, cells := 0, slots := 0, locals := 43 }) (va_Pc [.ref (a 21), .int p0] (pp dC dI cy (fw a cy g))) (va_Qi (fun (r : Int32) (_ : Unit) => ((p0 < 0) ∧ r = 0) ∨ ((¬ p0 < 0) ∧ ((1 : Int32) ≤ p0) ∧ r = 0) ∨ ((p0 = 0) ∧ r = 0)) (fun _ _ => True) (fun _ => False)) 0 0 (fun _ => False) := by
  refine Met.ofW (cc := cX10_holdsValue) (maxL := 2) (ret := (some .boolean)) (by decide) rfl ?_
  intro p e s m args below meth c s₁ B hml hv
  obtain ⟨rfl, hP, hC⟩ := hv
  have hK := hC.1
  have hx := B.exec
  have hb := B.bytes
  have hr := B.returns
  have hts := atoms_spec (ws := wsX10_holdsValue) B.pre
  have hown : s.vm.findClass RX10 = some m.cls := findClass_of_methodNamed B.named
  have hlocks := B.notSynchronized
  have hS : va_S (fun _ => False) s.heap s.heap [] := va_S.rf
  have hl := lv_entry ([.ref (a 21), .int p0]) (n := 2) (Nat.le_of_ble_eq_true rfl)
  rw [lg_entry_eq]
  generalize (lg_sl ([.ref (a 21), .int p0]) ++ List.replicate (2 - (lg_sl ([.ref (a 21), .int p0])).length) Slot.unset).toArray = ls at hl ⊢
  have hl : lv_has ls 2 [(0, .ref (a 21)), (1, .int p0)] := hl
  refine lv_aload_n hx hb dX10_holdsValue_0 rfl (lv_at hl 0 rfl) ?_
  refine lv_iload_n hx hb dX10_holdsValue_1 rfl (lv_at hl 1 rfl) ?_
  refine lv_iconst (v := 4) hx hb dX10_holdsValue_2 (by decide) ?_
  refine tk_pi (va_runV (As := [.int p0, .int 4]) (rest := []) ⟨hx, hb, hml, hown, hts⟩ (c_X10_is l dC dI cy a g p0 4) (cwV 2 hts gX10_holdsValue_X10_is rfl rfl rfl (by decide +kernel) ⟨Nat.le_of_ble_eq_true rfl, Nat.le_of_ble_eq_true rfl⟩) (pv_pp hC hP (ci := 10) (q0 := 21) rfl rfl) rfl rfl hl.1 rfl (lv_room (Nat.le_of_ble_eq_true rfl)) dX10_holdsValue_3 ⟨Nat.le_of_ble_eq_true rfl, Nat.le_of_ble_eq_true rfl⟩) hP hS (fun r_ H locs hw hP hS => ?_)
  rcases hw with ⟨c1_, rfl⟩ | ⟨c2_, c3_, rfl⟩ | ⟨c4_, -, rfl⟩ | ⟨c6_, c7_, rfl⟩
  · skip
    refine lv_if_ne (tgt := 19) hx hb dX10_holdsValue_6 (by decide) (fun c9_ => absurd c9_ (by decide)) (fun _ => ?_)
    refine lv_aload_n hx hb dX10_holdsValue_9 rfl (lv_at hl 0 rfl) ?_
    refine lv_iload_n hx hb dX10_holdsValue_10 rfl (lv_at hl 1 rfl) ?_
    refine lv_bipush (v := 6) hx hb dX10_holdsValue_11 (by decide) ?_
    refine tk_pi (va_runV (As := [.int p0, .int 6]) (rest := []) ⟨hx, hb, hml, hown, hts⟩ (c_X10_is l dC dI cy a g p0 6) (cwV 2 hts gX10_holdsValue_X10_is rfl rfl rfl (by decide +kernel) ⟨Nat.le_of_ble_eq_true rfl, Nat.le_of_ble_eq_true rfl⟩) (pv_pp hC hP (ci := 10) (q0 := 21) rfl rfl) rfl rfl hl.1 rfl (lv_room (Nat.le_of_ble_eq_true rfl)) dX10_holdsValue_13 ⟨Nat.le_of_ble_eq_true rfl, Nat.le_of_ble_eq_true rfl⟩) hP hS (fun r_ H locs hw hP hS => ?_)
    rcases hw with ⟨c8_, rfl⟩ | ⟨c9_, c10_, rfl⟩ | ⟨c11_, -, rfl⟩ | ⟨c13_, c14_, rfl⟩
    · skip
      refine lv_if_eq (tgt := 23) hx hb dX10_holdsValue_16 (by decide) (fun _ => ?_) (fun c9_ => absurd (by decide) c9_)
      refine lv_iconst (v := 0) hx hb dX10_holdsValue_23 (by decide) ?_
      exact W.zret (v := 0) (ty := .boolean) hx hb hr rfl (fun t ht hW => ⟨⟨0, (), rfl, Or.inl (⟨c1_, rfl⟩), trivial⟩, hS.F ht⟩) hS.2.2 dX10_holdsValue_24
    · skip
      exfalso
      have z0_ := tz_lt_r c1_ (show (0 : Int32).toInt = 0 by decide)
      have z1_ := tz_nlt_r c9_ (show (0 : Int32).toInt = 0 by decide)
      omega
    · skip
      exfalso
      have z0_ := tz_lt_r c1_ (show (0 : Int32).toInt = 0 by decide)
      have z1_ := tz_eq_r c11_ (show (0 : Int32).toInt = 0 by decide)
      omega
    · skip
      exact absurd c14_ (by decide)
  · skip
    refine lv_if_ne (tgt := 19) hx hb dX10_holdsValue_6 (by decide) (fun c9_ => absurd c9_ (by decide)) (fun _ => ?_)
    refine lv_aload_n hx hb dX10_holdsValue_9 rfl (lv_at hl 0 rfl) ?_
    refine lv_iload_n hx hb dX10_holdsValue_10 rfl (lv_at hl 1 rfl) ?_
    refine lv_bipush (v := 6) hx hb dX10_holdsValue_11 (by decide) ?_
    refine tk_pi (va_runV (As := [.int p0, .int 6]) (rest := []) ⟨hx, hb, hml, hown, hts⟩ (c_X10_is l dC dI cy a g p0 6) (cwV 2 hts gX10_holdsValue_X10_is rfl rfl rfl (by decide +kernel) ⟨Nat.le_of_ble_eq_true rfl, Nat.le_of_ble_eq_true rfl⟩) (pv_pp hC hP (ci := 10) (q0 := 21) rfl rfl) rfl rfl hl.1 rfl (lv_room (Nat.le_of_ble_eq_true rfl)) dX10_holdsValue_13 ⟨Nat.le_of_ble_eq_true rfl, Nat.le_of_ble_eq_true rfl⟩) hP hS (fun r_ H locs hw hP hS => ?_)
    rcases hw with ⟨c15_, rfl⟩ | ⟨c16_, c17_, rfl⟩ | ⟨c18_, -, rfl⟩ | ⟨c20_, c21_, rfl⟩
    · skip
      exfalso
      have z0_ := tz_nlt_r c2_ (show (0 : Int32).toInt = 0 by decide)
      have z1_ := tz_le_l c3_ (show (1 : Int32).toInt = 1 by decide)
      have z2_ := tz_lt_r c15_ (show (0 : Int32).toInt = 0 by decide)
      omega
    · skip
      refine lv_if_eq (tgt := 23) hx hb dX10_holdsValue_16 (by decide) (fun _ => ?_) (fun c9_ => absurd (by decide) c9_)
      refine lv_iconst (v := 0) hx hb dX10_holdsValue_23 (by decide) ?_
      exact W.zret (v := 0) (ty := .boolean) hx hb hr rfl (fun t ht hW => ⟨⟨0, (), rfl, Or.inr (Or.inl (⟨c2_, c3_, rfl⟩)), trivial⟩, hS.F ht⟩) hS.2.2 dX10_holdsValue_24
    · skip
      exfalso
      have z0_ := tz_nlt_r c2_ (show (0 : Int32).toInt = 0 by decide)
      have z1_ := tz_le_l c3_ (show (1 : Int32).toInt = 1 by decide)
      have z2_ := tz_eq_r c18_ (show (0 : Int32).toInt = 0 by decide)
      omega
    · skip
      exact absurd c21_ (by decide)
  · skip
    subst c4_
    refine lv_if_ne (tgt := 19) hx hb dX10_holdsValue_6 (by decide) (fun c9_ => absurd c9_ (by decide)) (fun _ => ?_)
    refine lv_aload_n hx hb dX10_holdsValue_9 rfl (lv_at hl 0 rfl) ?_
    refine lv_iload_n hx hb dX10_holdsValue_10 rfl (lv_at hl 1 rfl) ?_
    refine lv_bipush (v := 6) hx hb dX10_holdsValue_11 (by decide) ?_
    refine tk_pi (va_runV (As := [.int 0, .int 6]) (rest := []) ⟨hx, hb, hml, hown, hts⟩ (c_X10_is l dC dI cy a g 0 6) (cwV 2 hts gX10_holdsValue_X10_is rfl rfl rfl (by decide +kernel) ⟨Nat.le_of_ble_eq_true rfl, Nat.le_of_ble_eq_true rfl⟩) (pv_pp hC hP (ci := 10) (q0 := 21) rfl rfl) rfl rfl hl.1 rfl (lv_room (Nat.le_of_ble_eq_true rfl)) dX10_holdsValue_13 ⟨Nat.le_of_ble_eq_true rfl, Nat.le_of_ble_eq_true rfl⟩) hP hS (fun r_ H locs hw hP hS => ?_)
    rcases hw with ⟨c22_, rfl⟩ | ⟨-, c24_, rfl⟩ | ⟨-, -, rfl⟩ | ⟨-, c28_, rfl⟩
    · skip
      exact absurd c22_ (by decide)
    · skip
      exact absurd c24_ (by decide)
    · skip
      refine lv_if_eq (tgt := 23) hx hb dX10_holdsValue_16 (by decide) (fun _ => ?_) (fun c9_ => absurd (by decide) c9_)
      refine lv_iconst (v := 0) hx hb dX10_holdsValue_23 (by decide) ?_
      exact W.zret (v := 0) (ty := .boolean) hx hb hr rfl (fun t ht hW => ⟨⟨0, (), rfl, Or.inr (Or.inr (⟨rfl, rfl⟩)), trivial⟩, hS.F ht⟩) hS.2.2 dX10_holdsValue_24
    · skip
      exact absurd c28_ (by decide)
  · skip
    exact absurd c7_ (by decide)

set_option maxHeartbeats 4000000 in
set_option maxRecDepth 100000 in
theorem c_X10_child (l : Launch) (dC : Nat → ClassId) (dI : Nat → Nat → Nat) (cy : Nat → ClassId) (a : Nat → Nat) (g : Nat → Nat → Option Nat) (p0 p1 : Int32) : Met l yX10_child wsX10_child ({ frames := 0, cells := 0, slots := 0, locals := 0 }) (va_Pc [.ref (a 21), .int p0, .int p1, .int 1] (pp dC dI cy (fw a cy g))) (va_Qi (fun (r : Int32) (_ : Unit) => r = (-1)) (fun _ _ => True) (fun _ => False)) 0 0 (fun _ => False) := by
  refine Met.ofW (cc := cX10_child) (maxL := 5) (ret := (some .int)) (by decide) rfl ?_
  intro p e s m args below meth c s₁ B hml hv
  obtain ⟨rfl, hP, hC⟩ := hv
  have hK := hC.1
  have hx := B.exec
  have hb := B.bytes
  have hr := B.returns
  have hts := atoms_spec (ws := wsX10_child) B.pre
  have hown : s.vm.findClass RX10 = some m.cls := findClass_of_methodNamed B.named
  have hlocks := B.notSynchronized
  have hS : va_S (fun _ => False) s.heap s.heap [] := va_S.rf
  have hl := lv_entry ([.ref (a 21), .int p0, .int p1, .int 1]) (n := 5) (Nat.le_of_ble_eq_true rfl)
  rw [lg_entry_eq]
  generalize (lg_sl ([.ref (a 21), .int p0, .int p1, .int 1]) ++ List.replicate (5 - (lg_sl ([.ref (a 21), .int p0, .int p1, .int 1])).length) Slot.unset).toArray = ls at hl ⊢
  have hl : lv_has ls 5 [(0, .ref (a 21)), (1, .int p0), (2, .int p1), (3, .int 1)] := hl
  refine lv_iconst (v := 1) hx hb dX10_child_0 (by decide) ?_
  refine lv_istore (lv' := [(4, .int 1), (0, .ref (a 21)), (1, .int p0), (2, .int p1), (3, .int 1)]) hx hb dX10_child_1 hl (by decide) rfl (fun ls hl => ?_)
  refine lv_iload hx hb dX10_child_3 (lv_at hl 0 rfl) ?_
  refine lv_iload_n hx hb dX10_child_5 rfl (lv_at hl 4 rfl) ?_
  refine lv_icmp_ge (tgt := 46) hx hb dX10_child_6 (by decide) (fun _ => ?_) (fun c9_ => absurd (by decide) c9_)
  refine lv_iconst (v := (-1)) hx hb dX10_child_46 (by decide) ?_
  exact W.iret (v := (-1)) hx hb hr (fun t ht hW => ⟨⟨(-1), (), rfl, rfl, trivial⟩, hS.F ht⟩) hS.2.2 dX10_child_47

set_option maxHeartbeats 4000000 in
set_option maxRecDepth 100000 in
theorem c_X10_find (l : Launch) (dC : Nat → ClassId) (dI : Nat → Nat → Nat) (cy : Nat → ClassId) (a : Nat → Nat) (g : Nat → Nat → Option Nat) (p1 : Int32) : Met l yX10_find wsX10_find ({ frames := 1, cells := 0, slots := 0, locals := 24 }) (va_Pc [.ref (a 21), .int 0, .int p1] (pp dC dI cy (fw a cy g))) (va_Qi (fun (r : Int32) (_ : Unit) => r = (-1)) (fun _ _ => True) (fun _ => False)) 0 0 (fun _ => False) := by
  refine Met.ofW (cc := cX10_find) (maxL := 6) (ret := (some .int)) (by decide) rfl ?_
  intro p e s m args below meth c s₁ B hml hv
  obtain ⟨rfl, hP, hC⟩ := hv
  have hK := hC.1
  have hx := B.exec
  have hb := B.bytes
  have hr := B.returns
  have hts := atoms_spec (ws := wsX10_find) B.pre
  have hown : s.vm.findClass RX10 = some m.cls := findClass_of_methodNamed B.named
  have hlocks := B.notSynchronized
  have hS : va_S (fun _ => False) s.heap s.heap [] := va_S.rf
  have hl := lv_entry ([.ref (a 21), .int 0, .int p1]) (n := 6) (Nat.le_of_ble_eq_true rfl)
  rw [lg_entry_eq]
  generalize (lg_sl ([.ref (a 21), .int 0, .int p1]) ++ List.replicate (6 - (lg_sl ([.ref (a 21), .int 0, .int p1])).length) Slot.unset).toArray = ls at hl ⊢
  have hl : lv_has ls 6 [(0, .ref (a 21)), (1, .int 0), (2, .int p1)] := hl
  refine lv_iload_n hx hb dX10_find_0 rfl (lv_at hl 1 rfl) ?_
  refine lv_istore_n (lv' := [(3, .int 0), (0, .ref (a 21)), (1, .int 0), (2, .int p1)]) hx hb dX10_find_1 rfl hl (by decide) rfl (fun ls hl => ?_)
  refine lv_iconst (v := 0) hx hb dX10_find_2 (by decide) ?_
  refine lv_istore (lv' := [(4, .int 0), (3, .int 0), (0, .ref (a 21)), (1, .int 0), (2, .int p1)]) hx hb dX10_find_3 hl (by decide) rfl (fun ls hl => ?_)
  refine lv_iload hx hb dX10_find_5 (lv_at hl 0 rfl) ?_
  refine lv_bipush (v := 32) hx hb dX10_find_7 (by decide) ?_
  refine lv_icmp_ge (tgt := 57) hx hb dX10_find_9 (by decide) (fun c9_ => absurd c9_ (by decide)) (fun _ => ?_)
  refine lv_iload_n hx hb dX10_find_12 rfl (lv_at hl 1 rfl) ?_
  refine lv_iconst (v := (-1)) hx hb dX10_find_13 (by decide) ?_
  refine lv_icmp_eq (tgt := 57) hx hb dX10_find_14 (by decide) (fun c9_ => absurd c9_ (by decide)) (fun _ => ?_)
  refine lv_aload_n hx hb dX10_find_17 rfl (lv_at hl 2 rfl) ?_
  refine lv_iload_n hx hb dX10_find_18 rfl (lv_at hl 1 rfl) ?_
  refine lv_iload_n hx hb dX10_find_19 rfl (lv_at hl 4 rfl) ?_
  refine lv_aload_n hx hb dX10_find_20 rfl (lv_at hl 2 rfl) ?_
  refine va_get (D := (dC, dI)) (ci := 10) (v := .ref (a 1)) (C := RX10) (T := TX10) (N := 2) hx hb hts i_X10_find_X10 hown hK hP 21 rfl rfl 1 (by decide) (hts _ m_X10_find_1) (fun _ h9 => h9) rfl dX10_find_21 ?_
  refine va_get (D := (dC, dI)) (ci := 8) (v := .int 1) (C := RX8) (T := TX8) (N := 17) hx hb hts i_X10_find_X8 hown hK hP 1 rfl rfl 0 (by decide) (hts _ m_X10_find_2) (fun _ h9 => h9) rfl dX10_find_24 ?_
  refine tk_pi (va_runV (As := [.int 0, .int p1, .int 1]) (rest := []) ⟨hx, hb, hml, hown, hts⟩ (c_X10_child l dC dI cy a g 0 p1) (cwV 3 hts gX10_find_X10_child rfl rfl rfl (by decide +kernel) ⟨Nat.le_of_ble_eq_true rfl, Nat.le_of_ble_eq_true rfl⟩) (pv_pp hC hP (ci := 10) (q0 := 21) rfl rfl) rfl rfl hl.1 rfl (lv_room (Nat.le_of_ble_eq_true rfl)) dX10_find_27 ⟨Nat.le_of_ble_eq_true rfl, Nat.le_of_ble_eq_true rfl⟩) hP hS (fun r_ H locs hw hP hS => ?_)
  subst hw
  refine lv_istore (lv' := [(5, .int (-1)), (4, .int 0), (3, .int 0), (0, .ref (a 21)), (1, .int 0), (2, .int p1)]) hx hb dX10_find_30 hl (by decide) rfl (fun ls hl => ?_)
  refine lv_iload hx hb dX10_find_32 (lv_at hl 0 rfl) ?_
  refine lv_iconst (v := (-1)) hx hb dX10_find_34 (by decide) ?_
  refine lv_icmp_eq (tgt := 41) hx hb dX10_find_35 (by decide) (fun _ => ?_) (fun c9_ => absurd (by decide) c9_)
  refine lv_aload_n hx hb dX10_find_41 rfl (lv_at hl 3 rfl) ?_
  refine va_get (D := (dC, dI)) (ci := 10) (v := .ref (a 22)) (C := RX10) (T := TX10) (N := 2) hx hb hts i_X10_find_X10 hown hK hP 21 rfl rfl 0 (by decide) (hts _ m_X10_find_3) (fun _ h9 => h9) rfl dX10_find_42 ?_
  refine lv_iload_n hx hb dX10_find_45 rfl (lv_at hl 2 rfl) ?_
  refine va_aldq hx hb hK hP 22 1 rfl rfl (show ¬ ((0 : Int32) < 0 ∨ 32 ≤ Int32.toNatClampNeg 0) by decide) dX10_find_46 ?_
  refine tk_v (.ref (a 23)) (by rfl) ?_
  refine va_get (D := (dC, dI)) (ci := 4) (v := .int (-1)) (C := RX4) (T := TX4) (N := 14) hx hb hts i_X10_find_X4 hown hK hP 23 rfl rfl 2 (by decide) (hts _ m_X10_find_4) (fun _ h9 => h9) rfl dX10_find_47 ?_
  refine lv_istore_n (lv' := [(3, .int (-1)), (5, .int (-1)), (4, .int 0), (0, .ref (a 21)), (1, .int 0), (2, .int p1)]) hx hb dX10_find_50 rfl hl (by decide) rfl (fun ls hl => ?_)
  refine lv_iinc (v := 1) (lv' := [(4, .int 1), (3, .int (-1)), (5, .int (-1)), (0, .ref (a 21)), (1, .int 0), (2, .int p1)]) hx hb dX10_find_51 hl (k := 2) rfl (by decide) (by decide) rfl (fun ls hl => ?_)
  refine lv_goto (tgt := 5) hx hb dX10_find_54 (by decide) ?_
  refine lv_iload hx hb dX10_find_5 (lv_at hl 0 rfl) ?_
  refine lv_bipush (v := 32) hx hb dX10_find_7 (by decide) ?_
  refine lv_icmp_ge (tgt := 57) hx hb dX10_find_9 (by decide) (fun c9_ => absurd c9_ (by decide)) (fun _ => ?_)
  refine lv_iload_n hx hb dX10_find_12 rfl (lv_at hl 1 rfl) ?_
  refine lv_iconst (v := (-1)) hx hb dX10_find_13 (by decide) ?_
  refine lv_icmp_eq (tgt := 57) hx hb dX10_find_14 (by decide) (fun _ => ?_) (fun c9_ => absurd (by decide) c9_)
  refine lv_iconst (v := (-1)) hx hb dX10_find_57 (by decide) ?_
  exact W.iret (v := (-1)) hx hb hr (fun t ht hW => ⟨⟨(-1), (), rfl, rfl, trivial⟩, hS.F ht⟩) hS.2.2 dX10_find_58

set_option maxHeartbeats 4000000 in
set_option maxRecDepth 100000 in
theorem c_X10_own (l : Launch) (dC : Nat → ClassId) (dI : Nat → Nat → Nat) (cy : Nat → ClassId) (a : Nat → Nat) (g : Nat → Nat → Option Nat) (p1 p2 : Int32) : Met l yX10_own wsX10_own ({ frames := 1, cells := 0, slots := 0, locals := 24 }) (va_Pc [.ref (a 21), .int 0, .int p1, .int p2] (pp dC dI cy (fw a cy g))) (va_Qi (fun (r : Int32) (_ : Unit) => r = (-1)) (fun _ _ => True) (fun _ => False)) 0 0 (fun _ => False) := by
  refine Met.ofW (cc := cX10_own) (maxL := 5) (ret := (some .int)) (by decide) rfl ?_
  intro p e s m args below meth c s₁ B hml hv
  obtain ⟨rfl, hP, hC⟩ := hv
  have hK := hC.1
  have hx := B.exec
  have hb := B.bytes
  have hr := B.returns
  have hts := atoms_spec (ws := wsX10_own) B.pre
  have hown : s.vm.findClass RX10 = some m.cls := findClass_of_methodNamed B.named
  have hlocks := B.notSynchronized
  have hS : va_S (fun _ => False) s.heap s.heap [] := va_S.rf
  have hl := lv_entry ([.ref (a 21), .int 0, .int p1, .int p2]) (n := 5) (Nat.le_of_ble_eq_true rfl)
  rw [lg_entry_eq]
  generalize (lg_sl ([.ref (a 21), .int 0, .int p1, .int p2]) ++ List.replicate (5 - (lg_sl ([.ref (a 21), .int 0, .int p1, .int p2])).length) Slot.unset).toArray = ls at hl ⊢
  have hl : lv_has ls 5 [(0, .ref (a 21)), (1, .int 0), (2, .int p1), (3, .int p2)] := hl
  refine lv_aload_n hx hb dX10_own_0 rfl (lv_at hl 0 rfl) ?_
  refine lv_iload_n hx hb dX10_own_1 rfl (lv_at hl 1 rfl) ?_
  refine lv_iload_n hx hb dX10_own_2 rfl (lv_at hl 2 rfl) ?_
  refine lv_aload_n hx hb dX10_own_3 rfl (lv_at hl 0 rfl) ?_
  refine va_get (D := (dC, dI)) (ci := 10) (v := .ref (a 1)) (C := RX10) (T := TX10) (N := 2) hx hb hts i_X10_own_X10 hown hK hP 21 rfl rfl 1 (by decide) (hts _ m_X10_own_1) (fun _ h9 => h9) rfl dX10_own_4 ?_
  refine va_get (D := (dC, dI)) (ci := 8) (v := .int 1) (C := RX8) (T := TX8) (N := 17) hx hb hts i_X10_own_X8 hown hK hP 1 rfl rfl 0 (by decide) (hts _ m_X10_own_2) (fun _ h9 => h9) rfl dX10_own_7 ?_
  refine tk_pi (va_runV (As := [.int 0, .int p1, .int 1]) (rest := []) ⟨hx, hb, hml, hown, hts⟩ (c_X10_child l dC dI cy a g 0 p1) (cwV 3 hts gX10_own_X10_child rfl rfl rfl (by decide +kernel) ⟨Nat.le_of_ble_eq_true rfl, Nat.le_of_ble_eq_true rfl⟩) (pv_pp hC hP (ci := 10) (q0 := 21) rfl rfl) rfl rfl hl.1 rfl (lv_room (Nat.le_of_ble_eq_true rfl)) dX10_own_10 ⟨Nat.le_of_ble_eq_true rfl, Nat.le_of_ble_eq_true rfl⟩) hP hS (fun r_ H locs hw hP hS => ?_)
  subst hw
  refine lv_istore (lv' := [(4, .int (-1)), (0, .ref (a 21)), (1, .int 0), (2, .int p1), (3, .int p2)]) hx hb dX10_own_13 hl (by decide) rfl (fun ls hl => ?_)
  refine lv_iload hx hb dX10_own_15 (lv_at hl 0 rfl) ?_
  refine lv_iconst (v := (-1)) hx hb dX10_own_17 (by decide) ?_
  refine lv_icmp_eq (tgt := 40) hx hb dX10_own_18 (by decide) (fun _ => ?_) (fun c9_ => absurd (by decide) c9_)
  refine lv_iconst (v := (-1)) hx hb dX10_own_40 (by decide) ?_
  exact W.iret (v := (-1)) hx hb hr (fun t ht hW => ⟨⟨(-1), (), rfl, rfl, trivial⟩, hS.F ht⟩) hS.2.2 dX10_own_41

set_option maxHeartbeats 4000000 in
set_option maxRecDepth 100000 in
theorem c_X10_devices (l : Launch) (dC : Nat → ClassId) (dI : Nat → Nat → Nat) (cy : Nat → ClassId) (a : Nat → Nat) (g : Nat → Nat → Option Nat) : Met l yX10_devices wsX10_devices ({ frames := 0, cells := 0, slots := 0, locals := 0 }) (va_Pc [.ref (a 21)] (pp dC dI cy (fw a cy g))) (va_Qi (fun (r : Int32) (_ : Unit) => r = 1) (fun _ _ => True) (fun _ => False)) 0 0 (fun _ => False) := by
  refine Met.ofW (cc := cX10_devices) (maxL := 3) (ret := (some .int)) (by decide) rfl ?_
  intro p e s m args below meth c s₁ B hml hv
  obtain ⟨rfl, hP, hC⟩ := hv
  have hK := hC.1
  have hx := B.exec
  have hb := B.bytes
  have hr := B.returns
  have hts := atoms_spec (ws := wsX10_devices) B.pre
  have hown : s.vm.findClass RX10 = some m.cls := findClass_of_methodNamed B.named
  have hlocks := B.notSynchronized
  have hS : va_S (fun _ => False) s.heap s.heap [] := va_S.rf
  have hl := lv_entry ([.ref (a 21)]) (n := 3) (Nat.le_of_ble_eq_true rfl)
  rw [lg_entry_eq]
  generalize (lg_sl ([.ref (a 21)]) ++ List.replicate (3 - (lg_sl ([.ref (a 21)])).length) Slot.unset).toArray = ls at hl ⊢
  have hl : lv_has ls 3 [(0, .ref (a 21))] := hl
  refine lv_iconst (v := 0) hx hb dX10_devices_0 (by decide) ?_
  refine lv_istore_n (lv' := [(1, .int 0), (0, .ref (a 21))]) hx hb dX10_devices_1 rfl hl (by decide) rfl (fun ls hl => ?_)
  refine lv_iconst (v := 0) hx hb dX10_devices_2 (by decide) ?_
  refine lv_istore_n (lv' := [(2, .int 0), (1, .int 0), (0, .ref (a 21))]) hx hb dX10_devices_3 rfl hl (by decide) rfl (fun ls hl => ?_)
  refine lv_iload_n hx hb dX10_devices_4 rfl (lv_at hl 0 rfl) ?_
  refine lv_aload_n hx hb dX10_devices_5 rfl (lv_at hl 2 rfl) ?_
  refine va_get (D := (dC, dI)) (ci := 10) (v := .ref (a 1)) (C := RX10) (T := TX10) (N := 2) hx hb hts i_X10_devices_X10 hown hK hP 21 rfl rfl 1 (by decide) (hts _ m_X10_devices_1) (fun _ h9 => h9) rfl dX10_devices_6 ?_
  refine va_get (D := (dC, dI)) (ci := 8) (v := .int 1) (C := RX8) (T := TX8) (N := 17) hx hb hts i_X10_devices_X8 hown hK hP 1 rfl rfl 0 (by decide) (hts _ m_X10_devices_2) (fun _ h9 => h9) rfl dX10_devices_9 ?_
  refine lv_icmp_ge (tgt := 42) hx hb dX10_devices_12 (by decide) (fun c9_ => absurd c9_ (by decide)) (fun _ => ?_)
  refine lv_iload_n hx hb dX10_devices_15 rfl (lv_at hl 1 rfl) ?_
  refine lv_aload_n hx hb dX10_devices_16 rfl (lv_at hl 2 rfl) ?_
  refine va_get (D := (dC, dI)) (ci := 10) (v := .ref (a 22)) (C := RX10) (T := TX10) (N := 2) hx hb hts i_X10_devices_X10 hown hK hP 21 rfl rfl 0 (by decide) (hts _ m_X10_devices_3) (fun _ h9 => h9) rfl dX10_devices_17 ?_
  refine lv_iload_n hx hb dX10_devices_20 rfl (lv_at hl 0 rfl) ?_
  refine va_aldq hx hb hK hP 22 1 rfl rfl (show ¬ ((0 : Int32) < 0 ∨ 32 ≤ Int32.toNatClampNeg 0) by decide) dX10_devices_21 ?_
  refine tk_v (.ref (a 23)) (by rfl) ?_
  refine va_get (D := (dC, dI)) (ci := 4) (v := .int 1) (C := RX4) (T := TX4) (N := 14) hx hb hts i_X10_devices_X4 hown hK hP 23 rfl rfl 0 (by decide) (hts _ m_X10_devices_4) (fun _ h9 => h9) rfl dX10_devices_22 ?_
  refine lv_iconst (v := 1) hx hb dX10_devices_25 (by decide) ?_
  refine lv_icmp_ne (tgt := 33) hx hb dX10_devices_26 (by decide) (fun c9_ => absurd c9_ (by decide)) (fun _ => ?_)
  refine lv_iconst (v := 1) hx hb dX10_devices_29 (by decide) ?_
  refine lv_goto (tgt := 34) hx hb dX10_devices_30 (by decide) ?_
  refine lv_iadd hx hb dX10_devices_34 ?_
  refine tk_i 1 (by decide) ?_
  refine lv_istore_n (lv' := [(1, .int 1), (2, .int 0), (0, .ref (a 21))]) hx hb dX10_devices_35 rfl hl (by decide) rfl (fun ls hl => ?_)
  refine lv_iinc (v := 1) (lv' := [(2, .int 1), (1, .int 1), (0, .ref (a 21))]) hx hb dX10_devices_36 hl (k := 1) rfl (by decide) (by decide) rfl (fun ls hl => ?_)
  refine lv_goto (tgt := 4) hx hb dX10_devices_39 (by decide) ?_
  refine lv_iload_n hx hb dX10_devices_4 rfl (lv_at hl 0 rfl) ?_
  refine lv_aload_n hx hb dX10_devices_5 rfl (lv_at hl 2 rfl) ?_
  refine va_get (D := (dC, dI)) (ci := 10) (v := .ref (a 1)) (C := RX10) (T := TX10) (N := 2) hx hb hts i_X10_devices_X10 hown hK hP 21 rfl rfl 1 (by decide) (hts _ m_X10_devices_1) (fun _ h9 => h9) rfl dX10_devices_6 ?_
  refine va_get (D := (dC, dI)) (ci := 8) (v := .int 1) (C := RX8) (T := TX8) (N := 17) hx hb hts i_X10_devices_X8 hown hK hP 1 rfl rfl 0 (by decide) (hts _ m_X10_devices_2) (fun _ h9 => h9) rfl dX10_devices_9 ?_
  refine lv_icmp_ge (tgt := 42) hx hb dX10_devices_12 (by decide) (fun _ => ?_) (fun c9_ => absurd (by decide) c9_)
  refine lv_iload_n hx hb dX10_devices_42 rfl (lv_at hl 1 rfl) ?_
  exact W.iret (v := 1) hx hb hr (fun t ht hW => ⟨⟨1, (), rfl, rfl, trivial⟩, hS.F ht⟩) hS.2.2 dX10_devices_43

set_option maxHeartbeats 4000000 in
set_option maxRecDepth 100000 in
theorem c_X11_isValue (l : Launch) (dC : Nat → ClassId) (dI : Nat → Nat → Nat) (cy : Nat → ClassId)  (p0 : Int32) : Met l yX11_isValue wsX11_isValue ({ frames := 0, cells := 0, slots := 0, locals := 0 }) (va_Pc [.int p0] (pp dC dI cy ([]))) (va_Qi (fun (r : Int32) (_ : Unit) => ((p0 < 0) ∧ r = 0) ∨ ((¬ p0 < 0) ∧ ((65536 : Int32) ≤ p0) ∧ r = 0) ∨ ((¬ p0 < 0) ∧ (¬ (65536 : Int32) ≤ p0) ∧ r = 1)) (fun _ _ => True) (fun _ => False)) 0 0 (fun _ => False) := by
  refine Met.ofW (cc := cX11_isValue) (maxL := 1) (ret := (some .boolean)) (by decide) rfl ?_
  intro p e s m args below meth c s₁ B hml hv
  obtain ⟨rfl, hP, hC⟩ := hv
  have hK := hC.1
  have hx := B.exec
  have hb := B.bytes
  have hr := B.returns
  have hts := atoms_spec (ws := wsX11_isValue) B.pre
  have hown : s.vm.findClass RX11 = some m.cls := findClass_of_methodNamed B.named
  have hlocks := B.notSynchronized
  have hS : va_S (fun _ => False) s.heap s.heap [] := va_S.rf
  have hl := lv_entry ([.int p0]) (n := 1) (Nat.le_of_ble_eq_true rfl)
  rw [lg_entry_eq]
  generalize (lg_sl ([.int p0]) ++ List.replicate (1 - (lg_sl ([.int p0])).length) Slot.unset).toArray = ls at hl ⊢
  have hl : lv_has ls 1 [(0, .int p0)] := hl
  refine lv_iload_n hx hb dX11_isValue_0 rfl (lv_at hl 0 rfl) ?_
  refine lv_if_lt (tgt := 15) hx hb dX11_isValue_1 (by decide) (fun c1_ => ?_) (fun c1_ => ?_)
  · skip
    refine lv_iconst (v := 0) hx hb dX11_isValue_15 (by decide) ?_
    exact W.zret (v := 0) (ty := .boolean) hx hb hr rfl (fun t ht hW => ⟨⟨0, (), rfl, Or.inl (⟨c1_, rfl⟩), trivial⟩, hS.F ht⟩) hS.2.2 dX11_isValue_16
  · skip
    refine lv_iload_n hx hb dX11_isValue_4 rfl (lv_at hl 0 rfl) ?_
    refine lv_ldcw (v := 65536) hx hb hown (hts _ m_X11_isValue_1) dX11_isValue_5 ?_
    refine lv_icmp_ge (tgt := 15) hx hb dX11_isValue_8 (by decide) (fun c2_ => ?_) (fun c2_ => ?_)
    · skip
      refine lv_iconst (v := 0) hx hb dX11_isValue_15 (by decide) ?_
      exact W.zret (v := 0) (ty := .boolean) hx hb hr rfl (fun t ht hW => ⟨⟨0, (), rfl, Or.inr (Or.inl (⟨c1_, c2_, rfl⟩)), trivial⟩, hS.F ht⟩) hS.2.2 dX11_isValue_16
    · skip
      refine lv_iconst (v := 1) hx hb dX11_isValue_11 (by decide) ?_
      refine lv_goto (tgt := 16) hx hb dX11_isValue_12 (by decide) ?_
      exact W.zret (v := 1) (ty := .boolean) hx hb hr rfl (fun t ht hW => ⟨⟨1, (), rfl, Or.inr (Or.inr (⟨c1_, c2_, rfl⟩)), trivial⟩, hS.F ht⟩) hS.2.2 dX11_isValue_16

set_option maxHeartbeats 4000000 in
set_option maxRecDepth 100000 in
theorem c_X11_isLine (l : Launch) (dC : Nat → ClassId) (dI : Nat → Nat → Nat) (cy : Nat → ClassId)  (p0 : Int32) : Met l yX11_isLine wsX11_isLine ({ frames := 0, cells := 0, slots := 0, locals := 0 }) (va_Pc [.int p0] (pp dC dI cy ([]))) (va_Qi (fun (r : Int32) (_ : Unit) => ((p0 < 0) ∧ r = 0) ∨ ((¬ p0 < 0) ∧ ((8 : Int32) ≤ p0) ∧ r = 0) ∨ ((¬ p0 < 0) ∧ (¬ (8 : Int32) ≤ p0) ∧ r = 1)) (fun _ _ => True) (fun _ => False)) 0 0 (fun _ => False) := by
  refine Met.ofW (cc := cX11_isLine) (maxL := 1) (ret := (some .boolean)) (by decide) rfl ?_
  intro p e s m args below meth c s₁ B hml hv
  obtain ⟨rfl, hP, hC⟩ := hv
  have hK := hC.1
  have hx := B.exec
  have hb := B.bytes
  have hr := B.returns
  have hts := atoms_spec (ws := wsX11_isLine) B.pre
  have hown : s.vm.findClass RX11 = some m.cls := findClass_of_methodNamed B.named
  have hlocks := B.notSynchronized
  have hS : va_S (fun _ => False) s.heap s.heap [] := va_S.rf
  have hl := lv_entry ([.int p0]) (n := 1) (Nat.le_of_ble_eq_true rfl)
  rw [lg_entry_eq]
  generalize (lg_sl ([.int p0]) ++ List.replicate (1 - (lg_sl ([.int p0])).length) Slot.unset).toArray = ls at hl ⊢
  have hl : lv_has ls 1 [(0, .int p0)] := hl
  refine lv_iload_n hx hb dX11_isLine_0 rfl (lv_at hl 0 rfl) ?_
  refine lv_if_lt (tgt := 14) hx hb dX11_isLine_1 (by decide) (fun c1_ => ?_) (fun c1_ => ?_)
  · skip
    refine lv_iconst (v := 0) hx hb dX11_isLine_14 (by decide) ?_
    exact W.zret (v := 0) (ty := .boolean) hx hb hr rfl (fun t ht hW => ⟨⟨0, (), rfl, Or.inl (⟨c1_, rfl⟩), trivial⟩, hS.F ht⟩) hS.2.2 dX11_isLine_15
  · skip
    refine lv_iload_n hx hb dX11_isLine_4 rfl (lv_at hl 0 rfl) ?_
    refine lv_bipush (v := 8) hx hb dX11_isLine_5 (by decide) ?_
    refine lv_icmp_ge (tgt := 14) hx hb dX11_isLine_7 (by decide) (fun c2_ => ?_) (fun c2_ => ?_)
    · skip
      refine lv_iconst (v := 0) hx hb dX11_isLine_14 (by decide) ?_
      exact W.zret (v := 0) (ty := .boolean) hx hb hr rfl (fun t ht hW => ⟨⟨0, (), rfl, Or.inr (Or.inl (⟨c1_, c2_, rfl⟩)), trivial⟩, hS.F ht⟩) hS.2.2 dX11_isLine_15
    · skip
      refine lv_iconst (v := 1) hx hb dX11_isLine_10 (by decide) ?_
      refine lv_goto (tgt := 15) hx hb dX11_isLine_11 (by decide) ?_
      exact W.zret (v := 1) (ty := .boolean) hx hb hr rfl (fun t ht hW => ⟨⟨1, (), rfl, Or.inr (Or.inr (⟨c1_, c2_, rfl⟩)), trivial⟩, hS.F ht⟩) hS.2.2 dX11_isLine_15

set_option maxHeartbeats 4000000 in
set_option maxRecDepth 100000 in
theorem c_X11_isRaised (l : Launch) (dC : Nat → ClassId) (dI : Nat → Nat → Nat) (cy : Nat → ClassId) (a : Nat → Nat) (g : Nat → Nat → Option Nat) (p0 : Int32) : Met l yX11_isRaised wsX11_isRaised ({ frames := 0, cells := 0, slots := 0, locals := 0 }) (va_Pc [.ref (a 0), .int p0] (pp dC dI cy (fw a cy g))) (va_Qi (fun (r : Int32) (_ : Unit) => r = 0) (fun _ _ => True) (fun _ => False)) 0 0 (fun _ => False) := by
  refine Met.ofW (cc := cX11_isRaised) (maxL := 2) (ret := (some .boolean)) (by decide) rfl ?_
  intro p e s m args below meth c s₁ B hml hv
  obtain ⟨rfl, hP, hC⟩ := hv
  have hK := hC.1
  have hx := B.exec
  have hb := B.bytes
  have hr := B.returns
  have hts := atoms_spec (ws := wsX11_isRaised) B.pre
  have hown : s.vm.findClass RX11 = some m.cls := findClass_of_methodNamed B.named
  have hlocks := B.notSynchronized
  have hS : va_S (fun _ => False) s.heap s.heap [] := va_S.rf
  have hl := lv_entry ([.ref (a 0), .int p0]) (n := 2) (Nat.le_of_ble_eq_true rfl)
  rw [lg_entry_eq]
  generalize (lg_sl ([.ref (a 0), .int p0]) ++ List.replicate (2 - (lg_sl ([.ref (a 0), .int p0])).length) Slot.unset).toArray = ls at hl ⊢
  have hl : lv_has ls 2 [(0, .ref (a 0)), (1, .int p0)] := hl
  refine lv_aload_n hx hb dX11_isRaised_0 rfl (lv_at hl 0 rfl) ?_
  refine va_get (D := (dC, dI)) (ci := 11) (v := .ref (a 1)) (C := RX11) (T := TX11) (N := 11) hx hb hts i_X11_isRaised_X11 hown hK hP 0 rfl rfl 0 (by decide) (hts _ m_X11_isRaised_1) (fun _ h9 => h9) rfl dX11_isRaised_1 ?_
  refine va_get (D := (dC, dI)) (ci := 8) (v := .int 0) (C := RX8) (T := TX8) (N := 17) hx hb hts i_X11_isRaised_X8 hown hK hP 1 rfl rfl 2 (by decide) (hts _ m_X11_isRaised_2) (fun _ h9 => h9) rfl dX11_isRaised_4 ?_
  refine lv_iload_n hx hb dX11_isRaised_7 rfl (lv_at hl 1 rfl) ?_
  refine lv_ishr hx hb dX11_isRaised_8 ?_
  refine tk_i 0 (sh_0 _) ?_
  refine lv_iconst (v := 1) hx hb dX11_isRaised_9 (by decide) ?_
  refine lv_iand hx hb dX11_isRaised_10 ?_
  refine tk_i 0 (by decide) ?_
  refine lv_if_eq (tgt := 18) hx hb dX11_isRaised_11 (by decide) (fun _ => ?_) (fun c9_ => absurd (by decide) c9_)
  refine lv_iconst (v := 0) hx hb dX11_isRaised_18 (by decide) ?_
  exact W.zret (v := 0) (ty := .boolean) hx hb hr rfl (fun t ht hW => ⟨⟨0, (), rfl, rfl, trivial⟩, hS.F ht⟩) hS.2.2 dX11_isRaised_19

set_option maxHeartbeats 4000000 in
set_option maxRecDepth 100000 in
theorem c_X7_numberOf (l : Launch) (dC : Nat → ClassId) (dI : Nat → Nat → Nat) (cy : Nat → ClassId) (a : Nat → Nat) (g : Nat → Nat → Option Nat) (p0 : Int32) : Met l yX7_numberOf wsX7_numberOf ({ frames := 2, cells := 0, slots := 0, locals := 48 }) (va_Pc [.ref (a 31), .int p0] (pp dC dI cy (fw a cy g))) (va_Qi (fun (r : Int32) (_ : Unit) => r = (-1)) (fun _ _ => True) (fun _ => False)) 0 0 (fun _ => False) := by
  refine Met.ofW (cc := cX7_numberOf) (maxL := 2) (ret := (some .int)) (by decide) rfl ?_
  intro p e s m args below meth c s₁ B hml hv
  obtain ⟨rfl, hP, hC⟩ := hv
  have hK := hC.1
  have hx := B.exec
  have hb := B.bytes
  have hr := B.returns
  have hts := atoms_spec (ws := wsX7_numberOf) B.pre
  have hown : s.vm.findClass RX7 = some m.cls := findClass_of_methodNamed B.named
  have hlocks := B.notSynchronized
  have hS : va_S (fun _ => False) s.heap s.heap [] := va_S.rf
  have hl := lv_entry ([.ref (a 31), .int p0]) (n := 2) (Nat.le_of_ble_eq_true rfl)
  rw [lg_entry_eq]
  generalize (lg_sl ([.ref (a 31), .int p0]) ++ List.replicate (2 - (lg_sl ([.ref (a 31), .int p0])).length) Slot.unset).toArray = ls at hl ⊢
  have hl : lv_has ls 2 [(0, .ref (a 31)), (1, .int p0)] := hl
  refine lv_aload_n hx hb dX7_numberOf_0 rfl (lv_at hl 0 rfl) ?_
  refine va_get (D := (dC, dI)) (ci := 7) (v := .ref (a 21)) (C := RX7) (T := TX7) (N := 5) hx hb hts i_X7_numberOf_X7 hown hK hP 31 rfl rfl 0 (by decide) (hts _ m_X7_numberOf_1) (fun _ h9 => h9) rfl dX7_numberOf_1 ?_
  refine lv_iconst (v := 0) hx hb dX7_numberOf_4 (by decide) ?_
  refine lv_bipush (v := 105) hx hb dX7_numberOf_5 (by decide) ?_
  refine lv_iload_n hx hb dX7_numberOf_7 rfl (lv_at hl 1 rfl) ?_
  refine lv_iadd hx hb dX7_numberOf_8 ?_
  refine lv_iconst (v := 1) hx hb dX7_numberOf_9 (by decide) ?_
  refine lv_isub hx hb dX7_numberOf_10 ?_
  refine lv_iconst (v := 4) hx hb dX7_numberOf_11 (by decide) ?_
  refine tk_pi (va_runV (As := [.int 0, .int ((105 + p0) - 1), .int 4]) (rest := []) ⟨hx, hb, hml, hown, hts⟩ (c_X10_own l dC dI cy a g ((105 + p0) - 1) 4) (cwV 3 hts gX7_numberOf_X10_own rfl rfl rfl (by decide +kernel) ⟨Nat.le_of_ble_eq_true rfl, Nat.le_of_ble_eq_true rfl⟩) (pv_pp hC hP (ci := 10) (q0 := 21) rfl rfl) rfl rfl hl.1 rfl (lv_room (Nat.le_of_ble_eq_true rfl)) dX7_numberOf_12 ⟨Nat.le_of_ble_eq_true rfl, Nat.le_of_ble_eq_true rfl⟩) hP hS (fun r_ H locs hw hP hS => ?_)
  subst hw
  exact W.iret (v := (-1)) hx hb hr (fun t ht hW => ⟨⟨(-1), (), rfl, rfl, trivial⟩, hS.F ht⟩) hS.2.2 dX7_numberOf_15

set_option maxHeartbeats 4000000 in
set_option maxRecDepth 100000 in
theorem c_X7_obstacle (l : Launch) (dC : Nat → ClassId) (dI : Nat → Nat → Nat) (cy : Nat → ClassId) (a : Nat → Nat) (g : Nat → Nat → Option Nat) (p0 : Int32) : Met l yX7_obstacle wsX7_obstacle ({ frames := 3, cells := 0, slots := 0, locals := 69 }) (va_Pc [.ref (a 31), .int p0] (pp dC dI cy (fw a cy g))) (va_Qi (fun (r : Int32) (_ : Unit) => r = 1) (fun _ _ => True) (fun _ => False)) 0 0 (fun _ => False) := by
  refine Met.ofW (cc := cX7_obstacle) (maxL := 4) (ret := (some .int)) (by decide) rfl ?_
  intro p e s m args below meth c s₁ B hml hv
  obtain ⟨rfl, hP, hC⟩ := hv
  have hK := hC.1
  have hx := B.exec
  have hb := B.bytes
  have hr := B.returns
  have hts := atoms_spec (ws := wsX7_obstacle) B.pre
  have hown : s.vm.findClass RX7 = some m.cls := findClass_of_methodNamed B.named
  have hlocks := B.notSynchronized
  have hS : va_S (fun _ => False) s.heap s.heap [] := va_S.rf
  have hl := lv_entry ([.ref (a 31), .int p0]) (n := 4) (Nat.le_of_ble_eq_true rfl)
  rw [lg_entry_eq]
  generalize (lg_sl ([.ref (a 31), .int p0]) ++ List.replicate (4 - (lg_sl ([.ref (a 31), .int p0])).length) Slot.unset).toArray = ls at hl ⊢
  have hl : lv_has ls 4 [(0, .ref (a 31)), (1, .int p0)] := hl
  refine lv_aload_n hx hb dX7_obstacle_0 rfl (lv_at hl 0 rfl) ?_
  refine lv_iload_n hx hb dX7_obstacle_1 rfl (lv_at hl 1 rfl) ?_
  refine tk_pi (va_runV (As := [.int p0]) (rest := []) ⟨hx, hb, hml, hown, hts⟩ (c_X7_numberOf l dC dI cy a g p0) (cwV 1 hts gX7_obstacle_X7_numberOf rfl rfl rfl (by decide +kernel) ⟨Nat.le_of_ble_eq_true rfl, Nat.le_of_ble_eq_true rfl⟩) (pv_pp hC hP (ci := 7) (q0 := 31) rfl rfl) rfl rfl hl.1 rfl (lv_room (Nat.le_of_ble_eq_true rfl)) dX7_obstacle_2 ⟨Nat.le_of_ble_eq_true rfl, Nat.le_of_ble_eq_true rfl⟩) hP hS (fun r_ H locs hw hP hS => ?_)
  subst hw
  refine lv_iconst (v := (-1)) hx hb dX7_obstacle_5 (by decide) ?_
  refine lv_icmp_ne (tgt := 11) hx hb dX7_obstacle_6 (by decide) (fun c9_ => absurd c9_ (by decide)) (fun _ => ?_)
  refine lv_iconst (v := 1) hx hb dX7_obstacle_9 (by decide) ?_
  exact W.iret (v := 1) hx hb hr (fun t ht hW => ⟨⟨1, (), rfl, rfl, trivial⟩, hS.F ht⟩) hS.2.2 dX7_obstacle_10

set_option maxHeartbeats 4000000 in
set_option maxRecDepth 100000 in
theorem c_X7_mostAbove (l : Launch) (dC : Nat → ClassId) (dI : Nat → Nat → Nat) (cy : Nat → ClassId) (a : Nat → Nat) (g : Nat → Nat → Option Nat) : Met l yX7_mostAbove wsX7_mostAbove ({ frames := 1, cells := 0, slots := 0, locals := 14 }) (va_Pc [.ref (a 31)] (pp dC dI cy (fw a cy g))) (va_Qi (fun (r : Int32) (_ : Unit) => r = 0) (fun _ _ => True) (fun _ => False)) 0 0 (fun _ => False) := by
  refine Met.ofW (cc := cX7_mostAbove) (maxL := 3) (ret := (some .int)) (by decide) rfl ?_
  intro p e s m args below meth c s₁ B hml hv
  obtain ⟨rfl, hP, hC⟩ := hv
  have hK := hC.1
  have hx := B.exec
  have hb := B.bytes
  have hr := B.returns
  have hts := atoms_spec (ws := wsX7_mostAbove) B.pre
  have hown : s.vm.findClass RX7 = some m.cls := findClass_of_methodNamed B.named
  have hlocks := B.notSynchronized
  have hS : va_S (fun _ => False) s.heap s.heap [] := va_S.rf
  have hl := lv_entry ([.ref (a 31)]) (n := 3) (Nat.le_of_ble_eq_true rfl)
  rw [lg_entry_eq]
  generalize (lg_sl ([.ref (a 31)]) ++ List.replicate (3 - (lg_sl ([.ref (a 31)])).length) Slot.unset).toArray = ls at hl ⊢
  have hl : lv_has ls 3 [(0, .ref (a 31))] := hl
  refine lv_iconst (v := 0) hx hb dX7_mostAbove_0 (by decide) ?_
  refine lv_istore_n (lv' := [(1, .int 0), (0, .ref (a 31))]) hx hb dX7_mostAbove_1 rfl hl (by decide) rfl (fun ls hl => ?_)
  refine lv_iconst (v := 0) hx hb dX7_mostAbove_2 (by decide) ?_
  refine lv_istore_n (lv' := [(2, .int 0), (1, .int 0), (0, .ref (a 31))]) hx hb dX7_mostAbove_3 rfl hl (by decide) rfl (fun ls hl => ?_)
  refine lv_iload_n hx hb dX7_mostAbove_4 rfl (lv_at hl 0 rfl) ?_
  refine lv_aload_n hx hb dX7_mostAbove_5 rfl (lv_at hl 2 rfl) ?_
  refine va_get (D := (dC, dI)) (ci := 7) (v := .ref (a 1)) (C := RX7) (T := TX7) (N := 5) hx hb hts i_X7_mostAbove_X7 hown hK hP 31 rfl rfl 1 (by decide) (hts _ m_X7_mostAbove_1) (fun _ h9 => h9) rfl dX7_mostAbove_6 ?_
  refine va_get (D := (dC, dI)) (ci := 8) (v := .int 1) (C := RX8) (T := TX8) (N := 17) hx hb hts i_X7_mostAbove_X8 hown hK hP 1 rfl rfl 0 (by decide) (hts _ m_X7_mostAbove_2) (fun _ h9 => h9) rfl dX7_mostAbove_9 ?_
  refine lv_icmp_ge (tgt := 38) hx hb dX7_mostAbove_12 (by decide) (fun c9_ => absurd c9_ (by decide)) (fun _ => ?_)
  refine lv_iload_n hx hb dX7_mostAbove_15 rfl (lv_at hl 1 rfl) ?_
  refine lv_aload_n hx hb dX7_mostAbove_16 rfl (lv_at hl 2 rfl) ?_
  refine va_get (D := (dC, dI)) (ci := 7) (v := .ref (a 21)) (C := RX7) (T := TX7) (N := 5) hx hb hts i_X7_mostAbove_X7 hown hK hP 31 rfl rfl 0 (by decide) (hts _ m_X7_mostAbove_3) (fun _ h9 => h9) rfl dX7_mostAbove_17 ?_
  refine va_get (D := (dC, dI)) (ci := 10) (v := .ref (a 22)) (C := RX10) (T := TX10) (N := 2) hx hb hts i_X7_mostAbove_X10 hown hK hP 21 rfl rfl 0 (by decide) (hts _ m_X7_mostAbove_4) (fun _ h9 => h9) rfl dX7_mostAbove_20 ?_
  refine lv_iload_n hx hb dX7_mostAbove_23 rfl (lv_at hl 0 rfl) ?_
  refine va_aldq hx hb hK hP 22 1 rfl rfl (show ¬ ((0 : Int32) < 0 ∨ 32 ≤ Int32.toNatClampNeg 0) by decide) dX7_mostAbove_24 ?_
  refine tk_v (.ref (a 23)) (by rfl) ?_
  refine va_get (D := (dC, dI)) (ci := 4) (v := .int 0) (C := RX4) (T := TX4) (N := 14) hx hb hts i_X7_mostAbove_X4 hown hK hP 23 rfl rfl 3 (by decide) (hts _ m_X7_mostAbove_5) (fun _ h9 => h9) rfl dX7_mostAbove_25 ?_
  refine va_mmax hx hb (hml.trans hl.1.symm) hown (hts _ m_X7_mostAbove_6) (hts _ m_X7_mostAbove_7) (hts _ m_X7_mostAbove_8) (hts _ m_X7_mostAbove_9) (Nat.le_of_ble_eq_true rfl) (Nat.le_of_ble_eq_true rfl) (Nat.le_of_ble_eq_true rfl) (Nat.le_of_ble_eq_true rfl) dX7_mostAbove_28 ?_
  refine tk_i 0 (by decide) ?_
  refine lv_istore_n (lv' := [(1, .int 0), (2, .int 0), (0, .ref (a 31))]) hx hb dX7_mostAbove_31 rfl hl (by decide) rfl (fun ls hl => ?_)
  refine lv_iinc (v := 1) (lv' := [(2, .int 1), (1, .int 0), (0, .ref (a 31))]) hx hb dX7_mostAbove_32 hl (k := 1) rfl (by decide) (by decide) rfl (fun ls hl => ?_)
  refine lv_goto (tgt := 4) hx hb dX7_mostAbove_35 (by decide) ?_
  refine lv_iload_n hx hb dX7_mostAbove_4 rfl (lv_at hl 0 rfl) ?_
  refine lv_aload_n hx hb dX7_mostAbove_5 rfl (lv_at hl 2 rfl) ?_
  refine va_get (D := (dC, dI)) (ci := 7) (v := .ref (a 1)) (C := RX7) (T := TX7) (N := 5) hx hb hts i_X7_mostAbove_X7 hown hK hP 31 rfl rfl 1 (by decide) (hts _ m_X7_mostAbove_1) (fun _ h9 => h9) rfl dX7_mostAbove_6 ?_
  refine va_get (D := (dC, dI)) (ci := 8) (v := .int 1) (C := RX8) (T := TX8) (N := 17) hx hb hts i_X7_mostAbove_X8 hown hK hP 1 rfl rfl 0 (by decide) (hts _ m_X7_mostAbove_2) (fun _ h9 => h9) rfl dX7_mostAbove_9 ?_
  refine lv_icmp_ge (tgt := 38) hx hb dX7_mostAbove_12 (by decide) (fun _ => ?_) (fun c9_ => absurd (by decide) c9_)
  refine lv_iload_n hx hb dX7_mostAbove_38 rfl (lv_at hl 1 rfl) ?_
  exact W.iret (v := 0) hx hb hr (fun t ht hW => ⟨⟨0, (), rfl, rfl, trivial⟩, hS.F ht⟩) hS.2.2 dX7_mostAbove_39

set_option maxHeartbeats 4000000 in
set_option maxRecDepth 100000 in
theorem c_X7_sortDevices (l : Launch) (dC : Nat → ClassId) (dI : Nat → Nat → Nat) (cy : Nat → ClassId) (a : Nat → Nat) (g : Nat → Nat → Option Nat) : Met l yX7_sortDevices wsX7_sortDevices ({ frames := 2, cells := 0, slots := 0, locals := 36 }) (va_Pc [.ref (a 31)] (pp dC dI cy (fw a cy g))) (va_Qi (fun (r : Int32) (_ : Unit) => r = 0) (fun _ _ => True) (fun _ => False)) 0 0 (fun _ => False) := by
  refine Met.ofW (cc := cX7_sortDevices) (maxL := 4) (ret := (some .int)) (by decide) rfl ?_
  intro p e s m args below meth c s₁ B hml hv
  obtain ⟨rfl, hP, hC⟩ := hv
  have hK := hC.1
  have hx := B.exec
  have hb := B.bytes
  have hr := B.returns
  have hts := atoms_spec (ws := wsX7_sortDevices) B.pre
  have hown : s.vm.findClass RX7 = some m.cls := findClass_of_methodNamed B.named
  have hlocks := B.notSynchronized
  have hS : va_S (fun _ => False) s.heap s.heap [] := va_S.rf
  have hl := lv_entry ([.ref (a 31)]) (n := 4) (Nat.le_of_ble_eq_true rfl)
  rw [lg_entry_eq]
  generalize (lg_sl ([.ref (a 31)]) ++ List.replicate (4 - (lg_sl ([.ref (a 31)])).length) Slot.unset).toArray = ls at hl ⊢
  have hl : lv_has ls 4 [(0, .ref (a 31))] := hl
  refine lv_iconst (v := 0) hx hb dX7_sortDevices_0 (by decide) ?_
  refine lv_istore_n (lv' := [(1, .int 0), (0, .ref (a 31))]) hx hb dX7_sortDevices_1 rfl hl (by decide) rfl (fun ls hl => ?_)
  refine lv_aload_n hx hb dX7_sortDevices_2 rfl (lv_at hl 1 rfl) ?_
  refine tk_pi (va_runV (As := []) (rest := []) ⟨hx, hb, hml, hown, hts⟩ (c_X7_mostAbove l dC dI cy a g) (cwV 0 hts gX7_sortDevices_X7_mostAbove rfl rfl rfl (by decide +kernel) ⟨Nat.le_of_ble_eq_true rfl, Nat.le_of_ble_eq_true rfl⟩) (pv_pp hC hP (ci := 7) (q0 := 31) rfl rfl) rfl rfl hl.1 rfl (lv_room (Nat.le_of_ble_eq_true rfl)) dX7_sortDevices_3 ⟨Nat.le_of_ble_eq_true rfl, Nat.le_of_ble_eq_true rfl⟩) hP hS (fun r_ H locs hw hP hS => ?_)
  subst hw
  refine lv_istore_n (lv' := [(2, .int 0), (1, .int 0), (0, .ref (a 31))]) hx hb dX7_sortDevices_6 rfl hl (by decide) rfl (fun ls hl => ?_)
  refine lv_iload_n hx hb dX7_sortDevices_7 rfl (lv_at hl 0 rfl) ?_
  refine lv_if_le (tgt := 79) hx hb dX7_sortDevices_8 (by decide) (fun _ => ?_) (fun c9_ => absurd (by decide) c9_)
  refine lv_iload_n hx hb dX7_sortDevices_79 rfl (lv_at hl 1 rfl) ?_
  exact W.iret (v := 0) hx hb hr (fun t ht hW => ⟨⟨0, (), rfl, rfl, trivial⟩, hS.F ht⟩) hS.2.2 dX7_sortDevices_80

set_option maxHeartbeats 4000000 in
set_option maxRecDepth 100000 in
theorem c_X7_inTurn (l : Launch) (dC : Nat → ClassId) (dI : Nat → Nat → Nat) (cy : Nat → ClassId) (a : Nat → Nat) (g : Nat → Nat → Option Nat) (p0 : Int32) : Met l yX7_inTurn wsX7_inTurn ({ frames := 3, cells := 0, slots := 0, locals := 59 }) (va_Pc [.ref (a 31), .int p0] (pp dC dI cy (fw a cy g))) (va_Qi (fun (r : Int32) (_ : Unit) => ((p0 < 0) ∧ r = (-1)) ∨ ((¬ p0 < 0) ∧ ((0 : Int32) ≤ p0) ∧ r = (-1))) (fun _ _ => True) (fun _ => False)) 0 0 (fun _ => False) := by
  refine Met.ofW (cc := cX7_inTurn) (maxL := 3) (ret := (some .int)) (by decide) rfl ?_
  intro p e s m args below meth c s₁ B hml hv
  obtain ⟨rfl, hP, hC⟩ := hv
  have hK := hC.1
  have hx := B.exec
  have hb := B.bytes
  have hr := B.returns
  have hts := atoms_spec (ws := wsX7_inTurn) B.pre
  have hown : s.vm.findClass RX7 = some m.cls := findClass_of_methodNamed B.named
  have hlocks := B.notSynchronized
  have hS : va_S (fun _ => False) s.heap s.heap [] := va_S.rf
  have hl := lv_entry ([.ref (a 31), .int p0]) (n := 3) (Nat.le_of_ble_eq_true rfl)
  rw [lg_entry_eq]
  generalize (lg_sl ([.ref (a 31), .int p0]) ++ List.replicate (3 - (lg_sl ([.ref (a 31), .int p0])).length) Slot.unset).toArray = ls at hl ⊢
  have hl : lv_has ls 3 [(0, .ref (a 31)), (1, .int p0)] := hl
  refine lv_aload_n hx hb dX7_inTurn_0 rfl (lv_at hl 0 rfl) ?_
  refine tk_pi (va_runV (As := []) (rest := []) ⟨hx, hb, hml, hown, hts⟩ (c_X7_sortDevices l dC dI cy a g) (cwV 0 hts gX7_inTurn_X7_sortDevices rfl rfl rfl (by decide +kernel) ⟨Nat.le_of_ble_eq_true rfl, Nat.le_of_ble_eq_true rfl⟩) (pv_pp hC hP (ci := 7) (q0 := 31) rfl rfl) rfl rfl hl.1 rfl (lv_room (Nat.le_of_ble_eq_true rfl)) dX7_inTurn_1 ⟨Nat.le_of_ble_eq_true rfl, Nat.le_of_ble_eq_true rfl⟩) hP hS (fun r_ H locs hw hP hS => ?_)
  subst hw
  refine lv_istore_n (lv' := [(2, .int 0), (0, .ref (a 31)), (1, .int p0)]) hx hb dX7_inTurn_4 rfl hl (by decide) rfl (fun ls hl => ?_)
  refine lv_iload_n hx hb dX7_inTurn_5 rfl (lv_at hl 2 rfl) ?_
  refine lv_if_lt (tgt := 23) hx hb dX7_inTurn_6 (by decide) (fun c1_ => ?_) (fun c1_ => ?_)
  · skip
    refine lv_iconst (v := (-1)) hx hb dX7_inTurn_23 (by decide) ?_
    exact W.iret (v := (-1)) hx hb hr (fun t ht hW => ⟨⟨(-1), (), rfl, Or.inl (⟨c1_, rfl⟩), trivial⟩, hS.F ht⟩) hS.2.2 dX7_inTurn_24
  · skip
    refine lv_iload_n hx hb dX7_inTurn_9 rfl (lv_at hl 2 rfl) ?_
    refine lv_iload_n hx hb dX7_inTurn_10 rfl (lv_at hl 0 rfl) ?_
    refine lv_icmp_ge (tgt := 23) hx hb dX7_inTurn_11 (by decide) (fun c2_ => ?_) (fun c2_ => ?_)
    · skip
      refine lv_iconst (v := (-1)) hx hb dX7_inTurn_23 (by decide) ?_
      exact W.iret (v := (-1)) hx hb hr (fun t ht hW => ⟨⟨(-1), (), rfl, Or.inr (⟨c1_, c2_, rfl⟩), trivial⟩, hS.F ht⟩) hS.2.2 dX7_inTurn_24
    · skip
      exfalso
      have z0_ := tz_nlt_r c1_ (show (0 : Int32).toInt = 0 by decide)
      have z1_ := tz_nle_l c2_ (show (0 : Int32).toInt = 0 by decide)
      omega

set_option maxHeartbeats 4000000 in
set_option maxRecDepth 100000 in
theorem c_X7_tiedTo (l : Launch) (dC : Nat → ClassId) (dI : Nat → Nat → Nat) (cy : Nat → ClassId) (a : Nat → Nat) (g : Nat → Nat → Option Nat) (p0 : Int32) : Met l yX7_tiedTo wsX7_tiedTo ({ frames := 0, cells := 0, slots := 0, locals := 0 }) (va_Pc [.ref (a 31), .int p0] (pp dC dI cy (fw a cy g))) (va_Qi (fun (r : Int32) (_ : Unit) => ((¬ ((-1) : Int32) = p0) ∧ r = 0) ∨ ((p0 = (-1)) ∧ r = 1)) (fun _ _ => True) (fun _ => False)) 0 0 (fun _ => False) := by
  refine Met.ofW (cc := cX7_tiedTo) (maxL := 4) (ret := (some .int)) (by decide) rfl ?_
  intro p e s m args below meth c s₁ B hml hv
  obtain ⟨rfl, hP, hC⟩ := hv
  have hK := hC.1
  have hx := B.exec
  have hb := B.bytes
  have hr := B.returns
  have hts := atoms_spec (ws := wsX7_tiedTo) B.pre
  have hown : s.vm.findClass RX7 = some m.cls := findClass_of_methodNamed B.named
  have hlocks := B.notSynchronized
  have hS : va_S (fun _ => False) s.heap s.heap [] := va_S.rf
  have hl := lv_entry ([.ref (a 31), .int p0]) (n := 4) (Nat.le_of_ble_eq_true rfl)
  rw [lg_entry_eq]
  generalize (lg_sl ([.ref (a 31), .int p0]) ++ List.replicate (4 - (lg_sl ([.ref (a 31), .int p0])).length) Slot.unset).toArray = ls at hl ⊢
  have hl : lv_has ls 4 [(0, .ref (a 31)), (1, .int p0)] := hl
  refine lv_iconst (v := 0) hx hb dX7_tiedTo_0 (by decide) ?_
  refine lv_istore_n (lv' := [(2, .int 0), (0, .ref (a 31)), (1, .int p0)]) hx hb dX7_tiedTo_1 rfl hl (by decide) rfl (fun ls hl => ?_)
  refine lv_iconst (v := 0) hx hb dX7_tiedTo_2 (by decide) ?_
  refine lv_istore_n (lv' := [(3, .int 0), (2, .int 0), (0, .ref (a 31)), (1, .int p0)]) hx hb dX7_tiedTo_3 rfl hl (by decide) rfl (fun ls hl => ?_)
  refine lv_iload_n hx hb dX7_tiedTo_4 rfl (lv_at hl 0 rfl) ?_
  refine lv_aload_n hx hb dX7_tiedTo_5 rfl (lv_at hl 2 rfl) ?_
  refine va_get (D := (dC, dI)) (ci := 7) (v := .ref (a 1)) (C := RX7) (T := TX7) (N := 5) hx hb hts i_X7_tiedTo_X7 hown hK hP 31 rfl rfl 1 (by decide) (hts _ m_X7_tiedTo_1) (fun _ h9 => h9) rfl dX7_tiedTo_6 ?_
  refine va_get (D := (dC, dI)) (ci := 8) (v := .int 1) (C := RX8) (T := TX8) (N := 17) hx hb hts i_X7_tiedTo_X8 hown hK hP 1 rfl rfl 0 (by decide) (hts _ m_X7_tiedTo_2) (fun _ h9 => h9) rfl dX7_tiedTo_9 ?_
  refine lv_icmp_ge (tgt := 42) hx hb dX7_tiedTo_12 (by decide) (fun c9_ => absurd c9_ (by decide)) (fun _ => ?_)
  refine lv_iload_n hx hb dX7_tiedTo_15 rfl (lv_at hl 1 rfl) ?_
  refine lv_aload_n hx hb dX7_tiedTo_16 rfl (lv_at hl 2 rfl) ?_
  refine va_get (D := (dC, dI)) (ci := 7) (v := .ref (a 1)) (C := RX7) (T := TX7) (N := 5) hx hb hts i_X7_tiedTo_X7 hown hK hP 31 rfl rfl 1 (by decide) (hts _ m_X7_tiedTo_1) (fun _ h9 => h9) rfl dX7_tiedTo_17 ?_
  refine va_get (D := (dC, dI)) (ci := 8) (v := .ref (a 7)) (C := RX8) (T := TX8) (N := 17) hx hb hts i_X7_tiedTo_X8 hown hK hP 1 rfl rfl 8 (by decide) (hts _ m_X7_tiedTo_3) (fun _ h9 => h9) rfl dX7_tiedTo_20 ?_
  refine lv_iload_n hx hb dX7_tiedTo_23 rfl (lv_at hl 0 rfl) ?_
  refine va_iald hx hb hK hP 7 0 rfl rfl (show ¬ ((0 : Int32) < 0 ∨ 32 ≤ Int32.toNatClampNeg 0) by decide) dX7_tiedTo_24 ?_
  refine tk_i (-1) (by rfl) ?_
  refine lv_iload_n hx hb dX7_tiedTo_25 rfl (lv_at hl 3 rfl) ?_
  refine lv_icmp_ne (tgt := 33) hx hb dX7_tiedTo_26 (by decide) (fun c1_ => ?_) (fun c1_ => ?_)
  · skip
    refine lv_iconst (v := 0) hx hb dX7_tiedTo_33 (by decide) ?_
    refine lv_iadd hx hb dX7_tiedTo_34 ?_
    refine tk_i 0 (by decide) ?_
    refine lv_istore_n (lv' := [(2, .int 0), (3, .int 0), (0, .ref (a 31)), (1, .int p0)]) hx hb dX7_tiedTo_35 rfl hl (by decide) rfl (fun ls hl => ?_)
    refine lv_iinc (v := 1) (lv' := [(3, .int 1), (2, .int 0), (0, .ref (a 31)), (1, .int p0)]) hx hb dX7_tiedTo_36 hl (k := 1) rfl (by decide) (by decide) rfl (fun ls hl => ?_)
    refine lv_goto (tgt := 4) hx hb dX7_tiedTo_39 (by decide) ?_
    refine lv_iload_n hx hb dX7_tiedTo_4 rfl (lv_at hl 0 rfl) ?_
    refine lv_aload_n hx hb dX7_tiedTo_5 rfl (lv_at hl 2 rfl) ?_
    refine va_get (D := (dC, dI)) (ci := 7) (v := .ref (a 1)) (C := RX7) (T := TX7) (N := 5) hx hb hts i_X7_tiedTo_X7 hown hK hP 31 rfl rfl 1 (by decide) (hts _ m_X7_tiedTo_1) (fun _ h9 => h9) rfl dX7_tiedTo_6 ?_
    refine va_get (D := (dC, dI)) (ci := 8) (v := .int 1) (C := RX8) (T := TX8) (N := 17) hx hb hts i_X7_tiedTo_X8 hown hK hP 1 rfl rfl 0 (by decide) (hts _ m_X7_tiedTo_2) (fun _ h9 => h9) rfl dX7_tiedTo_9 ?_
    refine lv_icmp_ge (tgt := 42) hx hb dX7_tiedTo_12 (by decide) (fun _ => ?_) (fun c9_ => absurd (by decide) c9_)
    refine lv_iload_n hx hb dX7_tiedTo_42 rfl (lv_at hl 1 rfl) ?_
    exact W.iret (v := 0) hx hb hr (fun t ht hW => ⟨⟨0, (), rfl, Or.inl (⟨c1_, rfl⟩), trivial⟩, hS.F ht⟩) hS.2.2 dX7_tiedTo_43
  · skip
    have e2_ : p0 = (-1) := by
      have z0_ := tz_eq_l c1_ (show ((-1) : Int32).toInt = -1 by decide)
      exact tz_pin (show ((-1) : Int32).toInt = -1 by decide) (by omega)
    subst e2_
    refine lv_iconst (v := 1) hx hb dX7_tiedTo_29 (by decide) ?_
    refine lv_goto (tgt := 34) hx hb dX7_tiedTo_30 (by decide) ?_
    refine lv_iadd hx hb dX7_tiedTo_34 ?_
    refine tk_i 1 (by decide) ?_
    refine lv_istore_n (lv' := [(2, .int 1), (3, .int 0), (0, .ref (a 31)), (1, .int (-1))]) hx hb dX7_tiedTo_35 rfl hl (by decide) rfl (fun ls hl => ?_)
    refine lv_iinc (v := 1) (lv' := [(3, .int 1), (2, .int 1), (0, .ref (a 31)), (1, .int (-1))]) hx hb dX7_tiedTo_36 hl (k := 1) rfl (by decide) (by decide) rfl (fun ls hl => ?_)
    refine lv_goto (tgt := 4) hx hb dX7_tiedTo_39 (by decide) ?_
    refine lv_iload_n hx hb dX7_tiedTo_4 rfl (lv_at hl 0 rfl) ?_
    refine lv_aload_n hx hb dX7_tiedTo_5 rfl (lv_at hl 2 rfl) ?_
    refine va_get (D := (dC, dI)) (ci := 7) (v := .ref (a 1)) (C := RX7) (T := TX7) (N := 5) hx hb hts i_X7_tiedTo_X7 hown hK hP 31 rfl rfl 1 (by decide) (hts _ m_X7_tiedTo_1) (fun _ h9 => h9) rfl dX7_tiedTo_6 ?_
    refine va_get (D := (dC, dI)) (ci := 8) (v := .int 1) (C := RX8) (T := TX8) (N := 17) hx hb hts i_X7_tiedTo_X8 hown hK hP 1 rfl rfl 0 (by decide) (hts _ m_X7_tiedTo_2) (fun _ h9 => h9) rfl dX7_tiedTo_9 ?_
    refine lv_icmp_ge (tgt := 42) hx hb dX7_tiedTo_12 (by decide) (fun _ => ?_) (fun c9_ => absurd (by decide) c9_)
    refine lv_iload_n hx hb dX7_tiedTo_42 rfl (lv_at hl 1 rfl) ?_
    exact W.iret (v := 1) hx hb hr (fun t ht hW => ⟨⟨1, (), rfl, Or.inr (⟨rfl, rfl⟩), trivial⟩, hS.F ht⟩) hS.2.2 dX7_tiedTo_43

set_option maxHeartbeats 4000000 in
set_option maxRecDepth 100000 in
theorem c_X3_told (l : Launch) (dC : Nat → ClassId) (dI : Nat → Nat → Nat) (cy : Nat → ClassId) (a : Nat → Nat) (g : Nat → Nat → Option Nat) (p0 : Int32) : Met l yX3_told wsX3_told ({ frames := 0, cells := 0, slots := 0, locals := 0 }) (va_Pc [.ref (a 28), .int p0] (pp dC dI cy (fw a cy g))) (va_Qi (fun (r : Int32) (_ : Unit) => ((p0 < 0) ∧ (p0 < 10) ∧ r = (-1)) ∨ ((¬ p0 < 0) ∧ ((3 : Int32) ≤ p0) ∧ (p0 < 10) ∧ r = (-1)) ∨ ((¬ p0 < 0) ∧ ((3 : Int32) ≤ p0) ∧ (¬ p0 < 10) ∧ ((10 : Int32) ≤ p0) ∧ r = (-1)) ∨ ((¬ p0 < 0) ∧ (¬ (3 : Int32) ≤ p0) ∧ r = 0)) (fun _ _ => True) (fun _ => False)) 0 0 (fun _ => False) := by
  refine Met.ofW (cc := cX3_told) (maxL := 2) (ret := (some .int)) (by decide) rfl ?_
  intro p e s m args below meth c s₁ B hml hv
  obtain ⟨rfl, hP, hC⟩ := hv
  have hK := hC.1
  have hx := B.exec
  have hb := B.bytes
  have hr := B.returns
  have hts := atoms_spec (ws := wsX3_told) B.pre
  have hown : s.vm.findClass RX3 = some m.cls := findClass_of_methodNamed B.named
  have hlocks := B.notSynchronized
  have hS : va_S (fun _ => False) s.heap s.heap [] := va_S.rf
  have hl := lv_entry ([.ref (a 28), .int p0]) (n := 2) (Nat.le_of_ble_eq_true rfl)
  rw [lg_entry_eq]
  generalize (lg_sl ([.ref (a 28), .int p0]) ++ List.replicate (2 - (lg_sl ([.ref (a 28), .int p0])).length) Slot.unset).toArray = ls at hl ⊢
  have hl : lv_has ls 2 [(0, .ref (a 28)), (1, .int p0)] := hl
  refine lv_iload_n hx hb dX3_told_0 rfl (lv_at hl 1 rfl) ?_
  refine lv_if_lt (tgt := 16) hx hb dX3_told_1 (by decide) (fun c1_ => ?_) (fun c1_ => ?_)
  · skip
    refine lv_iload_n hx hb dX3_told_16 rfl (lv_at hl 1 rfl) ?_
    refine lv_bipush (v := 10) hx hb dX3_told_17 (by decide) ?_
    refine lv_icmp_lt (tgt := 51) hx hb dX3_told_19 (by decide) (fun c2_ => ?_) (fun c2_ => ?_)
    · skip
      refine lv_iconst (v := (-1)) hx hb dX3_told_51 (by decide) ?_
      exact W.iret (v := (-1)) hx hb hr (fun t ht hW => ⟨⟨(-1), (), rfl, Or.inl (⟨c1_, c2_, rfl⟩), trivial⟩, hS.F ht⟩) hS.2.2 dX3_told_52
    · skip
      exfalso
      have z0_ := tz_lt_r c1_ (show (0 : Int32).toInt = 0 by decide)
      have z1_ := tz_nlt_r c2_ (show (10 : Int32).toInt = 10 by decide)
      omega
  · skip
    refine lv_iload_n hx hb dX3_told_4 rfl (lv_at hl 1 rfl) ?_
    refine lv_iconst (v := 3) hx hb dX3_told_5 (by decide) ?_
    refine lv_icmp_ge (tgt := 16) hx hb dX3_told_6 (by decide) (fun c3_ => ?_) (fun c3_ => ?_)
    · skip
      refine lv_iload_n hx hb dX3_told_16 rfl (lv_at hl 1 rfl) ?_
      refine lv_bipush (v := 10) hx hb dX3_told_17 (by decide) ?_
      refine lv_icmp_lt (tgt := 51) hx hb dX3_told_19 (by decide) (fun c4_ => ?_) (fun c4_ => ?_)
      · skip
        refine lv_iconst (v := (-1)) hx hb dX3_told_51 (by decide) ?_
        exact W.iret (v := (-1)) hx hb hr (fun t ht hW => ⟨⟨(-1), (), rfl, Or.inr (Or.inl (⟨c1_, c3_, c4_, rfl⟩)), trivial⟩, hS.F ht⟩) hS.2.2 dX3_told_52
      · skip
        refine lv_iload_n hx hb dX3_told_22 rfl (lv_at hl 1 rfl) ?_
        refine lv_bipush (v := 10) hx hb dX3_told_23 (by decide) ?_
        refine lv_iconst (v := 2) hx hb dX3_told_25 (by decide) ?_
        refine lv_aload_n hx hb dX3_told_26 rfl (lv_at hl 0 rfl) ?_
        refine va_get (D := (dC, dI)) (ci := 3) (v := .ref (a 29)) (C := RX3) (T := TX3) (N := 10) hx hb hts i_X3_told_X3 hown hK hP 28 rfl rfl 7 (by decide) (hts _ m_X3_told_1) (fun _ h9 => h9) rfl dX3_told_27 ?_
        refine lv_iconst (v := 2) hx hb dX3_told_30 (by decide) ?_
        refine va_iald hx hb hK hP 29 0 rfl rfl (show ¬ ((2 : Int32) < 0 ∨ 15 ≤ Int32.toNatClampNeg 2) by decide) dX3_told_31 ?_
        refine tk_i 0 (by rfl) ?_
        refine lv_imul hx hb dX3_told_32 ?_
        refine tk_i 0 (by decide) ?_
        refine lv_iadd hx hb dX3_told_33 ?_
        refine tk_i 10 (by decide) ?_
        refine lv_icmp_ge (tgt := 51) hx hb dX3_told_34 (by decide) (fun c5_ => ?_) (fun c5_ => ?_)
        · skip
          refine lv_iconst (v := (-1)) hx hb dX3_told_51 (by decide) ?_
          exact W.iret (v := (-1)) hx hb hr (fun t ht hW => ⟨⟨(-1), (), rfl, Or.inr (Or.inr (Or.inl (⟨c1_, c3_, c4_, c5_, rfl⟩))), trivial⟩, hS.F ht⟩) hS.2.2 dX3_told_52
        · skip
          exfalso
          have z0_ := tz_nlt_r c1_ (show (0 : Int32).toInt = 0 by decide)
          have z1_ := tz_le_l c3_ (show (3 : Int32).toInt = 3 by decide)
          have z2_ := tz_nlt_r c4_ (show (10 : Int32).toInt = 10 by decide)
          have z3_ := tz_nle_l c5_ (show (10 : Int32).toInt = 10 by decide)
          omega
    · skip
      refine lv_aload_n hx hb dX3_told_9 rfl (lv_at hl 0 rfl) ?_
      refine va_get (D := (dC, dI)) (ci := 3) (v := .ref (a 29)) (C := RX3) (T := TX3) (N := 10) hx hb hts i_X3_told_X3 hown hK hP 28 rfl rfl 7 (by decide) (hts _ m_X3_told_1) (fun _ h9 => h9) rfl dX3_told_10 ?_
      refine lv_iload_n hx hb dX3_told_13 rfl (lv_at hl 1 rfl) ?_
      refine va_iald hx hb hK hP 29 0 rfl rfl (vp_in_iff.mpr (by have z0_ := tz_nlt_r c1_ (show (0 : Int32).toInt = 0 by decide); have z1_ := tz_nle_l c3_ (show (3 : Int32).toInt = 3 by decide); omega)) dX3_told_14 ?_
      refine tk_i 0 (by rfl) ?_
      exact W.iret (v := 0) hx hb hr (fun t ht hW => ⟨⟨0, (), rfl, Or.inr (Or.inr (Or.inr (⟨c1_, c3_, rfl⟩))), trivial⟩, hS.F ht⟩) hS.2.2 dX3_told_15

set_option maxHeartbeats 4000000 in
set_option maxRecDepth 100000 in
theorem c_X3_steps (l : Launch) (dC : Nat → ClassId) (dI : Nat → Nat → Nat) (cy : Nat → ClassId) (a : Nat → Nat) (g : Nat → Nat → Option Nat) : Met l yX3_steps wsX3_steps ({ frames := 0, cells := 0, slots := 0, locals := 0 }) (va_Pc [.ref (a 28)] (pp dC dI cy (fw a cy g))) (va_Qi (fun (r : Int32) (_ : Unit) => r = 0) (fun _ _ => True) (fun _ => False)) 0 0 (fun _ => False) := by
  refine Met.ofW (cc := cX3_steps) (maxL := 1) (ret := (some .int)) (by decide) rfl ?_
  intro p e s m args below meth c s₁ B hml hv
  obtain ⟨rfl, hP, hC⟩ := hv
  have hK := hC.1
  have hx := B.exec
  have hb := B.bytes
  have hr := B.returns
  have hts := atoms_spec (ws := wsX3_steps) B.pre
  have hown : s.vm.findClass RX3 = some m.cls := findClass_of_methodNamed B.named
  have hlocks := B.notSynchronized
  have hS : va_S (fun _ => False) s.heap s.heap [] := va_S.rf
  have hl := lv_entry ([.ref (a 28)]) (n := 1) (Nat.le_of_ble_eq_true rfl)
  rw [lg_entry_eq]
  generalize (lg_sl ([.ref (a 28)]) ++ List.replicate (1 - (lg_sl ([.ref (a 28)])).length) Slot.unset).toArray = ls at hl ⊢
  have hl : lv_has ls 1 [(0, .ref (a 28))] := hl
  refine lv_aload_n hx hb dX3_steps_0 rfl (lv_at hl 0 rfl) ?_
  refine va_get (D := (dC, dI)) (ci := 3) (v := .int 0) (C := RX3) (T := TX3) (N := 10) hx hb hts i_X3_steps_X3 hown hK hP 28 rfl rfl 4 (by decide) (hts _ m_X3_steps_1) (fun _ h9 => h9) rfl dX3_steps_1 ?_
  exact W.iret (v := 0) hx hb hr (fun t ht hW => ⟨⟨0, (), rfl, rfl, trivial⟩, hS.F ht⟩) hS.2.2 dX3_steps_4

set_option maxHeartbeats 4000000 in
set_option maxRecDepth 100000 in
theorem c_X1_kept (l : Launch) (dC : Nat → ClassId) (dI : Nat → Nat → Nat) (cy : Nat → ClassId) (a : Nat → Nat) (g : Nat → Nat → Option Nat) : Met l yX1_kept wsX1_kept ({ frames := 0, cells := 0, slots := 0, locals := 0 }) (va_Pc [.ref (a 32)] (pp dC dI cy (fw a cy g))) (va_Qi (fun (r : Int32) (_ : Unit) => r = 0) (fun _ _ => True) (fun _ => False)) 0 0 (fun _ => False) := by
  refine Met.ofW (cc := cX1_kept) (maxL := 1) (ret := (some .int)) (by decide) rfl ?_
  intro p e s m args below meth c s₁ B hml hv
  obtain ⟨rfl, hP, hC⟩ := hv
  have hK := hC.1
  have hx := B.exec
  have hb := B.bytes
  have hr := B.returns
  have hts := atoms_spec (ws := wsX1_kept) B.pre
  have hown : s.vm.findClass RX1 = some m.cls := findClass_of_methodNamed B.named
  have hlocks := B.notSynchronized
  have hS : va_S (fun _ => False) s.heap s.heap [] := va_S.rf
  have hl := lv_entry ([.ref (a 32)]) (n := 1) (Nat.le_of_ble_eq_true rfl)
  rw [lg_entry_eq]
  generalize (lg_sl ([.ref (a 32)]) ++ List.replicate (1 - (lg_sl ([.ref (a 32)])).length) Slot.unset).toArray = ls at hl ⊢
  have hl : lv_has ls 1 [(0, .ref (a 32))] := hl
  refine lv_aload_n hx hb dX1_kept_0 rfl (lv_at hl 0 rfl) ?_
  refine va_get (D := (dC, dI)) (ci := 1) (v := .int 0) (C := RX1) (T := TX1) (N := 5) hx hb hts i_X1_kept_X1 hown hK hP 32 rfl rfl 3 (by decide) (hts _ m_X1_kept_1) (fun _ h9 => h9) rfl dX1_kept_1 ?_
  exact W.iret (v := 0) hx hb hr (fun t ht hW => ⟨⟨0, (), rfl, rfl, trivial⟩, hS.F ht⟩) hS.2.2 dX1_kept_4

set_option maxHeartbeats 4000000 in
set_option maxRecDepth 100000 in
theorem c_X9_length (l : Launch) (dC : Nat → ClassId) (dI : Nat → Nat → Nat) (cy : Nat → ClassId) (a : Nat → Nat) (g : Nat → Nat → Option Nat) : Met l yX9_length wsX9_length ({ frames := 0, cells := 0, slots := 0, locals := 0 }) (va_Pc [.ref (a 24)] (pp dC dI cy (fw a cy g))) (va_Qi (fun (r : Int32) (_ : Unit) => r = 0) (fun _ _ => True) (fun _ => False)) 0 0 (fun _ => False) := by
  refine Met.ofW (cc := cX9_length) (maxL := 1) (ret := (some .int)) (by decide) rfl ?_
  intro p e s m args below meth c s₁ B hml hv
  obtain ⟨rfl, hP, hC⟩ := hv
  have hK := hC.1
  have hx := B.exec
  have hb := B.bytes
  have hr := B.returns
  have hts := atoms_spec (ws := wsX9_length) B.pre
  have hown : s.vm.findClass RX9 = some m.cls := findClass_of_methodNamed B.named
  have hlocks := B.notSynchronized
  have hS : va_S (fun _ => False) s.heap s.heap [] := va_S.rf
  have hl := lv_entry ([.ref (a 24)]) (n := 1) (Nat.le_of_ble_eq_true rfl)
  rw [lg_entry_eq]
  generalize (lg_sl ([.ref (a 24)]) ++ List.replicate (1 - (lg_sl ([.ref (a 24)])).length) Slot.unset).toArray = ls at hl ⊢
  have hl : lv_has ls 1 [(0, .ref (a 24))] := hl
  refine lv_aload_n hx hb dX9_length_0 rfl (lv_at hl 0 rfl) ?_
  refine va_get (D := (dC, dI)) (ci := 9) (v := .int 0) (C := RX9) (T := TX9) (N := 15) hx hb hts i_X9_length_X9 hown hK hP 24 rfl rfl 2 (by decide) (hts _ m_X9_length_1) (fun _ h9 => h9) rfl dX9_length_1 ?_
  exact W.iret (v := 0) hx hb hr (fun t ht hW => ⟨⟨0, (), rfl, rfl, trivial⟩, hS.F ht⟩) hS.2.2 dX9_length_4

set_option maxHeartbeats 4000000 in
set_option maxRecDepth 100000 in
theorem c_X2_told_n (l : Launch) (dC : Nat → ClassId) (dI : Nat → Nat → Nat) (cy : Nat → ClassId) (a : Nat → Nat) (g : Nat → Nat → Option Nat) (p0 p1 : Int32) : Met l yX2_told wsX2_told ({ frames := 0, cells := 0, slots := 0, locals := 0 }) (va_Pc [.ref (a 15), .int p0, .int p1] (pp dC dI cy (fw a cy g))) (va_Qi (fun (r : Int32) (_ : Unit) => ((p0 < 0) ∧ r = (-1)) ∨ ((¬ p0 < 0) ∧ ((0 : Int32) ≤ p0) ∧ r = (-1))) (fun _ _ => True) (fun _ => False)) 0 0 (fun _ => False) := by
  refine Met.ofW (cc := cX2_told) (maxL := 4) (ret := (some .int)) (by decide) rfl ?_
  intro p e s m args below meth c s₁ B hml hv
  obtain ⟨rfl, hP, hC⟩ := hv
  have hK := hC.1
  have hx := B.exec
  have hb := B.bytes
  have hr := B.returns
  have hts := atoms_spec (ws := wsX2_told) B.pre
  have hown : s.vm.findClass RX2 = some m.cls := findClass_of_methodNamed B.named
  have hlocks := B.notSynchronized
  have hS : va_S (fun _ => False) s.heap s.heap [] := va_S.rf
  have hl := lv_entry ([.ref (a 15), .int p0, .int p1]) (n := 4) (Nat.le_of_ble_eq_true rfl)
  rw [lg_entry_eq]
  generalize (lg_sl ([.ref (a 15), .int p0, .int p1]) ++ List.replicate (4 - (lg_sl ([.ref (a 15), .int p0, .int p1])).length) Slot.unset).toArray = ls at hl ⊢
  have hl : lv_has ls 4 [(0, .ref (a 15)), (1, .int p0), (2, .int p1)] := hl
  refine lv_iload_n hx hb dX2_told_0 rfl (lv_at hl 1 rfl) ?_
  refine lv_if_lt (tgt := 21) hx hb dX2_told_1 (by decide) (fun c1_ => ?_) (fun c1_ => ?_)
  · skip
    refine lv_iconst (v := (-1)) hx hb dX2_told_21 (by decide) ?_
    exact W.iret (v := (-1)) hx hb hr (fun t ht hW => ⟨⟨(-1), (), rfl, Or.inl (⟨c1_, rfl⟩), trivial⟩, hS.F ht⟩) hS.2.2 dX2_told_22
  · skip
    refine lv_iload_n hx hb dX2_told_4 rfl (lv_at hl 1 rfl) ?_
    refine lv_aload_n hx hb dX2_told_5 rfl (lv_at hl 0 rfl) ?_
    refine va_get (D := (dC, dI)) (ci := 2) (v := .int 0) (C := RX2) (T := TX2) (N := 4) hx hb hts i_X2_told_X2 hown hK hP 15 rfl rfl 2 (by decide) (hts _ m_X2_told_1) (fun _ h9 => h9) rfl dX2_told_6 ?_
    refine lv_icmp_ge (tgt := 21) hx hb dX2_told_9 (by decide) (fun c2_ => ?_) (fun c2_ => ?_)
    · skip
      refine lv_iconst (v := (-1)) hx hb dX2_told_21 (by decide) ?_
      exact W.iret (v := (-1)) hx hb hr (fun t ht hW => ⟨⟨(-1), (), rfl, Or.inr (⟨c1_, c2_, rfl⟩), trivial⟩, hS.F ht⟩) hS.2.2 dX2_told_22
    · skip
      exfalso
      have z0_ := tz_nlt_r c1_ (show (0 : Int32).toInt = 0 by decide)
      have z1_ := tz_nle_l c2_ (show (0 : Int32).toInt = 0 by decide)
      omega

set_option maxHeartbeats 4000000 in
set_option maxRecDepth 100000 in
theorem c_X2_told_s (l : Launch) (dC : Nat → ClassId) (dI : Nat → Nat → Nat) (cy : Nat → ClassId) (a : Nat → Nat) (g : Nat → Nat → Option Nat) (p0 p1 : Int32) : Met l yX2_told wsX2_told ({ frames := 0, cells := 0, slots := 0, locals := 0 }) (va_Pc [.ref (a 18), .int p0, .int p1] (pp dC dI cy (fw a cy g))) (va_Qi (fun (r : Int32) (_ : Unit) => ((p0 < 0) ∧ r = (-1)) ∨ ((¬ p0 < 0) ∧ ((0 : Int32) ≤ p0) ∧ r = (-1))) (fun _ _ => True) (fun _ => False)) 0 0 (fun _ => False) := by
  refine Met.ofW (cc := cX2_told) (maxL := 4) (ret := (some .int)) (by decide) rfl ?_
  intro p e s m args below meth c s₁ B hml hv
  obtain ⟨rfl, hP, hC⟩ := hv
  have hK := hC.1
  have hx := B.exec
  have hb := B.bytes
  have hr := B.returns
  have hts := atoms_spec (ws := wsX2_told) B.pre
  have hown : s.vm.findClass RX2 = some m.cls := findClass_of_methodNamed B.named
  have hlocks := B.notSynchronized
  have hS : va_S (fun _ => False) s.heap s.heap [] := va_S.rf
  have hl := lv_entry ([.ref (a 18), .int p0, .int p1]) (n := 4) (Nat.le_of_ble_eq_true rfl)
  rw [lg_entry_eq]
  generalize (lg_sl ([.ref (a 18), .int p0, .int p1]) ++ List.replicate (4 - (lg_sl ([.ref (a 18), .int p0, .int p1])).length) Slot.unset).toArray = ls at hl ⊢
  have hl : lv_has ls 4 [(0, .ref (a 18)), (1, .int p0), (2, .int p1)] := hl
  refine lv_iload_n hx hb dX2_told_0 rfl (lv_at hl 1 rfl) ?_
  refine lv_if_lt (tgt := 21) hx hb dX2_told_1 (by decide) (fun c1_ => ?_) (fun c1_ => ?_)
  · skip
    refine lv_iconst (v := (-1)) hx hb dX2_told_21 (by decide) ?_
    exact W.iret (v := (-1)) hx hb hr (fun t ht hW => ⟨⟨(-1), (), rfl, Or.inl (⟨c1_, rfl⟩), trivial⟩, hS.F ht⟩) hS.2.2 dX2_told_22
  · skip
    refine lv_iload_n hx hb dX2_told_4 rfl (lv_at hl 1 rfl) ?_
    refine lv_aload_n hx hb dX2_told_5 rfl (lv_at hl 0 rfl) ?_
    refine va_get (D := (dC, dI)) (ci := 2) (v := .int 0) (C := RX2) (T := TX2) (N := 4) hx hb hts i_X2_told_X2 hown hK hP 18 rfl rfl 2 (by decide) (hts _ m_X2_told_1) (fun _ h9 => h9) rfl dX2_told_6 ?_
    refine lv_icmp_ge (tgt := 21) hx hb dX2_told_9 (by decide) (fun c2_ => ?_) (fun c2_ => ?_)
    · skip
      refine lv_iconst (v := (-1)) hx hb dX2_told_21 (by decide) ?_
      exact W.iret (v := (-1)) hx hb hr (fun t ht hW => ⟨⟨(-1), (), rfl, Or.inr (⟨c1_, c2_, rfl⟩), trivial⟩, hS.F ht⟩) hS.2.2 dX2_told_22
    · skip
      exfalso
      have z0_ := tz_nlt_r c1_ (show (0 : Int32).toInt = 0 by decide)
      have z1_ := tz_nle_l c2_ (show (0 : Int32).toInt = 0 by decide)
      omega

set_option maxHeartbeats 4000000 in
set_option maxRecDepth 100000 in
theorem c_X5_bits_w (l : Launch) (dC : Nat → ClassId) (dI : Nat → Nat → Nat) (cy : Nat → ClassId) (a : Nat → Nat) (g : Nat → Nat → Option Nat) : Met l yX5_bits wsX5_bits ({ frames := 0, cells := 0, slots := 0, locals := 0 }) (va_Pc [.ref (a 9), .int 0, .int 6] (pp dC dI cy (fw a cy g))) (va_Ql (fun (r : Int64) (_ : Unit) => r = (Int32.toInt64 0)) (fun _ _ => True) (fun _ => False)) 0 0 (fun _ => False) := by
  refine Met.ofW (cc := cX5_bits) (maxL := 6) (ret := (some .long)) (by decide) rfl ?_
  intro p e s m args below meth c s₁ B hml hv
  obtain ⟨rfl, hP, hC⟩ := hv
  have hK := hC.1
  have hx := B.exec
  have hb := B.bytes
  have hr := B.returns
  have hts := atoms_spec (ws := wsX5_bits) B.pre
  have hown : s.vm.findClass RX5 = some m.cls := findClass_of_methodNamed B.named
  have hlocks := B.notSynchronized
  have hS : va_S (fun _ => False) s.heap s.heap [] := va_S.rf
  have hl := lv_entry ([.ref (a 9), .int 0, .int 6]) (n := 6) (Nat.le_of_ble_eq_true rfl)
  rw [lg_entry_eq]
  generalize (lg_sl ([.ref (a 9), .int 0, .int 6]) ++ List.replicate (6 - (lg_sl ([.ref (a 9), .int 0, .int 6])).length) Slot.unset).toArray = ls at hl ⊢
  have hl : lv_has ls 6 [(0, .ref (a 9)), (1, .int 0), (2, .int 6)] := hl
  refine lv_lconst (v := 0) hx hb dX5_bits_0 (by decide) ?_
  refine tk_l (Int32.toInt64 0) (by decide) ?_
  refine lv_lstore_n (lv' := [(3, .long (Int32.toInt64 0)), (0, .ref (a 9)), (1, .int 0), (2, .int 6)]) hx hb dX5_bits_1 rfl hl (by decide) rfl (fun ls hl => ?_)
  refine lv_iload_n hx hb dX5_bits_2 rfl (lv_at hl 2 rfl) ?_
  refine lv_istore (lv' := [(5, .int 0), (3, .long (Int32.toInt64 0)), (0, .ref (a 9)), (1, .int 0), (2, .int 6)]) hx hb dX5_bits_3 hl (by decide) rfl (fun ls hl => ?_)
  refine lv_iload hx hb dX5_bits_5 (lv_at hl 0 rfl) ?_
  refine lv_iload_n hx hb dX5_bits_7 rfl (lv_at hl 3 rfl) ?_
  refine lv_iload_n hx hb dX5_bits_8 rfl (lv_at hl 4 rfl) ?_
  refine lv_iadd hx hb dX5_bits_9 ?_
  refine tk_i 6 (by decide) ?_
  refine lv_icmp_ge (tgt := 40) hx hb dX5_bits_10 (by decide) (fun c9_ => absurd c9_ (by decide)) (fun _ => ?_)
  refine lv_lload_n hx hb dX5_bits_13 rfl (lv_at hl 1 rfl) ?_
  refine lv_aload_n hx hb dX5_bits_14 rfl (lv_at hl 2 rfl) ?_
  refine lv_iload hx hb dX5_bits_15 (lv_at hl 0 rfl) ?_
  refine va_iald hx hb hK hP 9 0 rfl rfl (show ¬ ((0 : Int32) < 0 ∨ 192 ≤ Int32.toNatClampNeg 0) by decide) dX5_bits_17 ?_
  refine tk_i (-1) (by rfl) ?_
  refine lv_iconst (v := (-1)) hx hb dX5_bits_18 (by decide) ?_
  refine lv_icmp_ne (tgt := 26) hx hb dX5_bits_19 (by decide) (fun c9_ => absurd c9_ (by decide)) (fun _ => ?_)
  refine lv_lconst (v := 0) hx hb dX5_bits_22 (by decide) ?_
  refine tk_l (Int32.toInt64 0) (by decide) ?_
  refine lv_goto (tgt := 32) hx hb dX5_bits_23 (by decide) ?_
  refine lv_lor hx hb dX5_bits_32 ?_
  refine tk_l (Int32.toInt64 0) (by decide) ?_
  refine lv_lstore_n (lv' := [(3, .long (Int32.toInt64 0)), (5, .int 0), (0, .ref (a 9)), (1, .int 0), (2, .int 6)]) hx hb dX5_bits_33 rfl hl (by decide) rfl (fun ls hl => ?_)
  refine lv_iinc (v := 1) (lv' := [(5, .int 1), (3, .long (Int32.toInt64 0)), (0, .ref (a 9)), (1, .int 0), (2, .int 6)]) hx hb dX5_bits_34 hl (k := 1) rfl (by decide) (by decide) rfl (fun ls hl => ?_)
  refine lv_goto (tgt := 5) hx hb dX5_bits_37 (by decide) ?_
  refine lv_iload hx hb dX5_bits_5 (lv_at hl 0 rfl) ?_
  refine lv_iload_n hx hb dX5_bits_7 rfl (lv_at hl 3 rfl) ?_
  refine lv_iload_n hx hb dX5_bits_8 rfl (lv_at hl 4 rfl) ?_
  refine lv_iadd hx hb dX5_bits_9 ?_
  refine tk_i 6 (by decide) ?_
  refine lv_icmp_ge (tgt := 40) hx hb dX5_bits_10 (by decide) (fun c9_ => absurd c9_ (by decide)) (fun _ => ?_)
  refine lv_lload_n hx hb dX5_bits_13 rfl (lv_at hl 1 rfl) ?_
  refine lv_aload_n hx hb dX5_bits_14 rfl (lv_at hl 2 rfl) ?_
  refine lv_iload hx hb dX5_bits_15 (lv_at hl 0 rfl) ?_
  refine va_iald hx hb hK hP 9 0 rfl rfl (show ¬ ((1 : Int32) < 0 ∨ 192 ≤ Int32.toNatClampNeg 1) by decide) dX5_bits_17 ?_
  refine tk_i (-1) (by rfl) ?_
  refine lv_iconst (v := (-1)) hx hb dX5_bits_18 (by decide) ?_
  refine lv_icmp_ne (tgt := 26) hx hb dX5_bits_19 (by decide) (fun c9_ => absurd c9_ (by decide)) (fun _ => ?_)
  refine lv_lconst (v := 0) hx hb dX5_bits_22 (by decide) ?_
  refine tk_l (Int32.toInt64 0) (by decide) ?_
  refine lv_goto (tgt := 32) hx hb dX5_bits_23 (by decide) ?_
  refine lv_lor hx hb dX5_bits_32 ?_
  refine tk_l (Int32.toInt64 0) (by decide) ?_
  refine lv_lstore_n (lv' := [(3, .long (Int32.toInt64 0)), (5, .int 1), (0, .ref (a 9)), (1, .int 0), (2, .int 6)]) hx hb dX5_bits_33 rfl hl (by decide) rfl (fun ls hl => ?_)
  refine lv_iinc (v := 2) (lv' := [(5, .int 2), (3, .long (Int32.toInt64 0)), (0, .ref (a 9)), (1, .int 0), (2, .int 6)]) hx hb dX5_bits_34 hl (k := 1) rfl (by decide) (by decide) rfl (fun ls hl => ?_)
  refine lv_goto (tgt := 5) hx hb dX5_bits_37 (by decide) ?_
  refine lv_iload hx hb dX5_bits_5 (lv_at hl 0 rfl) ?_
  refine lv_iload_n hx hb dX5_bits_7 rfl (lv_at hl 3 rfl) ?_
  refine lv_iload_n hx hb dX5_bits_8 rfl (lv_at hl 4 rfl) ?_
  refine lv_iadd hx hb dX5_bits_9 ?_
  refine tk_i 6 (by decide) ?_
  refine lv_icmp_ge (tgt := 40) hx hb dX5_bits_10 (by decide) (fun c9_ => absurd c9_ (by decide)) (fun _ => ?_)
  refine lv_lload_n hx hb dX5_bits_13 rfl (lv_at hl 1 rfl) ?_
  refine lv_aload_n hx hb dX5_bits_14 rfl (lv_at hl 2 rfl) ?_
  refine lv_iload hx hb dX5_bits_15 (lv_at hl 0 rfl) ?_
  refine va_iald hx hb hK hP 9 0 rfl rfl (show ¬ ((2 : Int32) < 0 ∨ 192 ≤ Int32.toNatClampNeg 2) by decide) dX5_bits_17 ?_
  refine tk_i (-1) (by rfl) ?_
  refine lv_iconst (v := (-1)) hx hb dX5_bits_18 (by decide) ?_
  refine lv_icmp_ne (tgt := 26) hx hb dX5_bits_19 (by decide) (fun c9_ => absurd c9_ (by decide)) (fun _ => ?_)
  refine lv_lconst (v := 0) hx hb dX5_bits_22 (by decide) ?_
  refine tk_l (Int32.toInt64 0) (by decide) ?_
  refine lv_goto (tgt := 32) hx hb dX5_bits_23 (by decide) ?_
  refine lv_lor hx hb dX5_bits_32 ?_
  refine tk_l (Int32.toInt64 0) (by decide) ?_
  refine lv_lstore_n (lv' := [(3, .long (Int32.toInt64 0)), (5, .int 2), (0, .ref (a 9)), (1, .int 0), (2, .int 6)]) hx hb dX5_bits_33 rfl hl (by decide) rfl (fun ls hl => ?_)
  refine lv_iinc (v := 3) (lv' := [(5, .int 3), (3, .long (Int32.toInt64 0)), (0, .ref (a 9)), (1, .int 0), (2, .int 6)]) hx hb dX5_bits_34 hl (k := 1) rfl (by decide) (by decide) rfl (fun ls hl => ?_)
  refine lv_goto (tgt := 5) hx hb dX5_bits_37 (by decide) ?_
  refine lv_iload hx hb dX5_bits_5 (lv_at hl 0 rfl) ?_
  refine lv_iload_n hx hb dX5_bits_7 rfl (lv_at hl 3 rfl) ?_
  refine lv_iload_n hx hb dX5_bits_8 rfl (lv_at hl 4 rfl) ?_
  refine lv_iadd hx hb dX5_bits_9 ?_
  refine tk_i 6 (by decide) ?_
  refine lv_icmp_ge (tgt := 40) hx hb dX5_bits_10 (by decide) (fun c9_ => absurd c9_ (by decide)) (fun _ => ?_)
  refine lv_lload_n hx hb dX5_bits_13 rfl (lv_at hl 1 rfl) ?_
  refine lv_aload_n hx hb dX5_bits_14 rfl (lv_at hl 2 rfl) ?_
  refine lv_iload hx hb dX5_bits_15 (lv_at hl 0 rfl) ?_
  refine va_iald hx hb hK hP 9 0 rfl rfl (show ¬ ((3 : Int32) < 0 ∨ 192 ≤ Int32.toNatClampNeg 3) by decide) dX5_bits_17 ?_
  refine tk_i (-1) (by rfl) ?_
  refine lv_iconst (v := (-1)) hx hb dX5_bits_18 (by decide) ?_
  refine lv_icmp_ne (tgt := 26) hx hb dX5_bits_19 (by decide) (fun c9_ => absurd c9_ (by decide)) (fun _ => ?_)
  refine lv_lconst (v := 0) hx hb dX5_bits_22 (by decide) ?_
  refine tk_l (Int32.toInt64 0) (by decide) ?_
  refine lv_goto (tgt := 32) hx hb dX5_bits_23 (by decide) ?_
  refine lv_lor hx hb dX5_bits_32 ?_
  refine tk_l (Int32.toInt64 0) (by decide) ?_
  refine lv_lstore_n (lv' := [(3, .long (Int32.toInt64 0)), (5, .int 3), (0, .ref (a 9)), (1, .int 0), (2, .int 6)]) hx hb dX5_bits_33 rfl hl (by decide) rfl (fun ls hl => ?_)
  refine lv_iinc (v := 4) (lv' := [(5, .int 4), (3, .long (Int32.toInt64 0)), (0, .ref (a 9)), (1, .int 0), (2, .int 6)]) hx hb dX5_bits_34 hl (k := 1) rfl (by decide) (by decide) rfl (fun ls hl => ?_)
  refine lv_goto (tgt := 5) hx hb dX5_bits_37 (by decide) ?_
  refine lv_iload hx hb dX5_bits_5 (lv_at hl 0 rfl) ?_
  refine lv_iload_n hx hb dX5_bits_7 rfl (lv_at hl 3 rfl) ?_
  refine lv_iload_n hx hb dX5_bits_8 rfl (lv_at hl 4 rfl) ?_
  refine lv_iadd hx hb dX5_bits_9 ?_
  refine tk_i 6 (by decide) ?_
  refine lv_icmp_ge (tgt := 40) hx hb dX5_bits_10 (by decide) (fun c9_ => absurd c9_ (by decide)) (fun _ => ?_)
  refine lv_lload_n hx hb dX5_bits_13 rfl (lv_at hl 1 rfl) ?_
  refine lv_aload_n hx hb dX5_bits_14 rfl (lv_at hl 2 rfl) ?_
  refine lv_iload hx hb dX5_bits_15 (lv_at hl 0 rfl) ?_
  refine va_iald hx hb hK hP 9 0 rfl rfl (show ¬ ((4 : Int32) < 0 ∨ 192 ≤ Int32.toNatClampNeg 4) by decide) dX5_bits_17 ?_
  refine tk_i (-1) (by rfl) ?_
  refine lv_iconst (v := (-1)) hx hb dX5_bits_18 (by decide) ?_
  refine lv_icmp_ne (tgt := 26) hx hb dX5_bits_19 (by decide) (fun c9_ => absurd c9_ (by decide)) (fun _ => ?_)
  refine lv_lconst (v := 0) hx hb dX5_bits_22 (by decide) ?_
  refine tk_l (Int32.toInt64 0) (by decide) ?_
  refine lv_goto (tgt := 32) hx hb dX5_bits_23 (by decide) ?_
  refine lv_lor hx hb dX5_bits_32 ?_
  refine tk_l (Int32.toInt64 0) (by decide) ?_
  refine lv_lstore_n (lv' := [(3, .long (Int32.toInt64 0)), (5, .int 4), (0, .ref (a 9)), (1, .int 0), (2, .int 6)]) hx hb dX5_bits_33 rfl hl (by decide) rfl (fun ls hl => ?_)
  refine lv_iinc (v := 5) (lv' := [(5, .int 5), (3, .long (Int32.toInt64 0)), (0, .ref (a 9)), (1, .int 0), (2, .int 6)]) hx hb dX5_bits_34 hl (k := 1) rfl (by decide) (by decide) rfl (fun ls hl => ?_)
  refine lv_goto (tgt := 5) hx hb dX5_bits_37 (by decide) ?_
  refine lv_iload hx hb dX5_bits_5 (lv_at hl 0 rfl) ?_
  refine lv_iload_n hx hb dX5_bits_7 rfl (lv_at hl 3 rfl) ?_
  refine lv_iload_n hx hb dX5_bits_8 rfl (lv_at hl 4 rfl) ?_
  refine lv_iadd hx hb dX5_bits_9 ?_
  refine tk_i 6 (by decide) ?_
  refine lv_icmp_ge (tgt := 40) hx hb dX5_bits_10 (by decide) (fun c9_ => absurd c9_ (by decide)) (fun _ => ?_)
  refine lv_lload_n hx hb dX5_bits_13 rfl (lv_at hl 1 rfl) ?_
  refine lv_aload_n hx hb dX5_bits_14 rfl (lv_at hl 2 rfl) ?_
  refine lv_iload hx hb dX5_bits_15 (lv_at hl 0 rfl) ?_
  refine va_iald hx hb hK hP 9 0 rfl rfl (show ¬ ((5 : Int32) < 0 ∨ 192 ≤ Int32.toNatClampNeg 5) by decide) dX5_bits_17 ?_
  refine tk_i (-1) (by rfl) ?_
  refine lv_iconst (v := (-1)) hx hb dX5_bits_18 (by decide) ?_
  refine lv_icmp_ne (tgt := 26) hx hb dX5_bits_19 (by decide) (fun c9_ => absurd c9_ (by decide)) (fun _ => ?_)
  refine lv_lconst (v := 0) hx hb dX5_bits_22 (by decide) ?_
  refine tk_l (Int32.toInt64 0) (by decide) ?_
  refine lv_goto (tgt := 32) hx hb dX5_bits_23 (by decide) ?_
  refine lv_lor hx hb dX5_bits_32 ?_
  refine tk_l (Int32.toInt64 0) (by decide) ?_
  refine lv_lstore_n (lv' := [(3, .long (Int32.toInt64 0)), (5, .int 5), (0, .ref (a 9)), (1, .int 0), (2, .int 6)]) hx hb dX5_bits_33 rfl hl (by decide) rfl (fun ls hl => ?_)
  refine lv_iinc (v := 6) (lv' := [(5, .int 6), (3, .long (Int32.toInt64 0)), (0, .ref (a 9)), (1, .int 0), (2, .int 6)]) hx hb dX5_bits_34 hl (k := 1) rfl (by decide) (by decide) rfl (fun ls hl => ?_)
  refine lv_goto (tgt := 5) hx hb dX5_bits_37 (by decide) ?_
  refine lv_iload hx hb dX5_bits_5 (lv_at hl 0 rfl) ?_
  refine lv_iload_n hx hb dX5_bits_7 rfl (lv_at hl 3 rfl) ?_
  refine lv_iload_n hx hb dX5_bits_8 rfl (lv_at hl 4 rfl) ?_
  refine lv_iadd hx hb dX5_bits_9 ?_
  refine tk_i 6 (by decide) ?_
  refine lv_icmp_ge (tgt := 40) hx hb dX5_bits_10 (by decide) (fun _ => ?_) (fun c9_ => absurd (by decide) c9_)
  refine lv_lload_n hx hb dX5_bits_40 rfl (lv_at hl 1 rfl) ?_
  exact W.lret (v := (Int32.toInt64 0)) hx hb hr (fun t ht hW => ⟨⟨(Int32.toInt64 0), (), rfl, rfl, trivial⟩, hS.F ht⟩) hS.2.2 dX5_bits_41

set_option maxHeartbeats 4000000 in
set_option maxRecDepth 100000 in
theorem c_X5_bits_t (l : Launch) (dC : Nat → ClassId) (dI : Nat → Nat → Nat) (cy : Nat → ClassId) (a : Nat → Nat) (g : Nat → Nat → Option Nat) : Met l yX5_bits wsX5_bits ({ frames := 0, cells := 0, slots := 0, locals := 0 }) (va_Pc [.ref (a 10), .int 0, .int 4] (pp dC dI cy (fw a cy g))) (va_Ql (fun (r : Int64) (_ : Unit) => r = (Int32.toInt64 0)) (fun _ _ => True) (fun _ => False)) 0 0 (fun _ => False) := by
  refine Met.ofW (cc := cX5_bits) (maxL := 6) (ret := (some .long)) (by decide) rfl ?_
  intro p e s m args below meth c s₁ B hml hv
  obtain ⟨rfl, hP, hC⟩ := hv
  have hK := hC.1
  have hx := B.exec
  have hb := B.bytes
  have hr := B.returns
  have hts := atoms_spec (ws := wsX5_bits) B.pre
  have hown : s.vm.findClass RX5 = some m.cls := findClass_of_methodNamed B.named
  have hlocks := B.notSynchronized
  have hS : va_S (fun _ => False) s.heap s.heap [] := va_S.rf
  have hl := lv_entry ([.ref (a 10), .int 0, .int 4]) (n := 6) (Nat.le_of_ble_eq_true rfl)
  rw [lg_entry_eq]
  generalize (lg_sl ([.ref (a 10), .int 0, .int 4]) ++ List.replicate (6 - (lg_sl ([.ref (a 10), .int 0, .int 4])).length) Slot.unset).toArray = ls at hl ⊢
  have hl : lv_has ls 6 [(0, .ref (a 10)), (1, .int 0), (2, .int 4)] := hl
  refine lv_lconst (v := 0) hx hb dX5_bits_0 (by decide) ?_
  refine tk_l (Int32.toInt64 0) (by decide) ?_
  refine lv_lstore_n (lv' := [(3, .long (Int32.toInt64 0)), (0, .ref (a 10)), (1, .int 0), (2, .int 4)]) hx hb dX5_bits_1 rfl hl (by decide) rfl (fun ls hl => ?_)
  refine lv_iload_n hx hb dX5_bits_2 rfl (lv_at hl 2 rfl) ?_
  refine lv_istore (lv' := [(5, .int 0), (3, .long (Int32.toInt64 0)), (0, .ref (a 10)), (1, .int 0), (2, .int 4)]) hx hb dX5_bits_3 hl (by decide) rfl (fun ls hl => ?_)
  refine lv_iload hx hb dX5_bits_5 (lv_at hl 0 rfl) ?_
  refine lv_iload_n hx hb dX5_bits_7 rfl (lv_at hl 3 rfl) ?_
  refine lv_iload_n hx hb dX5_bits_8 rfl (lv_at hl 4 rfl) ?_
  refine lv_iadd hx hb dX5_bits_9 ?_
  refine tk_i 4 (by decide) ?_
  refine lv_icmp_ge (tgt := 40) hx hb dX5_bits_10 (by decide) (fun c9_ => absurd c9_ (by decide)) (fun _ => ?_)
  refine lv_lload_n hx hb dX5_bits_13 rfl (lv_at hl 1 rfl) ?_
  refine lv_aload_n hx hb dX5_bits_14 rfl (lv_at hl 2 rfl) ?_
  refine lv_iload hx hb dX5_bits_15 (lv_at hl 0 rfl) ?_
  refine va_iald hx hb hK hP 10 0 rfl rfl (show ¬ ((0 : Int32) < 0 ∨ 128 ≤ Int32.toNatClampNeg 0) by decide) dX5_bits_17 ?_
  refine tk_i (-1) (by rfl) ?_
  refine lv_iconst (v := (-1)) hx hb dX5_bits_18 (by decide) ?_
  refine lv_icmp_ne (tgt := 26) hx hb dX5_bits_19 (by decide) (fun c9_ => absurd c9_ (by decide)) (fun _ => ?_)
  refine lv_lconst (v := 0) hx hb dX5_bits_22 (by decide) ?_
  refine tk_l (Int32.toInt64 0) (by decide) ?_
  refine lv_goto (tgt := 32) hx hb dX5_bits_23 (by decide) ?_
  refine lv_lor hx hb dX5_bits_32 ?_
  refine tk_l (Int32.toInt64 0) (by decide) ?_
  refine lv_lstore_n (lv' := [(3, .long (Int32.toInt64 0)), (5, .int 0), (0, .ref (a 10)), (1, .int 0), (2, .int 4)]) hx hb dX5_bits_33 rfl hl (by decide) rfl (fun ls hl => ?_)
  refine lv_iinc (v := 1) (lv' := [(5, .int 1), (3, .long (Int32.toInt64 0)), (0, .ref (a 10)), (1, .int 0), (2, .int 4)]) hx hb dX5_bits_34 hl (k := 1) rfl (by decide) (by decide) rfl (fun ls hl => ?_)
  refine lv_goto (tgt := 5) hx hb dX5_bits_37 (by decide) ?_
  refine lv_iload hx hb dX5_bits_5 (lv_at hl 0 rfl) ?_
  refine lv_iload_n hx hb dX5_bits_7 rfl (lv_at hl 3 rfl) ?_
  refine lv_iload_n hx hb dX5_bits_8 rfl (lv_at hl 4 rfl) ?_
  refine lv_iadd hx hb dX5_bits_9 ?_
  refine tk_i 4 (by decide) ?_
  refine lv_icmp_ge (tgt := 40) hx hb dX5_bits_10 (by decide) (fun c9_ => absurd c9_ (by decide)) (fun _ => ?_)
  refine lv_lload_n hx hb dX5_bits_13 rfl (lv_at hl 1 rfl) ?_
  refine lv_aload_n hx hb dX5_bits_14 rfl (lv_at hl 2 rfl) ?_
  refine lv_iload hx hb dX5_bits_15 (lv_at hl 0 rfl) ?_
  refine va_iald hx hb hK hP 10 0 rfl rfl (show ¬ ((1 : Int32) < 0 ∨ 128 ≤ Int32.toNatClampNeg 1) by decide) dX5_bits_17 ?_
  refine tk_i (-1) (by rfl) ?_
  refine lv_iconst (v := (-1)) hx hb dX5_bits_18 (by decide) ?_
  refine lv_icmp_ne (tgt := 26) hx hb dX5_bits_19 (by decide) (fun c9_ => absurd c9_ (by decide)) (fun _ => ?_)
  refine lv_lconst (v := 0) hx hb dX5_bits_22 (by decide) ?_
  refine tk_l (Int32.toInt64 0) (by decide) ?_
  refine lv_goto (tgt := 32) hx hb dX5_bits_23 (by decide) ?_
  refine lv_lor hx hb dX5_bits_32 ?_
  refine tk_l (Int32.toInt64 0) (by decide) ?_
  refine lv_lstore_n (lv' := [(3, .long (Int32.toInt64 0)), (5, .int 1), (0, .ref (a 10)), (1, .int 0), (2, .int 4)]) hx hb dX5_bits_33 rfl hl (by decide) rfl (fun ls hl => ?_)
  refine lv_iinc (v := 2) (lv' := [(5, .int 2), (3, .long (Int32.toInt64 0)), (0, .ref (a 10)), (1, .int 0), (2, .int 4)]) hx hb dX5_bits_34 hl (k := 1) rfl (by decide) (by decide) rfl (fun ls hl => ?_)
  refine lv_goto (tgt := 5) hx hb dX5_bits_37 (by decide) ?_
  refine lv_iload hx hb dX5_bits_5 (lv_at hl 0 rfl) ?_
  refine lv_iload_n hx hb dX5_bits_7 rfl (lv_at hl 3 rfl) ?_
  refine lv_iload_n hx hb dX5_bits_8 rfl (lv_at hl 4 rfl) ?_
  refine lv_iadd hx hb dX5_bits_9 ?_
  refine tk_i 4 (by decide) ?_
  refine lv_icmp_ge (tgt := 40) hx hb dX5_bits_10 (by decide) (fun c9_ => absurd c9_ (by decide)) (fun _ => ?_)
  refine lv_lload_n hx hb dX5_bits_13 rfl (lv_at hl 1 rfl) ?_
  refine lv_aload_n hx hb dX5_bits_14 rfl (lv_at hl 2 rfl) ?_
  refine lv_iload hx hb dX5_bits_15 (lv_at hl 0 rfl) ?_
  refine va_iald hx hb hK hP 10 0 rfl rfl (show ¬ ((2 : Int32) < 0 ∨ 128 ≤ Int32.toNatClampNeg 2) by decide) dX5_bits_17 ?_
  refine tk_i (-1) (by rfl) ?_
  refine lv_iconst (v := (-1)) hx hb dX5_bits_18 (by decide) ?_
  refine lv_icmp_ne (tgt := 26) hx hb dX5_bits_19 (by decide) (fun c9_ => absurd c9_ (by decide)) (fun _ => ?_)
  refine lv_lconst (v := 0) hx hb dX5_bits_22 (by decide) ?_
  refine tk_l (Int32.toInt64 0) (by decide) ?_
  refine lv_goto (tgt := 32) hx hb dX5_bits_23 (by decide) ?_
  refine lv_lor hx hb dX5_bits_32 ?_
  refine tk_l (Int32.toInt64 0) (by decide) ?_
  refine lv_lstore_n (lv' := [(3, .long (Int32.toInt64 0)), (5, .int 2), (0, .ref (a 10)), (1, .int 0), (2, .int 4)]) hx hb dX5_bits_33 rfl hl (by decide) rfl (fun ls hl => ?_)
  refine lv_iinc (v := 3) (lv' := [(5, .int 3), (3, .long (Int32.toInt64 0)), (0, .ref (a 10)), (1, .int 0), (2, .int 4)]) hx hb dX5_bits_34 hl (k := 1) rfl (by decide) (by decide) rfl (fun ls hl => ?_)
  refine lv_goto (tgt := 5) hx hb dX5_bits_37 (by decide) ?_
  refine lv_iload hx hb dX5_bits_5 (lv_at hl 0 rfl) ?_
  refine lv_iload_n hx hb dX5_bits_7 rfl (lv_at hl 3 rfl) ?_
  refine lv_iload_n hx hb dX5_bits_8 rfl (lv_at hl 4 rfl) ?_
  refine lv_iadd hx hb dX5_bits_9 ?_
  refine tk_i 4 (by decide) ?_
  refine lv_icmp_ge (tgt := 40) hx hb dX5_bits_10 (by decide) (fun c9_ => absurd c9_ (by decide)) (fun _ => ?_)
  refine lv_lload_n hx hb dX5_bits_13 rfl (lv_at hl 1 rfl) ?_
  refine lv_aload_n hx hb dX5_bits_14 rfl (lv_at hl 2 rfl) ?_
  refine lv_iload hx hb dX5_bits_15 (lv_at hl 0 rfl) ?_
  refine va_iald hx hb hK hP 10 0 rfl rfl (show ¬ ((3 : Int32) < 0 ∨ 128 ≤ Int32.toNatClampNeg 3) by decide) dX5_bits_17 ?_
  refine tk_i (-1) (by rfl) ?_
  refine lv_iconst (v := (-1)) hx hb dX5_bits_18 (by decide) ?_
  refine lv_icmp_ne (tgt := 26) hx hb dX5_bits_19 (by decide) (fun c9_ => absurd c9_ (by decide)) (fun _ => ?_)
  refine lv_lconst (v := 0) hx hb dX5_bits_22 (by decide) ?_
  refine tk_l (Int32.toInt64 0) (by decide) ?_
  refine lv_goto (tgt := 32) hx hb dX5_bits_23 (by decide) ?_
  refine lv_lor hx hb dX5_bits_32 ?_
  refine tk_l (Int32.toInt64 0) (by decide) ?_
  refine lv_lstore_n (lv' := [(3, .long (Int32.toInt64 0)), (5, .int 3), (0, .ref (a 10)), (1, .int 0), (2, .int 4)]) hx hb dX5_bits_33 rfl hl (by decide) rfl (fun ls hl => ?_)
  refine lv_iinc (v := 4) (lv' := [(5, .int 4), (3, .long (Int32.toInt64 0)), (0, .ref (a 10)), (1, .int 0), (2, .int 4)]) hx hb dX5_bits_34 hl (k := 1) rfl (by decide) (by decide) rfl (fun ls hl => ?_)
  refine lv_goto (tgt := 5) hx hb dX5_bits_37 (by decide) ?_
  refine lv_iload hx hb dX5_bits_5 (lv_at hl 0 rfl) ?_
  refine lv_iload_n hx hb dX5_bits_7 rfl (lv_at hl 3 rfl) ?_
  refine lv_iload_n hx hb dX5_bits_8 rfl (lv_at hl 4 rfl) ?_
  refine lv_iadd hx hb dX5_bits_9 ?_
  refine tk_i 4 (by decide) ?_
  refine lv_icmp_ge (tgt := 40) hx hb dX5_bits_10 (by decide) (fun _ => ?_) (fun c9_ => absurd (by decide) c9_)
  refine lv_lload_n hx hb dX5_bits_40 rfl (lv_at hl 1 rfl) ?_
  exact W.lret (v := (Int32.toInt64 0)) hx hb hr (fun t ht hW => ⟨⟨(Int32.toInt64 0), (), rfl, rfl, trivial⟩, hS.F ht⟩) hS.2.2 dX5_bits_41

set_option maxHeartbeats 4000000 in
set_option maxRecDepth 100000 in
theorem c_X5_needs (l : Launch) (dC : Nat → ClassId) (dI : Nat → Nat → Nat) (cy : Nat → ClassId) (a : Nat → Nat) (g : Nat → Nat → Option Nat) : Met l yX5_needs wsX5_needs ({ frames := 1, cells := 0, slots := 0, locals := 25 }) (va_Pc [.ref (a 30), .int 0] (pp dC dI cy (fw a cy g))) (va_Ql (fun (r : Int64) (_ : Unit) => r = (Int32.toInt64 0)) (fun _ _ => True) (fun _ => False)) 0 0 (fun _ => False) := by
  refine Met.ofW (cc := cX5_needs) (maxL := 2) (ret := (some .long)) (by decide) rfl ?_
  intro p e s m args below meth c s₁ B hml hv
  obtain ⟨rfl, hP, hC⟩ := hv
  have hK := hC.1
  have hx := B.exec
  have hb := B.bytes
  have hr := B.returns
  have hts := atoms_spec (ws := wsX5_needs) B.pre
  have hown : s.vm.findClass RX5 = some m.cls := findClass_of_methodNamed B.named
  have hlocks := B.notSynchronized
  have hS : va_S (fun _ => False) s.heap s.heap [] := va_S.rf
  have hl := lv_entry ([.ref (a 30), .int 0]) (n := 2) (Nat.le_of_ble_eq_true rfl)
  rw [lg_entry_eq]
  generalize (lg_sl ([.ref (a 30), .int 0]) ++ List.replicate (2 - (lg_sl ([.ref (a 30), .int 0])).length) Slot.unset).toArray = ls at hl ⊢
  have hl : lv_has ls 2 [(0, .ref (a 30)), (1, .int 0)] := hl
  refine lv_aload_n hx hb dX5_needs_0 rfl (lv_at hl 0 rfl) ?_
  refine va_get (D := (dC, dI)) (ci := 5) (v := .ref (a 1)) (C := RX5) (T := TX5) (N := 4) hx hb hts i_X5_needs_X5 hown hK hP 30 rfl rfl 1 (by decide) (hts _ m_X5_needs_1) (fun _ h9 => h9) rfl dX5_needs_1 ?_
  refine va_get (D := (dC, dI)) (ci := 8) (v := .ref (a 9)) (C := RX8) (T := TX8) (N := 17) hx hb hts i_X5_needs_X8 hown hK hP 1 rfl rfl 10 (by decide) (hts _ m_X5_needs_2) (fun _ h9 => h9) rfl dX5_needs_4 ?_
  refine lv_iload_n hx hb dX5_needs_7 rfl (lv_at hl 1 rfl) ?_
  refine lv_bipush (v := 6) hx hb dX5_needs_8 (by decide) ?_
  refine lv_imul hx hb dX5_needs_10 ?_
  refine tk_i 0 (by decide) ?_
  refine lv_bipush (v := 6) hx hb dX5_needs_11 (by decide) ?_
  refine tk_pl (va_runS (As := [.ref (a 9), .int 0, .int 6]) (rest := []) ⟨hx, hb, hml, hown, hts⟩ (c_X5_bits_w l dC dI cy a g) (va_cwS 3 hts gX5_needs_X5_bits rfl rfl rfl (by decide +kernel) ⟨Nat.le_of_ble_eq_true rfl, Nat.le_of_ble_eq_true rfl⟩) (pS_pp hC hP) rfl rfl hl.1 rfl (lv_room (Nat.le_of_ble_eq_true rfl)) dX5_needs_13 ⟨Nat.le_of_ble_eq_true rfl, Nat.le_of_ble_eq_true rfl⟩) hP hS (fun r_ H locs hw hP hS => ?_)
  subst hw
  refine lv_aload_n hx hb dX5_needs_16 rfl (lv_at hl 0 rfl) ?_
  refine va_get (D := (dC, dI)) (ci := 5) (v := .ref (a 1)) (C := RX5) (T := TX5) (N := 4) hx hb hts i_X5_needs_X5 hown hK hP 30 rfl rfl 1 (by decide) (hts _ m_X5_needs_1) (fun _ h9 => h9) rfl dX5_needs_17 ?_
  refine va_get (D := (dC, dI)) (ci := 8) (v := .ref (a 10)) (C := RX8) (T := TX8) (N := 17) hx hb hts i_X5_needs_X8 hown hK hP 1 rfl rfl 11 (by decide) (hts _ m_X5_needs_3) (fun _ h9 => h9) rfl dX5_needs_20 ?_
  refine lv_iload_n hx hb dX5_needs_23 rfl (lv_at hl 1 rfl) ?_
  refine lv_iconst (v := 4) hx hb dX5_needs_24 (by decide) ?_
  refine lv_imul hx hb dX5_needs_25 ?_
  refine tk_i 0 (by decide) ?_
  refine lv_iconst (v := 4) hx hb dX5_needs_26 (by decide) ?_
  refine tk_pl (va_runS (As := [.ref (a 10), .int 0, .int 4]) (rest := [.long (Int32.toInt64 0)]) ⟨hx, hb, hml, hown, hts⟩ (c_X5_bits_t l dC dI cy a g) (va_cwS 3 hts gX5_needs_X5_bits rfl rfl rfl (by decide +kernel) ⟨Nat.le_of_ble_eq_true rfl, Nat.le_of_ble_eq_true rfl⟩) (pS_pp hC hP) rfl rfl hl.1 rfl (lv_room (Nat.le_of_ble_eq_true rfl)) dX5_needs_27 ⟨Nat.le_of_ble_eq_true rfl, Nat.le_of_ble_eq_true rfl⟩) hP hS (fun r_ H locs hw hP hS => ?_)
  subst hw
  refine lv_lor hx hb dX5_needs_30 ?_
  refine tk_l (Int32.toInt64 0) (by decide) ?_
  exact W.lret (v := (Int32.toInt64 0)) hx hb hr (fun t ht hW => ⟨⟨(Int32.toInt64 0), (), rfl, rfl, trivial⟩, hS.F ht⟩) hS.2.2 dX5_needs_31

set_option maxHeartbeats 4000000 in
set_option maxRecDepth 100000 in
theorem c_X5_resourcesOn (l : Launch) (dC : Nat → ClassId) (dI : Nat → Nat → Nat) (cy : Nat → ClassId) (a : Nat → Nat) (g : Nat → Nat → Option Nat) : Met l yX5_resourcesOn wsX5_resourcesOn ({ frames := 0, cells := 0, slots := 0, locals := 0 }) (va_Pc [.ref (a 30)] (pp dC dI cy (fw a cy g))) (va_Qi (fun (r : Int32) (_ : Unit) => r = 0) (fun _ _ => True) (fun _ => False)) 0 0 (fun _ => False) := by
  refine Met.ofW (cc := cX5_resourcesOn) (maxL := 3) (ret := (some .int)) (by decide) rfl ?_
  intro p e s m args below meth c s₁ B hml hv
  obtain ⟨rfl, hP, hC⟩ := hv
  have hK := hC.1
  have hx := B.exec
  have hb := B.bytes
  have hr := B.returns
  have hts := atoms_spec (ws := wsX5_resourcesOn) B.pre
  have hown : s.vm.findClass RX5 = some m.cls := findClass_of_methodNamed B.named
  have hlocks := B.notSynchronized
  have hS : va_S (fun _ => False) s.heap s.heap [] := va_S.rf
  have hl := lv_entry ([.ref (a 30)]) (n := 3) (Nat.le_of_ble_eq_true rfl)
  rw [lg_entry_eq]
  generalize (lg_sl ([.ref (a 30)]) ++ List.replicate (3 - (lg_sl ([.ref (a 30)])).length) Slot.unset).toArray = ls at hl ⊢
  have hl : lv_has ls 3 [(0, .ref (a 30))] := hl
  refine lv_iconst (v := 0) hx hb dX5_resourcesOn_0 (by decide) ?_
  refine lv_istore_n (lv' := [(1, .int 0), (0, .ref (a 30))]) hx hb dX5_resourcesOn_1 rfl hl (by decide) rfl (fun ls hl => ?_)
  refine lv_iconst (v := 0) hx hb dX5_resourcesOn_2 (by decide) ?_
  refine lv_istore_n (lv' := [(2, .int 0), (1, .int 0), (0, .ref (a 30))]) hx hb dX5_resourcesOn_3 rfl hl (by decide) rfl (fun ls hl => ?_)
  refine lv_iload_n hx hb dX5_resourcesOn_4 rfl (lv_at hl 0 rfl) ?_
  refine lv_aload_n hx hb dX5_resourcesOn_5 rfl (lv_at hl 2 rfl) ?_
  refine va_get (D := (dC, dI)) (ci := 5) (v := .ref (a 1)) (C := RX5) (T := TX5) (N := 4) hx hb hts i_X5_resourcesOn_X5 hown hK hP 30 rfl rfl 1 (by decide) (hts _ m_X5_resourcesOn_1) (fun _ h9 => h9) rfl dX5_resourcesOn_6 ?_
  refine va_get (D := (dC, dI)) (ci := 8) (v := .int 1) (C := RX8) (T := TX8) (N := 17) hx hb hts i_X5_resourcesOn_X8 hown hK hP 1 rfl rfl 0 (by decide) (hts _ m_X5_resourcesOn_2) (fun _ h9 => h9) rfl dX5_resourcesOn_9 ?_
  refine lv_icmp_ge (tgt := 57) hx hb dX5_resourcesOn_12 (by decide) (fun c9_ => absurd c9_ (by decide)) (fun _ => ?_)
  refine lv_iload_n hx hb dX5_resourcesOn_15 rfl (lv_at hl 1 rfl) ?_
  refine lv_aload_n hx hb dX5_resourcesOn_16 rfl (lv_at hl 2 rfl) ?_
  refine va_get (D := (dC, dI)) (ci := 5) (v := .ref (a 21)) (C := RX5) (T := TX5) (N := 4) hx hb hts i_X5_resourcesOn_X5 hown hK hP 30 rfl rfl 0 (by decide) (hts _ m_X5_resourcesOn_3) (fun _ h9 => h9) rfl dX5_resourcesOn_17 ?_
  refine va_get (D := (dC, dI)) (ci := 10) (v := .ref (a 22)) (C := RX10) (T := TX10) (N := 2) hx hb hts i_X5_resourcesOn_X10 hown hK hP 21 rfl rfl 0 (by decide) (hts _ m_X5_resourcesOn_4) (fun _ h9 => h9) rfl dX5_resourcesOn_20 ?_
  refine lv_iload_n hx hb dX5_resourcesOn_23 rfl (lv_at hl 0 rfl) ?_
  refine va_aldq hx hb hK hP 22 1 rfl rfl (show ¬ ((0 : Int32) < 0 ∨ 32 ≤ Int32.toNatClampNeg 0) by decide) dX5_resourcesOn_24 ?_
  refine tk_v (.ref (a 23)) (by rfl) ?_
  refine va_get (D := (dC, dI)) (ci := 4) (v := .int 1) (C := RX4) (T := TX4) (N := 14) hx hb hts i_X5_resourcesOn_X4 hown hK hP 23 rfl rfl 0 (by decide) (hts _ m_X5_resourcesOn_5) (fun _ h9 => h9) rfl dX5_resourcesOn_25 ?_
  refine lv_iconst (v := 2) hx hb dX5_resourcesOn_28 (by decide) ?_
  refine lv_icmp_ne (tgt := 48) hx hb dX5_resourcesOn_29 (by decide) (fun _ => ?_) (fun c9_ => absurd (by decide) c9_)
  refine lv_iconst (v := 0) hx hb dX5_resourcesOn_48 (by decide) ?_
  refine lv_iadd hx hb dX5_resourcesOn_49 ?_
  refine tk_i 0 (by decide) ?_
  refine lv_istore_n (lv' := [(1, .int 0), (2, .int 0), (0, .ref (a 30))]) hx hb dX5_resourcesOn_50 rfl hl (by decide) rfl (fun ls hl => ?_)
  refine lv_iinc (v := 1) (lv' := [(2, .int 1), (1, .int 0), (0, .ref (a 30))]) hx hb dX5_resourcesOn_51 hl (k := 1) rfl (by decide) (by decide) rfl (fun ls hl => ?_)
  refine lv_goto (tgt := 4) hx hb dX5_resourcesOn_54 (by decide) ?_
  refine lv_iload_n hx hb dX5_resourcesOn_4 rfl (lv_at hl 0 rfl) ?_
  refine lv_aload_n hx hb dX5_resourcesOn_5 rfl (lv_at hl 2 rfl) ?_
  refine va_get (D := (dC, dI)) (ci := 5) (v := .ref (a 1)) (C := RX5) (T := TX5) (N := 4) hx hb hts i_X5_resourcesOn_X5 hown hK hP 30 rfl rfl 1 (by decide) (hts _ m_X5_resourcesOn_1) (fun _ h9 => h9) rfl dX5_resourcesOn_6 ?_
  refine va_get (D := (dC, dI)) (ci := 8) (v := .int 1) (C := RX8) (T := TX8) (N := 17) hx hb hts i_X5_resourcesOn_X8 hown hK hP 1 rfl rfl 0 (by decide) (hts _ m_X5_resourcesOn_2) (fun _ h9 => h9) rfl dX5_resourcesOn_9 ?_
  refine lv_icmp_ge (tgt := 57) hx hb dX5_resourcesOn_12 (by decide) (fun _ => ?_) (fun c9_ => absurd (by decide) c9_)
  refine lv_iload_n hx hb dX5_resourcesOn_57 rfl (lv_at hl 1 rfl) ?_
  exact W.iret (v := 0) hx hb hr (fun t ht hW => ⟨⟨0, (), rfl, rfl, trivial⟩, hS.F ht⟩) hS.2.2 dX5_resourcesOn_58

set_option maxHeartbeats 4000000 in
set_option maxRecDepth 100000 in
theorem c_X5_armedDevices (l : Launch) (dC : Nat → ClassId) (dI : Nat → Nat → Nat) (cy : Nat → ClassId) (a : Nat → Nat) (g : Nat → Nat → Option Nat) : Met l yX5_armedDevices wsX5_armedDevices ({ frames := 0, cells := 0, slots := 0, locals := 0 }) (va_Pc [.ref (a 30)] (pp dC dI cy (fw a cy g))) (va_Qi (fun (r : Int32) (_ : Unit) => r = 0) (fun _ _ => True) (fun _ => False)) 0 0 (fun _ => False) := by
  refine Met.ofW (cc := cX5_armedDevices) (maxL := 3) (ret := (some .int)) (by decide) rfl ?_
  intro p e s m args below meth c s₁ B hml hv
  obtain ⟨rfl, hP, hC⟩ := hv
  have hK := hC.1
  have hx := B.exec
  have hb := B.bytes
  have hr := B.returns
  have hts := atoms_spec (ws := wsX5_armedDevices) B.pre
  have hown : s.vm.findClass RX5 = some m.cls := findClass_of_methodNamed B.named
  have hlocks := B.notSynchronized
  have hS : va_S (fun _ => False) s.heap s.heap [] := va_S.rf
  have hl := lv_entry ([.ref (a 30)]) (n := 3) (Nat.le_of_ble_eq_true rfl)
  rw [lg_entry_eq]
  generalize (lg_sl ([.ref (a 30)]) ++ List.replicate (3 - (lg_sl ([.ref (a 30)])).length) Slot.unset).toArray = ls at hl ⊢
  have hl : lv_has ls 3 [(0, .ref (a 30))] := hl
  refine lv_iconst (v := 0) hx hb dX5_armedDevices_0 (by decide) ?_
  refine lv_istore_n (lv' := [(1, .int 0), (0, .ref (a 30))]) hx hb dX5_armedDevices_1 rfl hl (by decide) rfl (fun ls hl => ?_)
  refine lv_iconst (v := 0) hx hb dX5_armedDevices_2 (by decide) ?_
  refine lv_istore_n (lv' := [(2, .int 0), (1, .int 0), (0, .ref (a 30))]) hx hb dX5_armedDevices_3 rfl hl (by decide) rfl (fun ls hl => ?_)
  refine lv_iload_n hx hb dX5_armedDevices_4 rfl (lv_at hl 0 rfl) ?_
  refine lv_aload_n hx hb dX5_armedDevices_5 rfl (lv_at hl 2 rfl) ?_
  refine va_get (D := (dC, dI)) (ci := 5) (v := .ref (a 1)) (C := RX5) (T := TX5) (N := 4) hx hb hts i_X5_armedDevices_X5 hown hK hP 30 rfl rfl 1 (by decide) (hts _ m_X5_armedDevices_1) (fun _ h9 => h9) rfl dX5_armedDevices_6 ?_
  refine va_get (D := (dC, dI)) (ci := 8) (v := .int 1) (C := RX8) (T := TX8) (N := 17) hx hb hts i_X5_armedDevices_X8 hown hK hP 1 rfl rfl 0 (by decide) (hts _ m_X5_armedDevices_2) (fun _ h9 => h9) rfl dX5_armedDevices_9 ?_
  refine lv_icmp_ge (tgt := 42) hx hb dX5_armedDevices_12 (by decide) (fun c9_ => absurd c9_ (by decide)) (fun _ => ?_)
  refine lv_iload_n hx hb dX5_armedDevices_15 rfl (lv_at hl 1 rfl) ?_
  refine lv_aload_n hx hb dX5_armedDevices_16 rfl (lv_at hl 2 rfl) ?_
  refine va_get (D := (dC, dI)) (ci := 5) (v := .ref (a 1)) (C := RX5) (T := TX5) (N := 4) hx hb hts i_X5_armedDevices_X5 hown hK hP 30 rfl rfl 1 (by decide) (hts _ m_X5_armedDevices_1) (fun _ h9 => h9) rfl dX5_armedDevices_17 ?_
  refine va_get (D := (dC, dI)) (ci := 8) (v := .ref (a 7)) (C := RX8) (T := TX8) (N := 17) hx hb hts i_X5_armedDevices_X8 hown hK hP 1 rfl rfl 8 (by decide) (hts _ m_X5_armedDevices_3) (fun _ h9 => h9) rfl dX5_armedDevices_20 ?_
  refine lv_iload_n hx hb dX5_armedDevices_23 rfl (lv_at hl 0 rfl) ?_
  refine va_iald hx hb hK hP 7 0 rfl rfl (show ¬ ((0 : Int32) < 0 ∨ 32 ≤ Int32.toNatClampNeg 0) by decide) dX5_armedDevices_24 ?_
  refine tk_i (-1) (by rfl) ?_
  refine lv_iconst (v := (-1)) hx hb dX5_armedDevices_25 (by decide) ?_
  refine lv_icmp_ne (tgt := 33) hx hb dX5_armedDevices_26 (by decide) (fun c9_ => absurd c9_ (by decide)) (fun _ => ?_)
  refine lv_iconst (v := 0) hx hb dX5_armedDevices_29 (by decide) ?_
  refine lv_goto (tgt := 34) hx hb dX5_armedDevices_30 (by decide) ?_
  refine lv_iadd hx hb dX5_armedDevices_34 ?_
  refine tk_i 0 (by decide) ?_
  refine lv_istore_n (lv' := [(1, .int 0), (2, .int 0), (0, .ref (a 30))]) hx hb dX5_armedDevices_35 rfl hl (by decide) rfl (fun ls hl => ?_)
  refine lv_iinc (v := 1) (lv' := [(2, .int 1), (1, .int 0), (0, .ref (a 30))]) hx hb dX5_armedDevices_36 hl (k := 1) rfl (by decide) (by decide) rfl (fun ls hl => ?_)
  refine lv_goto (tgt := 4) hx hb dX5_armedDevices_39 (by decide) ?_
  refine lv_iload_n hx hb dX5_armedDevices_4 rfl (lv_at hl 0 rfl) ?_
  refine lv_aload_n hx hb dX5_armedDevices_5 rfl (lv_at hl 2 rfl) ?_
  refine va_get (D := (dC, dI)) (ci := 5) (v := .ref (a 1)) (C := RX5) (T := TX5) (N := 4) hx hb hts i_X5_armedDevices_X5 hown hK hP 30 rfl rfl 1 (by decide) (hts _ m_X5_armedDevices_1) (fun _ h9 => h9) rfl dX5_armedDevices_6 ?_
  refine va_get (D := (dC, dI)) (ci := 8) (v := .int 1) (C := RX8) (T := TX8) (N := 17) hx hb hts i_X5_armedDevices_X8 hown hK hP 1 rfl rfl 0 (by decide) (hts _ m_X5_armedDevices_2) (fun _ h9 => h9) rfl dX5_armedDevices_9 ?_
  refine lv_icmp_ge (tgt := 42) hx hb dX5_armedDevices_12 (by decide) (fun _ => ?_) (fun c9_ => absurd (by decide) c9_)
  refine lv_iload_n hx hb dX5_armedDevices_42 rfl (lv_at hl 1 rfl) ?_
  exact W.iret (v := 0) hx hb hr (fun t ht hW => ⟨⟨0, (), rfl, rfl, trivial⟩, hS.F ht⟩) hS.2.2 dX5_armedDevices_43

set_option maxHeartbeats 4000000 in
set_option maxRecDepth 100000 in
theorem c_X11_refusalToRun (l : Launch) (dC : Nat → ClassId) (dI : Nat → Nat → Nat) (cy : Nat → ClassId) (a : Nat → Nat) (g : Nat → Nat → Option Nat) (p0 p1 p2 p3 : Int32) : Met l yX11_refusalToRun wsX11_refusalToRun ({ frames := 2, cells := 0, slots := 0, locals := 43 }) (va_Pc [.ref (a 0), .int p0, .int p1, .int p2, .int p3] (pp dC dI cy (fw a cy g))) (va_Qi (fun (r : Int32) (_ : Unit) => ((p1 < 0) ∧ r = (-1)) ∨ ((¬ p1 < 0) ∧ ((65536 : Int32) ≤ p1) ∧ r = (-1)) ∨ ((¬ p1 < 0) ∧ (¬ (65536 : Int32) ≤ p1) ∧ (p2 < 0) ∧ r = (-1)) ∨ ((¬ p1 < 0) ∧ (¬ (65536 : Int32) ≤ p1) ∧ (¬ p2 < 0) ∧ ((65536 : Int32) ≤ p2) ∧ r = (-1)) ∨ ((¬ p1 < 0) ∧ (¬ (65536 : Int32) ≤ p1) ∧ (¬ p2 < 0) ∧ (¬ (65536 : Int32) ≤ p2) ∧ (p3 < 0) ∧ r = (-1)) ∨ ((¬ p1 < 0) ∧ (¬ (65536 : Int32) ≤ p1) ∧ (¬ p2 < 0) ∧ (¬ (65536 : Int32) ≤ p2) ∧ (¬ p3 < 0) ∧ ((65536 : Int32) ≤ p3) ∧ r = (-1)) ∨ ((¬ p1 < 0) ∧ (¬ (65536 : Int32) ≤ p1) ∧ (¬ p2 < 0) ∧ (¬ (65536 : Int32) ≤ p2) ∧ (¬ p3 < 0) ∧ (¬ (65536 : Int32) ≤ p3) ∧ (p0 < 0) ∧ r = (-2)) ∨ ((¬ p1 < 0) ∧ (¬ (65536 : Int32) ≤ p1) ∧ (¬ p2 < 0) ∧ (¬ (65536 : Int32) ≤ p2) ∧ (¬ p3 < 0) ∧ (¬ (65536 : Int32) ≤ p3) ∧ (¬ p0 < 0) ∧ ((1 : Int32) ≤ p0) ∧ r = (-2)) ∨ ((¬ p1 < 0) ∧ (¬ (65536 : Int32) ≤ p1) ∧ (¬ p2 < 0) ∧ (¬ (65536 : Int32) ≤ p2) ∧ (¬ p3 < 0) ∧ (¬ (65536 : Int32) ≤ p3) ∧ (p0 = 0) ∧ r = (-2))) (fun _ _ => True) (fun _ => False)) 0 0 (fun _ => False) := by
  refine Met.ofW (cc := cX11_refusalToRun) (maxL := 5) (ret := (some .int)) (by decide) rfl ?_
  intro p e s m args below meth c s₁ B hml hv
  obtain ⟨rfl, hP, hC⟩ := hv
  have hK := hC.1
  have hx := B.exec
  have hb := B.bytes
  have hr := B.returns
  have hts := atoms_spec (ws := wsX11_refusalToRun) B.pre
  have hown : s.vm.findClass RX11 = some m.cls := findClass_of_methodNamed B.named
  have hlocks := B.notSynchronized
  have hS : va_S (fun _ => False) s.heap s.heap [] := va_S.rf
  have hl := lv_entry ([.ref (a 0), .int p0, .int p1, .int p2, .int p3]) (n := 5) (Nat.le_of_ble_eq_true rfl)
  rw [lg_entry_eq]
  generalize (lg_sl ([.ref (a 0), .int p0, .int p1, .int p2, .int p3]) ++ List.replicate (5 - (lg_sl ([.ref (a 0), .int p0, .int p1, .int p2, .int p3])).length) Slot.unset).toArray = ls at hl ⊢
  have hl : lv_has ls 5 [(0, .ref (a 0)), (1, .int p0), (2, .int p1), (3, .int p2), (4, .int p3)] := hl
  refine lv_iload_n hx hb dX11_refusalToRun_0 rfl (lv_at hl 2 rfl) ?_
  refine tk_pi (va_runS (As := [.int p1]) (rest := []) ⟨hx, hb, hml, hown, hts⟩ (c_X11_isValue l dC dI cy  p1) (va_cwS 1 hts gX11_refusalToRun_X11_isValue rfl rfl rfl (by decide +kernel) ⟨Nat.le_of_ble_eq_true rfl, Nat.le_of_ble_eq_true rfl⟩) (pS_pp hC va_P0) rfl rfl hl.1 rfl (lv_room (Nat.le_of_ble_eq_true rfl)) dX11_refusalToRun_1 ⟨Nat.le_of_ble_eq_true rfl, Nat.le_of_ble_eq_true rfl⟩) hP hS (fun r_ H locs hw hP hS => ?_)
  rcases hw with ⟨c1_, rfl⟩ | ⟨c2_, c3_, rfl⟩ | ⟨c4_, c5_, rfl⟩
  · skip
    refine lv_if_eq (tgt := 22) hx hb dX11_refusalToRun_4 (by decide) (fun _ => ?_) (fun c9_ => absurd (by decide) c9_)
    refine lv_iconst (v := (-1)) hx hb dX11_refusalToRun_22 (by decide) ?_
    exact W.iret (v := (-1)) hx hb hr (fun t ht hW => ⟨⟨(-1), (), rfl, Or.inl (⟨c1_, rfl⟩), trivial⟩, hS.F ht⟩) hS.2.2 dX11_refusalToRun_23
  · skip
    refine lv_if_eq (tgt := 22) hx hb dX11_refusalToRun_4 (by decide) (fun _ => ?_) (fun c9_ => absurd (by decide) c9_)
    refine lv_iconst (v := (-1)) hx hb dX11_refusalToRun_22 (by decide) ?_
    exact W.iret (v := (-1)) hx hb hr (fun t ht hW => ⟨⟨(-1), (), rfl, Or.inr (Or.inl (⟨c2_, c3_, rfl⟩)), trivial⟩, hS.F ht⟩) hS.2.2 dX11_refusalToRun_23
  · skip
    refine lv_if_eq (tgt := 22) hx hb dX11_refusalToRun_4 (by decide) (fun c9_ => absurd c9_ (by decide)) (fun _ => ?_)
    refine lv_iload_n hx hb dX11_refusalToRun_7 rfl (lv_at hl 3 rfl) ?_
    refine tk_pi (va_runS (As := [.int p2]) (rest := []) ⟨hx, hb, hml, hown, hts⟩ (c_X11_isValue l dC dI cy  p2) (va_cwS 1 hts gX11_refusalToRun_X11_isValue rfl rfl rfl (by decide +kernel) ⟨Nat.le_of_ble_eq_true rfl, Nat.le_of_ble_eq_true rfl⟩) (pS_pp hC va_P0) rfl rfl hl.1 rfl (lv_room (Nat.le_of_ble_eq_true rfl)) dX11_refusalToRun_8 ⟨Nat.le_of_ble_eq_true rfl, Nat.le_of_ble_eq_true rfl⟩) hP hS (fun r_ H locs hw hP hS => ?_)
    rcases hw with ⟨c6_, rfl⟩ | ⟨c7_, c8_, rfl⟩ | ⟨c9_, c10_, rfl⟩
    · skip
      refine lv_if_eq (tgt := 22) hx hb dX11_refusalToRun_11 (by decide) (fun _ => ?_) (fun c9_ => absurd (by decide) c9_)
      refine lv_iconst (v := (-1)) hx hb dX11_refusalToRun_22 (by decide) ?_
      exact W.iret (v := (-1)) hx hb hr (fun t ht hW => ⟨⟨(-1), (), rfl, Or.inr (Or.inr (Or.inl (⟨c4_, c5_, c6_, rfl⟩))), trivial⟩, hS.F ht⟩) hS.2.2 dX11_refusalToRun_23
    · skip
      refine lv_if_eq (tgt := 22) hx hb dX11_refusalToRun_11 (by decide) (fun _ => ?_) (fun c9_ => absurd (by decide) c9_)
      refine lv_iconst (v := (-1)) hx hb dX11_refusalToRun_22 (by decide) ?_
      exact W.iret (v := (-1)) hx hb hr (fun t ht hW => ⟨⟨(-1), (), rfl, Or.inr (Or.inr (Or.inr (Or.inl (⟨c4_, c5_, c7_, c8_, rfl⟩)))), trivial⟩, hS.F ht⟩) hS.2.2 dX11_refusalToRun_23
    · skip
      refine lv_if_eq (tgt := 22) hx hb dX11_refusalToRun_11 (by decide) (fun c9_ => absurd c9_ (by decide)) (fun _ => ?_)
      refine lv_iload hx hb dX11_refusalToRun_14 (lv_at hl 4 rfl) ?_
      refine tk_pi (va_runS (As := [.int p3]) (rest := []) ⟨hx, hb, hml, hown, hts⟩ (c_X11_isValue l dC dI cy  p3) (va_cwS 1 hts gX11_refusalToRun_X11_isValue rfl rfl rfl (by decide +kernel) ⟨Nat.le_of_ble_eq_true rfl, Nat.le_of_ble_eq_true rfl⟩) (pS_pp hC va_P0) rfl rfl hl.1 rfl (lv_room (Nat.le_of_ble_eq_true rfl)) dX11_refusalToRun_16 ⟨Nat.le_of_ble_eq_true rfl, Nat.le_of_ble_eq_true rfl⟩) hP hS (fun r_ H locs hw hP hS => ?_)
      rcases hw with ⟨c11_, rfl⟩ | ⟨c12_, c13_, rfl⟩ | ⟨c14_, c15_, rfl⟩
      · skip
        refine lv_if_ne (tgt := 24) hx hb dX11_refusalToRun_19 (by decide) (fun c9_ => absurd c9_ (by decide)) (fun _ => ?_)
        refine lv_iconst (v := (-1)) hx hb dX11_refusalToRun_22 (by decide) ?_
        exact W.iret (v := (-1)) hx hb hr (fun t ht hW => ⟨⟨(-1), (), rfl, Or.inr (Or.inr (Or.inr (Or.inr (Or.inl (⟨c4_, c5_, c9_, c10_, c11_, rfl⟩))))), trivial⟩, hS.F ht⟩) hS.2.2 dX11_refusalToRun_23
      · skip
        refine lv_if_ne (tgt := 24) hx hb dX11_refusalToRun_19 (by decide) (fun c9_ => absurd c9_ (by decide)) (fun _ => ?_)
        refine lv_iconst (v := (-1)) hx hb dX11_refusalToRun_22 (by decide) ?_
        exact W.iret (v := (-1)) hx hb hr (fun t ht hW => ⟨⟨(-1), (), rfl, Or.inr (Or.inr (Or.inr (Or.inr (Or.inr (Or.inl (⟨c4_, c5_, c9_, c10_, c12_, c13_, rfl⟩)))))), trivial⟩, hS.F ht⟩) hS.2.2 dX11_refusalToRun_23
      · skip
        refine lv_if_ne (tgt := 24) hx hb dX11_refusalToRun_19 (by decide) (fun _ => ?_) (fun c9_ => absurd (by decide) c9_)
        refine lv_aload_n hx hb dX11_refusalToRun_24 rfl (lv_at hl 0 rfl) ?_
        refine va_get (D := (dC, dI)) (ci := 11) (v := .ref (a 21)) (C := RX11) (T := TX11) (N := 11) hx hb hts i_X11_refusalToRun_X11 hown hK hP 0 rfl rfl 2 (by decide) (hts _ m_X11_refusalToRun_1) (fun _ h9 => h9) rfl dX11_refusalToRun_25 ?_
        refine lv_iload_n hx hb dX11_refusalToRun_28 rfl (lv_at hl 1 rfl) ?_
        refine lv_iconst (v := 3) hx hb dX11_refusalToRun_29 (by decide) ?_
        refine tk_pi (va_runV (As := [.int p0, .int 3]) (rest := []) ⟨hx, hb, hml, hown, hts⟩ (c_X10_is l dC dI cy a g p0 3) (cwV 2 hts gX11_refusalToRun_X10_is rfl rfl rfl (by decide +kernel) ⟨Nat.le_of_ble_eq_true rfl, Nat.le_of_ble_eq_true rfl⟩) (pv_pp hC hP (ci := 10) (q0 := 21) rfl rfl) rfl rfl hl.1 rfl (lv_room (Nat.le_of_ble_eq_true rfl)) dX11_refusalToRun_30 ⟨Nat.le_of_ble_eq_true rfl, Nat.le_of_ble_eq_true rfl⟩) hP hS (fun r_ H locs hw hP hS => ?_)
        rcases hw with ⟨c16_, rfl⟩ | ⟨c17_, c18_, rfl⟩ | ⟨c19_, -, rfl⟩ | ⟨c21_, c22_, rfl⟩
        · skip
          refine lv_if_ne (tgt := 39) hx hb dX11_refusalToRun_33 (by decide) (fun c9_ => absurd c9_ (by decide)) (fun _ => ?_)
          refine lv_bipush (v := (-2)) hx hb dX11_refusalToRun_36 (by decide) ?_
          exact W.iret (v := (-2)) hx hb hr (fun t ht hW => ⟨⟨(-2), (), rfl, Or.inr (Or.inr (Or.inr (Or.inr (Or.inr (Or.inr (Or.inl (⟨c4_, c5_, c9_, c10_, c14_, c15_, c16_, rfl⟩))))))), trivial⟩, hS.F ht⟩) hS.2.2 dX11_refusalToRun_38
        · skip
          refine lv_if_ne (tgt := 39) hx hb dX11_refusalToRun_33 (by decide) (fun c9_ => absurd c9_ (by decide)) (fun _ => ?_)
          refine lv_bipush (v := (-2)) hx hb dX11_refusalToRun_36 (by decide) ?_
          exact W.iret (v := (-2)) hx hb hr (fun t ht hW => ⟨⟨(-2), (), rfl, Or.inr (Or.inr (Or.inr (Or.inr (Or.inr (Or.inr (Or.inr (Or.inl (⟨c4_, c5_, c9_, c10_, c14_, c15_, c17_, c18_, rfl⟩)))))))), trivial⟩, hS.F ht⟩) hS.2.2 dX11_refusalToRun_38
        · skip
          subst c19_
          refine lv_if_ne (tgt := 39) hx hb dX11_refusalToRun_33 (by decide) (fun c9_ => absurd c9_ (by decide)) (fun _ => ?_)
          refine lv_bipush (v := (-2)) hx hb dX11_refusalToRun_36 (by decide) ?_
          exact W.iret (v := (-2)) hx hb hr (fun t ht hW => ⟨⟨(-2), (), rfl, Or.inr (Or.inr (Or.inr (Or.inr (Or.inr (Or.inr (Or.inr (Or.inr (⟨c4_, c5_, c9_, c10_, c14_, c15_, rfl, rfl⟩)))))))), trivial⟩, hS.F ht⟩) hS.2.2 dX11_refusalToRun_38
        · skip
          exact absurd c22_ (by decide)

set_option maxHeartbeats 4000000 in
set_option maxRecDepth 100000 in
theorem c_X11_refusalToChange (l : Launch) (dC : Nat → ClassId) (dI : Nat → Nat → Nat) (cy : Nat → ClassId) (a : Nat → Nat) (g : Nat → Nat → Option Nat) (p0 : Int32) : Met l yX11_refusalToChange wsX11_refusalToChange ({ frames := 2, cells := 0, slots := 0, locals := 43 }) (va_Pc [.ref (a 0), .int p0] (pp dC dI cy (fw a cy g))) (va_Qi (fun (r : Int32) (_ : Unit) => ((p0 = 0) ∧ r = (-2)) ∨ ((¬ p0 = 0) ∧ (p0 < 0) ∧ r = (-2)) ∨ ((¬ p0 = 0) ∧ (¬ p0 < 0) ∧ ((1 : Int32) ≤ p0) ∧ r = (-2))) (fun _ _ => True) (fun _ => False)) 0 0 (fun _ => False) := by
  refine Met.ofW (cc := cX11_refusalToChange) (maxL := 2) (ret := (some .int)) (by decide) rfl ?_
  intro p e s m args below meth c s₁ B hml hv
  obtain ⟨rfl, hP, hC⟩ := hv
  have hK := hC.1
  have hx := B.exec
  have hb := B.bytes
  have hr := B.returns
  have hts := atoms_spec (ws := wsX11_refusalToChange) B.pre
  have hown : s.vm.findClass RX11 = some m.cls := findClass_of_methodNamed B.named
  have hlocks := B.notSynchronized
  have hS : va_S (fun _ => False) s.heap s.heap [] := va_S.rf
  have hl := lv_entry ([.ref (a 0), .int p0]) (n := 2) (Nat.le_of_ble_eq_true rfl)
  rw [lg_entry_eq]
  generalize (lg_sl ([.ref (a 0), .int p0]) ++ List.replicate (2 - (lg_sl ([.ref (a 0), .int p0])).length) Slot.unset).toArray = ls at hl ⊢
  have hl : lv_has ls 2 [(0, .ref (a 0)), (1, .int p0)] := hl
  refine lv_iload_n hx hb dX11_refusalToChange_0 rfl (lv_at hl 1 rfl) ?_
  refine lv_if_eq (tgt := 16) hx hb dX11_refusalToChange_1 (by decide) (fun c1_ => ?_) (fun c1_ => ?_)
  · skip
    subst c1_
    refine lv_bipush (v := (-2)) hx hb dX11_refusalToChange_16 (by decide) ?_
    exact W.iret (v := (-2)) hx hb hr (fun t ht hW => ⟨⟨(-2), (), rfl, Or.inl (⟨rfl, rfl⟩), trivial⟩, hS.F ht⟩) hS.2.2 dX11_refusalToChange_18
  · skip
    refine lv_aload_n hx hb dX11_refusalToChange_4 rfl (lv_at hl 0 rfl) ?_
    refine va_get (D := (dC, dI)) (ci := 11) (v := .ref (a 21)) (C := RX11) (T := TX11) (N := 11) hx hb hts i_X11_refusalToChange_X11 hown hK hP 0 rfl rfl 2 (by decide) (hts _ m_X11_refusalToChange_1) (fun _ h9 => h9) rfl dX11_refusalToChange_5 ?_
    refine lv_iload_n hx hb dX11_refusalToChange_8 rfl (lv_at hl 1 rfl) ?_
    refine lv_iconst (v := 1) hx hb dX11_refusalToChange_9 (by decide) ?_
    refine tk_pi (va_runV (As := [.int p0, .int 1]) (rest := []) ⟨hx, hb, hml, hown, hts⟩ (c_X10_is l dC dI cy a g p0 1) (cwV 2 hts gX11_refusalToChange_X10_is rfl rfl rfl (by decide +kernel) ⟨Nat.le_of_ble_eq_true rfl, Nat.le_of_ble_eq_true rfl⟩) (pv_pp hC hP (ci := 10) (q0 := 21) rfl rfl) rfl rfl hl.1 rfl (lv_room (Nat.le_of_ble_eq_true rfl)) dX11_refusalToChange_10 ⟨Nat.le_of_ble_eq_true rfl, Nat.le_of_ble_eq_true rfl⟩) hP hS (fun r_ H locs hw hP hS => ?_)
    rcases hw with ⟨c2_, rfl⟩ | ⟨c3_, c4_, rfl⟩ | ⟨c5_, c6_, rfl⟩ | ⟨c7_, -, rfl⟩
    · skip
      refine lv_if_ne (tgt := 19) hx hb dX11_refusalToChange_13 (by decide) (fun c9_ => absurd c9_ (by decide)) (fun _ => ?_)
      refine lv_bipush (v := (-2)) hx hb dX11_refusalToChange_16 (by decide) ?_
      exact W.iret (v := (-2)) hx hb hr (fun t ht hW => ⟨⟨(-2), (), rfl, Or.inr (Or.inl (⟨c1_, c2_, rfl⟩)), trivial⟩, hS.F ht⟩) hS.2.2 dX11_refusalToChange_18
    · skip
      refine lv_if_ne (tgt := 19) hx hb dX11_refusalToChange_13 (by decide) (fun c9_ => absurd c9_ (by decide)) (fun _ => ?_)
      refine lv_bipush (v := (-2)) hx hb dX11_refusalToChange_16 (by decide) ?_
      exact W.iret (v := (-2)) hx hb hr (fun t ht hW => ⟨⟨(-2), (), rfl, Or.inr (Or.inr (⟨c1_, c3_, c4_, rfl⟩)), trivial⟩, hS.F ht⟩) hS.2.2 dX11_refusalToChange_18
    · skip
      exact absurd c6_ (by decide)
    · skip
      exfalso
      have z0_ := tz_neq_r c1_ (show (0 : Int32).toInt = 0 by decide)
      have z1_ := tz_eq_r c7_ (show (0 : Int32).toInt = 0 by decide)
      omega

set_option maxHeartbeats 4000000 in
set_option maxRecDepth 100000 in
theorem c_X11_refusalToPower (l : Launch) (dC : Nat → ClassId) (dI : Nat → Nat → Nat) (cy : Nat → ClassId) (a : Nat → Nat) (g : Nat → Nat → Option Nat) (p0 p1 : Int32) : Met l yX11_refusalToPower wsX11_refusalToPower ({ frames := 3, cells := 0, slots := 0, locals := 64 }) (va_Pc [.ref (a 0), .int p0, .int p1] (pp dC dI cy (fw a cy g))) (va_Qi (fun (r : Int32) (_ : Unit) => ((p1 < 0) ∧ r = (-1)) ∨ ((¬ p1 < 0) ∧ (p1 ≤ 3) ∧ (p0 = 0) ∧ r = (-2)) ∨ ((¬ p1 < 0) ∧ (p1 ≤ 3) ∧ (¬ p0 = 0) ∧ (p0 < 0) ∧ r = (-2)) ∨ ((¬ p1 < 0) ∧ (p1 ≤ 3) ∧ (¬ p0 = 0) ∧ (¬ p0 < 0) ∧ ((1 : Int32) ≤ p0) ∧ r = (-2)) ∨ ((¬ p1 < 0) ∧ (¬ p1 ≤ 3) ∧ r = (-1))) (fun _ _ => True) (fun _ => False)) 0 0 (fun _ => False) := by
  refine Met.ofW (cc := cX11_refusalToPower) (maxL := 5) (ret := (some .int)) (by decide) rfl ?_
  intro p e s m args below meth c s₁ B hml hv
  obtain ⟨rfl, hP, hC⟩ := hv
  have hK := hC.1
  have hx := B.exec
  have hb := B.bytes
  have hr := B.returns
  have hts := atoms_spec (ws := wsX11_refusalToPower) B.pre
  have hown : s.vm.findClass RX11 = some m.cls := findClass_of_methodNamed B.named
  have hlocks := B.notSynchronized
  have hS : va_S (fun _ => False) s.heap s.heap [] := va_S.rf
  have hl := lv_entry ([.ref (a 0), .int p0, .int p1]) (n := 5) (Nat.le_of_ble_eq_true rfl)
  rw [lg_entry_eq]
  generalize (lg_sl ([.ref (a 0), .int p0, .int p1]) ++ List.replicate (5 - (lg_sl ([.ref (a 0), .int p0, .int p1])).length) Slot.unset).toArray = ls at hl ⊢
  have hl : lv_has ls 5 [(0, .ref (a 0)), (1, .int p0), (2, .int p1)] := hl
  refine lv_iload_n hx hb dX11_refusalToPower_0 rfl (lv_at hl 2 rfl) ?_
  refine lv_if_lt (tgt := 9) hx hb dX11_refusalToPower_1 (by decide) (fun c1_ => ?_) (fun c1_ => ?_)
  · skip
    refine lv_iconst (v := (-1)) hx hb dX11_refusalToPower_9 (by decide) ?_
    exact W.iret (v := (-1)) hx hb hr (fun t ht hW => ⟨⟨(-1), (), rfl, Or.inl (⟨c1_, rfl⟩), trivial⟩, hS.F ht⟩) hS.2.2 dX11_refusalToPower_10
  · skip
    refine lv_iload_n hx hb dX11_refusalToPower_4 rfl (lv_at hl 2 rfl) ?_
    refine lv_iconst (v := 3) hx hb dX11_refusalToPower_5 (by decide) ?_
    refine lv_icmp_le (tgt := 11) hx hb dX11_refusalToPower_6 (by decide) (fun c2_ => ?_) (fun c2_ => ?_)
    · skip
      refine lv_aload_n hx hb dX11_refusalToPower_11 rfl (lv_at hl 0 rfl) ?_
      refine lv_iload_n hx hb dX11_refusalToPower_12 rfl (lv_at hl 1 rfl) ?_
      refine tk_pi (va_runV (As := [.int p0]) (rest := []) ⟨hx, hb, hml, hown, hts⟩ (c_X11_refusalToChange l dC dI cy a g p0) (cwV 1 hts gX11_refusalToPower_X11_refusalToChange rfl rfl rfl (by decide +kernel) ⟨Nat.le_of_ble_eq_true rfl, Nat.le_of_ble_eq_true rfl⟩) (pv_pp hC hP (ci := 11) (q0 := 0) rfl rfl) rfl rfl hl.1 rfl (lv_room (Nat.le_of_ble_eq_true rfl)) dX11_refusalToPower_13 ⟨Nat.le_of_ble_eq_true rfl, Nat.le_of_ble_eq_true rfl⟩) hP hS (fun r_ H locs hw hP hS => ?_)
      rcases hw with ⟨c3_, rfl⟩ | ⟨c4_, c5_, rfl⟩ | ⟨c6_, c7_, c8_, rfl⟩
      · skip
        subst c3_
        refine lv_istore_n (lv' := [(3, .int (-2)), (0, .ref (a 0)), (1, .int 0), (2, .int p1)]) hx hb dX11_refusalToPower_16 rfl hl (by decide) rfl (fun ls hl => ?_)
        refine lv_iload_n hx hb dX11_refusalToPower_17 rfl (lv_at hl 0 rfl) ?_
        refine lv_if_eq (tgt := 23) hx hb dX11_refusalToPower_18 (by decide) (fun c9_ => absurd c9_ (by decide)) (fun _ => ?_)
        refine lv_iload_n hx hb dX11_refusalToPower_21 rfl (lv_at hl 0 rfl) ?_
        exact W.iret (v := (-2)) hx hb hr (fun t ht hW => ⟨⟨(-2), (), rfl, Or.inr (Or.inl (⟨c1_, c2_, rfl, rfl⟩)), trivial⟩, hS.F ht⟩) hS.2.2 dX11_refusalToPower_22
      · skip
        refine lv_istore_n (lv' := [(3, .int (-2)), (0, .ref (a 0)), (1, .int p0), (2, .int p1)]) hx hb dX11_refusalToPower_16 rfl hl (by decide) rfl (fun ls hl => ?_)
        refine lv_iload_n hx hb dX11_refusalToPower_17 rfl (lv_at hl 0 rfl) ?_
        refine lv_if_eq (tgt := 23) hx hb dX11_refusalToPower_18 (by decide) (fun c9_ => absurd c9_ (by decide)) (fun _ => ?_)
        refine lv_iload_n hx hb dX11_refusalToPower_21 rfl (lv_at hl 0 rfl) ?_
        exact W.iret (v := (-2)) hx hb hr (fun t ht hW => ⟨⟨(-2), (), rfl, Or.inr (Or.inr (Or.inl (⟨c1_, c2_, c4_, c5_, rfl⟩))), trivial⟩, hS.F ht⟩) hS.2.2 dX11_refusalToPower_22
      · skip
        refine lv_istore_n (lv' := [(3, .int (-2)), (0, .ref (a 0)), (1, .int p0), (2, .int p1)]) hx hb dX11_refusalToPower_16 rfl hl (by decide) rfl (fun ls hl => ?_)
        refine lv_iload_n hx hb dX11_refusalToPower_17 rfl (lv_at hl 0 rfl) ?_
        refine lv_if_eq (tgt := 23) hx hb dX11_refusalToPower_18 (by decide) (fun c9_ => absurd c9_ (by decide)) (fun _ => ?_)
        refine lv_iload_n hx hb dX11_refusalToPower_21 rfl (lv_at hl 0 rfl) ?_
        exact W.iret (v := (-2)) hx hb hr (fun t ht hW => ⟨⟨(-2), (), rfl, Or.inr (Or.inr (Or.inr (Or.inl (⟨c1_, c2_, c6_, c7_, c8_, rfl⟩)))), trivial⟩, hS.F ht⟩) hS.2.2 dX11_refusalToPower_22
    · skip
      refine lv_iconst (v := (-1)) hx hb dX11_refusalToPower_9 (by decide) ?_
      exact W.iret (v := (-1)) hx hb hr (fun t ht hW => ⟨⟨(-1), (), rfl, Or.inr (Or.inr (Or.inr (Or.inr (⟨c1_, c2_, rfl⟩)))), trivial⟩, hS.F ht⟩) hS.2.2 dX11_refusalToPower_10

set_option maxHeartbeats 4000000 in
set_option maxRecDepth 100000 in
theorem c_X11_refusalToRest (l : Launch) (dC : Nat → ClassId) (dI : Nat → Nat → Nat) (cy : Nat → ClassId) (a : Nat → Nat) (g : Nat → Nat → Option Nat) (p0 : Int32) : Met l yX11_refusalToRest wsX11_refusalToRest ({ frames := 4, cells := 0, slots := 0, locals := 92 }) (va_Pc [.ref (a 0), .int p0] (pp dC dI cy (fw a cy g))) (va_Qi (fun (r : Int32) (_ : Unit) => ((p0 < 1) ∧ r = (-1)) ∨ ((¬ p0 < 1) ∧ (p0 ≤ 4) ∧ r = (-4)) ∨ ((¬ p0 < 1) ∧ (¬ p0 ≤ 4) ∧ r = (-1))) (fun _ _ => True) (fun _ => False)) 0 0 (fun _ => False) := by
  refine Met.ofW (cc := cX11_refusalToRest) (maxL := 2) (ret := (some .int)) (by decide) rfl ?_
  intro p e s m args below meth c s₁ B hml hv
  obtain ⟨rfl, hP, hC⟩ := hv
  have hK := hC.1
  have hx := B.exec
  have hb := B.bytes
  have hr := B.returns
  have hts := atoms_spec (ws := wsX11_refusalToRest) B.pre
  have hown : s.vm.findClass RX11 = some m.cls := findClass_of_methodNamed B.named
  have hlocks := B.notSynchronized
  have hS : va_S (fun _ => False) s.heap s.heap [] := va_S.rf
  have hl := lv_entry ([.ref (a 0), .int p0]) (n := 2) (Nat.le_of_ble_eq_true rfl)
  rw [lg_entry_eq]
  generalize (lg_sl ([.ref (a 0), .int p0]) ++ List.replicate (2 - (lg_sl ([.ref (a 0), .int p0])).length) Slot.unset).toArray = ls at hl ⊢
  have hl : lv_has ls 2 [(0, .ref (a 0)), (1, .int p0)] := hl
  refine lv_iload_n hx hb dX11_refusalToRest_0 rfl (lv_at hl 1 rfl) ?_
  refine lv_iconst (v := 1) hx hb dX11_refusalToRest_1 (by decide) ?_
  refine lv_icmp_lt (tgt := 10) hx hb dX11_refusalToRest_2 (by decide) (fun c1_ => ?_) (fun c1_ => ?_)
  · skip
    refine lv_iconst (v := (-1)) hx hb dX11_refusalToRest_10 (by decide) ?_
    exact W.iret (v := (-1)) hx hb hr (fun t ht hW => ⟨⟨(-1), (), rfl, Or.inl (⟨c1_, rfl⟩), trivial⟩, hS.F ht⟩) hS.2.2 dX11_refusalToRest_11
  · skip
    refine lv_iload_n hx hb dX11_refusalToRest_5 rfl (lv_at hl 1 rfl) ?_
    refine lv_iconst (v := 4) hx hb dX11_refusalToRest_6 (by decide) ?_
    refine lv_icmp_le (tgt := 12) hx hb dX11_refusalToRest_7 (by decide) (fun c2_ => ?_) (fun c2_ => ?_)
    · skip
      refine lv_aload_n hx hb dX11_refusalToRest_12 rfl (lv_at hl 0 rfl) ?_
      refine va_get (D := (dC, dI)) (ci := 11) (v := .ref (a 1)) (C := RX11) (T := TX11) (N := 11) hx hb hts i_X11_refusalToRest_X11 hown hK hP 0 rfl rfl 0 (by decide) (hts _ m_X11_refusalToRest_1) (fun _ h9 => h9) rfl dX11_refusalToRest_13 ?_
      refine va_get (D := (dC, dI)) (ci := 8) (v := .int 0) (C := RX8) (T := TX8) (N := 17) hx hb hts i_X11_refusalToRest_X8 hown hK hP 1 rfl rfl 1 (by decide) (hts _ m_X11_refusalToRest_2) (fun _ h9 => h9) rfl dX11_refusalToRest_16 ?_
      refine lv_if_eq (tgt := 25) hx hb dX11_refusalToRest_19 (by decide) (fun _ => ?_) (fun c9_ => absurd (by decide) c9_)
      refine lv_aload_n hx hb dX11_refusalToRest_25 rfl (lv_at hl 0 rfl) ?_
      refine va_get (D := (dC, dI)) (ci := 11) (v := .ref (a 31)) (C := RX11) (T := TX11) (N := 11) hx hb hts i_X11_refusalToRest_X11 hown hK hP 0 rfl rfl 6 (by decide) (hts _ m_X11_refusalToRest_3) (fun _ h9 => h9) rfl dX11_refusalToRest_26 ?_
      refine lv_iload_n hx hb dX11_refusalToRest_29 rfl (lv_at hl 1 rfl) ?_
      refine tk_pi (va_runV (As := [.int p0]) (rest := []) ⟨hx, hb, hml, hown, hts⟩ (c_X7_obstacle l dC dI cy a g p0) (cwV 1 hts gX11_refusalToRest_X7_obstacle rfl rfl rfl (by decide +kernel) ⟨Nat.le_of_ble_eq_true rfl, Nat.le_of_ble_eq_true rfl⟩) (pv_pp hC hP (ci := 7) (q0 := 31) rfl rfl) rfl rfl hl.1 rfl (lv_room (Nat.le_of_ble_eq_true rfl)) dX11_refusalToRest_30 ⟨Nat.le_of_ble_eq_true rfl, Nat.le_of_ble_eq_true rfl⟩) hP hS (fun r_ H locs hw hP hS => ?_)
      subst hw
      refine lv_if_eq (tgt := 41) hx hb dX11_refusalToRest_33 (by decide) (fun c9_ => absurd c9_ (by decide)) (fun _ => ?_)
      refine lv_bipush (v := (-4)) hx hb dX11_refusalToRest_36 (by decide) ?_
      refine lv_goto (tgt := 42) hx hb dX11_refusalToRest_38 (by decide) ?_
      exact W.iret (v := (-4)) hx hb hr (fun t ht hW => ⟨⟨(-4), (), rfl, Or.inr (Or.inl (⟨c1_, c2_, rfl⟩)), trivial⟩, hS.F ht⟩) hS.2.2 dX11_refusalToRest_42
    · skip
      refine lv_iconst (v := (-1)) hx hb dX11_refusalToRest_10 (by decide) ?_
      exact W.iret (v := (-1)) hx hb hr (fun t ht hW => ⟨⟨(-1), (), rfl, Or.inr (Or.inr (⟨c1_, c2_, rfl⟩)), trivial⟩, hS.F ht⟩) hS.2.2 dX11_refusalToRest_11

set_option maxHeartbeats 4000000 in
set_option maxRecDepth 100000 in
theorem c_X11_ofDevice (l : Launch) (dC : Nat → ClassId) (dI : Nat → Nat → Nat) (cy : Nat → ClassId) (a : Nat → Nat) (g : Nat → Nat → Option Nat) (p1 : Int32) : Met l yX11_ofDevice wsX11_ofDevice ({ frames := 0, cells := 0, slots := 0, locals := 0 }) (va_Pc [.ref (a 0), .int 0, .int p1] (pp dC dI cy (fw a cy g))) (va_Qi (fun (r : Int32) (_ : Unit) => ((p1 = 30) ∧ r = 0) ∨ ((p1 = 31) ∧ r = 0) ∨ ((p1 = 32) ∧ r = (-1)) ∨ ((p1 = 33) ∧ r = (-1)) ∨ ((¬ p1 = 30) ∧ (¬ p1 = 31) ∧ (¬ p1 = 32) ∧ (¬ p1 = 33) ∧ r = (-1))) (fun _ _ => True) (fun _ => False)) 0 0 (fun _ => False) := by
  refine Met.ofW (cc := cX11_ofDevice) (maxL := 3) (ret := (some .int)) (by decide) rfl ?_
  intro p e s m args below meth c s₁ B hml hv
  obtain ⟨rfl, hP, hC⟩ := hv
  have hK := hC.1
  have hx := B.exec
  have hb := B.bytes
  have hr := B.returns
  have hts := atoms_spec (ws := wsX11_ofDevice) B.pre
  have hown : s.vm.findClass RX11 = some m.cls := findClass_of_methodNamed B.named
  have hlocks := B.notSynchronized
  have hS : va_S (fun _ => False) s.heap s.heap [] := va_S.rf
  have hl := lv_entry ([.ref (a 0), .int 0, .int p1]) (n := 3) (Nat.le_of_ble_eq_true rfl)
  rw [lg_entry_eq]
  generalize (lg_sl ([.ref (a 0), .int 0, .int p1]) ++ List.replicate (3 - (lg_sl ([.ref (a 0), .int 0, .int p1])).length) Slot.unset).toArray = ls at hl ⊢
  have hl : lv_has ls 3 [(0, .ref (a 0)), (1, .int 0), (2, .int p1)] := hl
  refine lv_iload_n hx hb dX11_ofDevice_0 rfl (lv_at hl 2 rfl) ?_
  by_cases c1_ : p1 = 30
  · skip
    subst c1_
    refine lv_tableIn (off := 31) (tgt := 32) hx hb dX11_ofDevice_1 (by decide) (by decide) (by decide) (by decide) ?_
    refine lv_aload_n hx hb dX11_ofDevice_32 rfl (lv_at hl 0 rfl) ?_
    refine va_get (D := (dC, dI)) (ci := 11) (v := .ref (a 1)) (C := RX11) (T := TX11) (N := 11) hx hb hts i_X11_ofDevice_X11 hown hK hP 0 rfl rfl 0 (by decide) (hts _ m_X11_ofDevice_1) (fun _ h9 => h9) rfl dX11_ofDevice_33 ?_
    refine va_get (D := (dC, dI)) (ci := 8) (v := .ref (a 6)) (C := RX8) (T := TX8) (N := 17) hx hb hts i_X11_ofDevice_X8 hown hK hP 1 rfl rfl 7 (by decide) (hts _ m_X11_ofDevice_2) (fun _ h9 => h9) rfl dX11_ofDevice_36 ?_
    refine lv_iload_n hx hb dX11_ofDevice_39 rfl (lv_at hl 1 rfl) ?_
    refine va_iald hx hb hK hP 6 0 rfl rfl (show ¬ ((0 : Int32) < 0 ∨ 32 ≤ Int32.toNatClampNeg 0) by decide) dX11_ofDevice_40 ?_
    refine tk_i 0 (by rfl) ?_
    exact W.iret (v := 0) hx hb hr (fun t ht hW => ⟨⟨0, (), rfl, Or.inl (⟨rfl, rfl⟩), trivial⟩, hS.F ht⟩) hS.2.2 dX11_ofDevice_41
  by_cases c2_ : p1 = 31
  · skip
    subst c2_
    refine lv_tableIn (off := 41) (tgt := 42) hx hb dX11_ofDevice_1 (by decide) (by decide) (by decide) (by decide) ?_
    refine lv_aload_n hx hb dX11_ofDevice_42 rfl (lv_at hl 0 rfl) ?_
    refine va_get (D := (dC, dI)) (ci := 11) (v := .ref (a 1)) (C := RX11) (T := TX11) (N := 11) hx hb hts i_X11_ofDevice_X11 hown hK hP 0 rfl rfl 0 (by decide) (hts _ m_X11_ofDevice_1) (fun _ h9 => h9) rfl dX11_ofDevice_43 ?_
    refine va_get (D := (dC, dI)) (ci := 8) (v := .ref (a 7)) (C := RX8) (T := TX8) (N := 17) hx hb hts i_X11_ofDevice_X8 hown hK hP 1 rfl rfl 8 (by decide) (hts _ m_X11_ofDevice_3) (fun _ h9 => h9) rfl dX11_ofDevice_46 ?_
    refine lv_iload_n hx hb dX11_ofDevice_49 rfl (lv_at hl 1 rfl) ?_
    refine va_iald hx hb hK hP 7 0 rfl rfl (show ¬ ((0 : Int32) < 0 ∨ 32 ≤ Int32.toNatClampNeg 0) by decide) dX11_ofDevice_50 ?_
    refine tk_i (-1) (by rfl) ?_
    refine lv_iconst (v := (-1)) hx hb dX11_ofDevice_51 (by decide) ?_
    refine lv_icmp_ne (tgt := 59) hx hb dX11_ofDevice_52 (by decide) (fun c9_ => absurd c9_ (by decide)) (fun _ => ?_)
    refine lv_iconst (v := 0) hx hb dX11_ofDevice_55 (by decide) ?_
    refine lv_goto (tgt := 60) hx hb dX11_ofDevice_56 (by decide) ?_
    exact W.iret (v := 0) hx hb hr (fun t ht hW => ⟨⟨0, (), rfl, Or.inr (Or.inl (⟨rfl, rfl⟩)), trivial⟩, hS.F ht⟩) hS.2.2 dX11_ofDevice_60
  by_cases c3_ : p1 = 32
  · skip
    subst c3_
    refine lv_tableIn (off := 60) (tgt := 61) hx hb dX11_ofDevice_1 (by decide) (by decide) (by decide) (by decide) ?_
    refine lv_aload_n hx hb dX11_ofDevice_61 rfl (lv_at hl 0 rfl) ?_
    refine va_get (D := (dC, dI)) (ci := 11) (v := .ref (a 1)) (C := RX11) (T := TX11) (N := 11) hx hb hts i_X11_ofDevice_X11 hown hK hP 0 rfl rfl 0 (by decide) (hts _ m_X11_ofDevice_1) (fun _ h9 => h9) rfl dX11_ofDevice_62 ?_
    refine va_get (D := (dC, dI)) (ci := 8) (v := .ref (a 7)) (C := RX8) (T := TX8) (N := 17) hx hb hts i_X11_ofDevice_X8 hown hK hP 1 rfl rfl 8 (by decide) (hts _ m_X11_ofDevice_3) (fun _ h9 => h9) rfl dX11_ofDevice_65 ?_
    refine lv_iload_n hx hb dX11_ofDevice_68 rfl (lv_at hl 1 rfl) ?_
    refine va_iald hx hb hK hP 7 0 rfl rfl (show ¬ ((0 : Int32) < 0 ∨ 32 ≤ Int32.toNatClampNeg 0) by decide) dX11_ofDevice_69 ?_
    refine tk_i (-1) (by rfl) ?_
    exact W.iret (v := (-1)) hx hb hr (fun t ht hW => ⟨⟨(-1), (), rfl, Or.inr (Or.inr (Or.inl (⟨rfl, rfl⟩))), trivial⟩, hS.F ht⟩) hS.2.2 dX11_ofDevice_70
  by_cases c4_ : p1 = 33
  · skip
    subst c4_
    refine lv_tableIn (off := 70) (tgt := 71) hx hb dX11_ofDevice_1 (by decide) (by decide) (by decide) (by decide) ?_
    refine lv_aload_n hx hb dX11_ofDevice_71 rfl (lv_at hl 0 rfl) ?_
    refine va_get (D := (dC, dI)) (ci := 11) (v := .ref (a 1)) (C := RX11) (T := TX11) (N := 11) hx hb hts i_X11_ofDevice_X11 hown hK hP 0 rfl rfl 0 (by decide) (hts _ m_X11_ofDevice_1) (fun _ h9 => h9) rfl dX11_ofDevice_72 ?_
    refine va_get (D := (dC, dI)) (ci := 8) (v := .ref (a 7)) (C := RX8) (T := TX8) (N := 17) hx hb hts i_X11_ofDevice_X8 hown hK hP 1 rfl rfl 8 (by decide) (hts _ m_X11_ofDevice_3) (fun _ h9 => h9) rfl dX11_ofDevice_75 ?_
    refine lv_iload_n hx hb dX11_ofDevice_78 rfl (lv_at hl 1 rfl) ?_
    refine va_iald hx hb hK hP 7 0 rfl rfl (show ¬ ((0 : Int32) < 0 ∨ 32 ≤ Int32.toNatClampNeg 0) by decide) dX11_ofDevice_79 ?_
    refine tk_i (-1) (by rfl) ?_
    refine lv_iconst (v := (-1)) hx hb dX11_ofDevice_80 (by decide) ?_
    refine lv_icmp_ne (tgt := 88) hx hb dX11_ofDevice_81 (by decide) (fun c9_ => absurd c9_ (by decide)) (fun _ => ?_)
    refine lv_iconst (v := (-1)) hx hb dX11_ofDevice_84 (by decide) ?_
    refine lv_goto (tgt := 97) hx hb dX11_ofDevice_85 (by decide) ?_
    exact W.iret (v := (-1)) hx hb hr (fun t ht hW => ⟨⟨(-1), (), rfl, Or.inr (Or.inr (Or.inr (Or.inl (⟨rfl, rfl⟩)))), trivial⟩, hS.F ht⟩) hS.2.2 dX11_ofDevice_97
  have e5_ : p1.toInt < 30 ∨ 33 < p1.toInt := by
    have z0_ := tz_neq_r c1_ (show (30 : Int32).toInt = 30 by decide)
    have z1_ := tz_neq_r c2_ (show (31 : Int32).toInt = 31 by decide)
    have z2_ := tz_neq_r c3_ (show (32 : Int32).toInt = 32 by decide)
    have z3_ := tz_neq_r c4_ (show (33 : Int32).toInt = 33 by decide)
    omega
  refine lv_tableOut (tgt := 98) hx hb dX11_ofDevice_1 e5_ (by decide) ?_
  refine lv_iconst (v := (-1)) hx hb dX11_ofDevice_98 (by decide) ?_
  exact W.iret (v := (-1)) hx hb hr (fun t ht hW => ⟨⟨(-1), (), rfl, Or.inr (Or.inr (Or.inr (Or.inr (⟨c1_, c2_, c3_, c4_, rfl⟩)))), trivial⟩, hS.F ht⟩) hS.2.2 dX11_ofDevice_99

set_option maxHeartbeats 4000000 in
set_option maxRecDepth 100000 in
theorem c_X11_ofItsKind (l : Launch) (dC : Nat → ClassId) (dI : Nat → Nat → Nat) (cy : Nat → ClassId) (a : Nat → Nat) (g : Nat → Nat → Option Nat) (p1 : Int32) : Met l yX11_ofItsKind wsX11_ofItsKind ({ frames := 1, cells := 0, slots := 0, locals := 22 }) (va_Pc [.ref (a 0), .int 0, .ref (a 23), .int p1] (pp dC dI cy (fw a cy g))) (va_Qi (fun (r : Int32) (_ : Unit) => ((p1 = 30) ∧ r = 0) ∨ ((p1 = 31) ∧ r = 0) ∨ ((p1 = 32) ∧ r = (-1)) ∨ ((p1 = 33) ∧ r = (-1)) ∨ ((¬ p1 = 30) ∧ (¬ p1 = 31) ∧ (¬ p1 = 32) ∧ (¬ p1 = 33) ∧ r = (-1))) (fun _ _ => True) (fun _ => False)) 0 0 (fun _ => False) := by
  refine Met.ofW (cc := cX11_ofItsKind) (maxL := 4) (ret := (some .int)) (by decide) rfl ?_
  intro p e s m args below meth c s₁ B hml hv
  obtain ⟨rfl, hP, hC⟩ := hv
  have hK := hC.1
  have hx := B.exec
  have hb := B.bytes
  have hr := B.returns
  have hts := atoms_spec (ws := wsX11_ofItsKind) B.pre
  have hown : s.vm.findClass RX11 = some m.cls := findClass_of_methodNamed B.named
  have hlocks := B.notSynchronized
  have hS : va_S (fun _ => False) s.heap s.heap [] := va_S.rf
  have hl := lv_entry ([.ref (a 0), .int 0, .ref (a 23), .int p1]) (n := 4) (Nat.le_of_ble_eq_true rfl)
  rw [lg_entry_eq]
  generalize (lg_sl ([.ref (a 0), .int 0, .ref (a 23), .int p1]) ++ List.replicate (4 - (lg_sl ([.ref (a 0), .int 0, .ref (a 23), .int p1])).length) Slot.unset).toArray = ls at hl ⊢
  have hl : lv_has ls 4 [(0, .ref (a 0)), (1, .int 0), (2, .ref (a 23)), (3, .int p1)] := hl
  refine lv_aload_n hx hb dX11_ofItsKind_0 rfl (lv_at hl 2 rfl) ?_
  refine va_get (D := (dC, dI)) (ci := 4) (v := .int 1) (C := RX4) (T := TX4) (N := 14) hx hb hts i_X11_ofItsKind_X4 hown hK hP 23 rfl rfl 0 (by decide) (hts _ m_X11_ofItsKind_1) (fun _ h9 => h9) rfl dX11_ofItsKind_1 ?_
  refine lv_tableIn (off := 44) (tgt := 48) hx hb dX11_ofItsKind_4 (by decide) (by decide) (by decide) (by decide) ?_
  refine lv_aload_n hx hb dX11_ofItsKind_48 rfl (lv_at hl 0 rfl) ?_
  refine lv_iload_n hx hb dX11_ofItsKind_49 rfl (lv_at hl 1 rfl) ?_
  refine lv_iload_n hx hb dX11_ofItsKind_50 rfl (lv_at hl 3 rfl) ?_
  refine tk_pi (va_runV (As := [.int 0, .int p1]) (rest := []) ⟨hx, hb, hml, hown, hts⟩ (c_X11_ofDevice l dC dI cy a g p1) (cwV 2 hts gX11_ofItsKind_X11_ofDevice rfl rfl rfl (by decide +kernel) ⟨Nat.le_of_ble_eq_true rfl, Nat.le_of_ble_eq_true rfl⟩) (pv_pp hC hP (ci := 11) (q0 := 0) rfl rfl) rfl rfl hl.1 rfl (lv_room (Nat.le_of_ble_eq_true rfl)) dX11_ofItsKind_51 ⟨Nat.le_of_ble_eq_true rfl, Nat.le_of_ble_eq_true rfl⟩) hP hS (fun r_ H locs hw hP hS => ?_)
  rcases hw with ⟨c1_, rfl⟩ | ⟨c2_, rfl⟩ | ⟨c3_, rfl⟩ | ⟨c4_, rfl⟩ | ⟨c5_, c6_, c7_, c8_, rfl⟩
  · skip
    subst c1_
    exact W.iret (v := 0) hx hb hr (fun t ht hW => ⟨⟨0, (), rfl, Or.inl (⟨rfl, rfl⟩), trivial⟩, hS.F ht⟩) hS.2.2 dX11_ofItsKind_54
  · skip
    subst c2_
    exact W.iret (v := 0) hx hb hr (fun t ht hW => ⟨⟨0, (), rfl, Or.inr (Or.inl (⟨rfl, rfl⟩)), trivial⟩, hS.F ht⟩) hS.2.2 dX11_ofItsKind_54
  · skip
    subst c3_
    exact W.iret (v := (-1)) hx hb hr (fun t ht hW => ⟨⟨(-1), (), rfl, Or.inr (Or.inr (Or.inl (⟨rfl, rfl⟩))), trivial⟩, hS.F ht⟩) hS.2.2 dX11_ofItsKind_54
  · skip
    subst c4_
    exact W.iret (v := (-1)) hx hb hr (fun t ht hW => ⟨⟨(-1), (), rfl, Or.inr (Or.inr (Or.inr (Or.inl (⟨rfl, rfl⟩)))), trivial⟩, hS.F ht⟩) hS.2.2 dX11_ofItsKind_54
  · skip
    exact W.iret (v := (-1)) hx hb hr (fun t ht hW => ⟨⟨(-1), (), rfl, Or.inr (Or.inr (Or.inr (Or.inr (⟨c5_, c6_, c7_, c8_, rfl⟩)))), trivial⟩, hS.F ht⟩) hS.2.2 dX11_ofItsKind_54

set_option maxHeartbeats 4000000 in
set_option maxRecDepth 100000 in
theorem c_X11_fault (l : Launch) (dC : Nat → ClassId) (dI : Nat → Nat → Nat) (cy : Nat → ClassId) (a : Nat → Nat) (g : Nat → Nat → Option Nat) : Met l yX11_fault wsX11_fault ({ frames := 0, cells := 0, slots := 0, locals := 0 }) (va_Pc [.ref (a 0)] (pp dC dI cy (fw a cy g))) (va_Qi (fun (r : Int32) (_ : Unit) => r = (-1)) (fun _ _ => True) (fun _ => False)) 0 0 (fun _ => False) := by
  refine Met.ofW (cc := cX11_fault) (maxL := 1) (ret := (some .int)) (by decide) rfl ?_
  intro p e s m args below meth c s₁ B hml hv
  obtain ⟨rfl, hP, hC⟩ := hv
  have hK := hC.1
  have hx := B.exec
  have hb := B.bytes
  have hr := B.returns
  have hts := atoms_spec (ws := wsX11_fault) B.pre
  have hown : s.vm.findClass RX11 = some m.cls := findClass_of_methodNamed B.named
  have hlocks := B.notSynchronized
  have hS : va_S (fun _ => False) s.heap s.heap [] := va_S.rf
  have hl := lv_entry ([.ref (a 0)]) (n := 1) (Nat.le_of_ble_eq_true rfl)
  rw [lg_entry_eq]
  generalize (lg_sl ([.ref (a 0)]) ++ List.replicate (1 - (lg_sl ([.ref (a 0)])).length) Slot.unset).toArray = ls at hl ⊢
  have hl : lv_has ls 1 [(0, .ref (a 0))] := hl
  refine lv_aload_n hx hb dX11_fault_0 rfl (lv_at hl 0 rfl) ?_
  refine va_get (D := (dC, dI)) (ci := 11) (v := .int (-1)) (C := RX11) (T := TX11) (N := 11) hx hb hts i_X11_fault_X11 hown hK hP 0 rfl rfl 10 (by decide) (hts _ m_X11_fault_1) (fun _ h9 => h9) rfl dX11_fault_1 ?_
  exact W.iret (v := (-1)) hx hb hr (fun t ht hW => ⟨⟨(-1), (), rfl, rfl, trivial⟩, hS.F ht⟩) hS.2.2 dX11_fault_4

set_option maxHeartbeats 4000000 in
set_option maxRecDepth 100000 in
theorem c_X11_status (l : Launch) (dC : Nat → ClassId) (dI : Nat → Nat → Nat) (cy : Nat → ClassId) (a : Nat → Nat) (g : Nat → Nat → Option Nat) : Met l yX11_status wsX11_status ({ frames := 0, cells := 0, slots := 0, locals := 0 }) (va_Pc [.ref (a 0)] (pp dC dI cy (fw a cy g))) (va_Qi (fun (r : Int32) (_ : Unit) => r = 0) (fun _ _ => True) (fun _ => False)) 0 0 (fun _ => False) := by
  refine Met.ofW (cc := cX11_status) (maxL := 1) (ret := (some .int)) (by decide) rfl ?_
  intro p e s m args below meth c s₁ B hml hv
  obtain ⟨rfl, hP, hC⟩ := hv
  have hK := hC.1
  have hx := B.exec
  have hb := B.bytes
  have hr := B.returns
  have hts := atoms_spec (ws := wsX11_status) B.pre
  have hown : s.vm.findClass RX11 = some m.cls := findClass_of_methodNamed B.named
  have hlocks := B.notSynchronized
  have hS : va_S (fun _ => False) s.heap s.heap [] := va_S.rf
  have hl := lv_entry ([.ref (a 0)]) (n := 1) (Nat.le_of_ble_eq_true rfl)
  rw [lg_entry_eq]
  generalize (lg_sl ([.ref (a 0)]) ++ List.replicate (1 - (lg_sl ([.ref (a 0)])).length) Slot.unset).toArray = ls at hl ⊢
  have hl : lv_has ls 1 [(0, .ref (a 0))] := hl
  refine lv_aload_n hx hb dX11_status_0 rfl (lv_at hl 0 rfl) ?_
  refine va_get (D := (dC, dI)) (ci := 11) (v := .int 0) (C := RX11) (T := TX11) (N := 11) hx hb hts i_X11_status_X11 hown hK hP 0 rfl rfl 9 (by decide) (hts _ m_X11_status_1) (fun _ h9 => h9) rfl dX11_status_1 ?_
  exact W.iret (v := 0) hx hb hr (fun t ht hW => ⟨⟨0, (), rfl, rfl, trivial⟩, hS.F ht⟩) hS.2.2 dX11_status_4

set_option maxHeartbeats 4000000 in
set_option maxRecDepth 100000 in
theorem c_X11_node (l : Launch) (dC : Nat → ClassId) (dI : Nat → Nat → Nat) (cy : Nat → ClassId) (a : Nat → Nat) (g : Nat → Nat → Option Nat) (p0 p1 : Int32) : Met l yX11_node wsX11_node ({ frames := 2, cells := 0, slots := 0, locals := 45 }) (va_Pc [.ref (a 0), .int p0, .int p1] (pp dC dI cy (fw a cy g))) (va_Qi (fun (r : Int32) (_ : Unit) => ((p0 < 0) ∧ r = (-1)) ∨ ((¬ p0 < 0) ∧ ((1 : Int32) ≤ p0) ∧ r = (-1)) ∨ ((p0 = 0) ∧ (p1 = 0) ∧ r = 1) ∨ ((p0 = 0) ∧ (p1 = 1) ∧ r = 0) ∨ ((p0 = 0) ∧ (p1 = 2) ∧ r = (-1)) ∨ ((p0 = 0) ∧ (p1 = 30) ∧ r = 0) ∨ ((p0 = 0) ∧ (p1 = 31) ∧ r = 0) ∨ ((p0 = 0) ∧ (p1 = 32) ∧ r = (-1)) ∨ ((p0 = 0) ∧ (p1 = 33) ∧ r = (-1)) ∨ ((p0 = 0) ∧ (¬ p1 = 0) ∧ (¬ p1 = 1) ∧ (¬ p1 = 2) ∧ (¬ p1 = 30) ∧ (¬ p1 = 31) ∧ (¬ p1 = 32) ∧ (¬ p1 = 33) ∧ r = (-1))) (fun _ _ => True) (fun _ => False)) 0 0 (fun _ => False) := by
  refine Met.ofW (cc := cX11_node) (maxL := 4) (ret := (some .int)) (by decide) rfl ?_
  intro p e s m args below meth c s₁ B hml hv
  obtain ⟨rfl, hP, hC⟩ := hv
  have hK := hC.1
  have hx := B.exec
  have hb := B.bytes
  have hr := B.returns
  have hts := atoms_spec (ws := wsX11_node) B.pre
  have hown : s.vm.findClass RX11 = some m.cls := findClass_of_methodNamed B.named
  have hlocks := B.notSynchronized
  have hS : va_S (fun _ => False) s.heap s.heap [] := va_S.rf
  have hl := lv_entry ([.ref (a 0), .int p0, .int p1]) (n := 4) (Nat.le_of_ble_eq_true rfl)
  rw [lg_entry_eq]
  generalize (lg_sl ([.ref (a 0), .int p0, .int p1]) ++ List.replicate (4 - (lg_sl ([.ref (a 0), .int p0, .int p1])).length) Slot.unset).toArray = ls at hl ⊢
  have hl : lv_has ls 4 [(0, .ref (a 0)), (1, .int p0), (2, .int p1)] := hl
  refine lv_aload_n hx hb dX11_node_0 rfl (lv_at hl 0 rfl) ?_
  refine va_get (D := (dC, dI)) (ci := 11) (v := .ref (a 21)) (C := RX11) (T := TX11) (N := 11) hx hb hts i_X11_node_X11 hown hK hP 0 rfl rfl 2 (by decide) (hts _ m_X11_node_1) (fun _ h9 => h9) rfl dX11_node_1 ?_
  refine lv_iload_n hx hb dX11_node_4 rfl (lv_at hl 1 rfl) ?_
  refine tk_pi (va_runV (As := [.int p0]) (rest := []) ⟨hx, hb, hml, hown, hts⟩ (c_X10_has l dC dI cy a g p0) (cwV 1 hts gX11_node_X10_has rfl rfl rfl (by decide +kernel) ⟨Nat.le_of_ble_eq_true rfl, Nat.le_of_ble_eq_true rfl⟩) (pv_pp hC hP (ci := 10) (q0 := 21) rfl rfl) rfl rfl hl.1 rfl (lv_room (Nat.le_of_ble_eq_true rfl)) dX11_node_5 ⟨Nat.le_of_ble_eq_true rfl, Nat.le_of_ble_eq_true rfl⟩) hP hS (fun r_ H locs hw hP hS => ?_)
  rcases hw with ⟨c1_, rfl⟩ | ⟨c2_, c3_, rfl⟩ | ⟨c4_, rfl⟩
  · skip
    refine lv_if_ne (tgt := 13) hx hb dX11_node_8 (by decide) (fun c9_ => absurd c9_ (by decide)) (fun _ => ?_)
    refine lv_iconst (v := (-1)) hx hb dX11_node_11 (by decide) ?_
    exact W.iret (v := (-1)) hx hb hr (fun t ht hW => ⟨⟨(-1), (), rfl, Or.inl (⟨c1_, rfl⟩), trivial⟩, hS.F ht⟩) hS.2.2 dX11_node_12
  · skip
    refine lv_if_ne (tgt := 13) hx hb dX11_node_8 (by decide) (fun c9_ => absurd c9_ (by decide)) (fun _ => ?_)
    refine lv_iconst (v := (-1)) hx hb dX11_node_11 (by decide) ?_
    exact W.iret (v := (-1)) hx hb hr (fun t ht hW => ⟨⟨(-1), (), rfl, Or.inr (Or.inl (⟨c2_, c3_, rfl⟩)), trivial⟩, hS.F ht⟩) hS.2.2 dX11_node_12
  · skip
    subst c4_
    refine lv_if_ne (tgt := 13) hx hb dX11_node_8 (by decide) (fun _ => ?_) (fun c9_ => absurd (by decide) c9_)
    refine lv_aload_n hx hb dX11_node_13 rfl (lv_at hl 0 rfl) ?_
    refine va_get (D := (dC, dI)) (ci := 11) (v := .ref (a 21)) (C := RX11) (T := TX11) (N := 11) hx hb hts i_X11_node_X11 hown hK hP 0 rfl rfl 2 (by decide) (hts _ m_X11_node_1) (fun _ h9 => h9) rfl dX11_node_14 ?_
    refine va_get (D := (dC, dI)) (ci := 10) (v := .ref (a 22)) (C := RX10) (T := TX10) (N := 2) hx hb hts i_X11_node_X10 hown hK hP 21 rfl rfl 0 (by decide) (hts _ m_X11_node_2) (fun _ h9 => h9) rfl dX11_node_17 ?_
    refine lv_iload_n hx hb dX11_node_20 rfl (lv_at hl 1 rfl) ?_
    refine va_aldq hx hb hK hP 22 1 rfl rfl (show ¬ ((0 : Int32) < 0 ∨ 32 ≤ Int32.toNatClampNeg 0) by decide) dX11_node_21 ?_
    refine tk_v (.ref (a 23)) (by rfl) ?_
    refine lv_astore_n (lv' := [(3, .ref (a 23)), (0, .ref (a 0)), (1, .int 0), (2, .int p1)]) hx hb dX11_node_22 rfl hl (by decide) rfl (fun ls hl => ?_)
    refine lv_iload_n hx hb dX11_node_23 rfl (lv_at hl 3 rfl) ?_
    by_cases c5_ : p1 = 0
    · skip
      subst c5_
      refine lv_tableIn (off := 28) (tgt := 52) hx hb dX11_node_24 (by decide) (by decide) (by decide) (by decide) ?_
      refine lv_aload_n hx hb dX11_node_52 rfl (lv_at hl 0 rfl) ?_
      refine va_get (D := (dC, dI)) (ci := 4) (v := .int 1) (C := RX4) (T := TX4) (N := 14) hx hb hts i_X11_node_X4 hown hK hP 23 rfl rfl 0 (by decide) (hts _ m_X11_node_3) (fun _ h9 => h9) rfl dX11_node_53 ?_
      exact W.iret (v := 1) hx hb hr (fun t ht hW => ⟨⟨1, (), rfl, Or.inr (Or.inr (Or.inl (⟨rfl, rfl, rfl⟩))), trivial⟩, hS.F ht⟩) hS.2.2 dX11_node_56
    by_cases c6_ : p1 = 1
    · skip
      subst c6_
      refine lv_tableIn (off := 33) (tgt := 57) hx hb dX11_node_24 (by decide) (by decide) (by decide) (by decide) ?_
      refine lv_aload_n hx hb dX11_node_57 rfl (lv_at hl 0 rfl) ?_
      refine va_get (D := (dC, dI)) (ci := 4) (v := .int 0) (C := RX4) (T := TX4) (N := 14) hx hb hts i_X11_node_X4 hown hK hP 23 rfl rfl 1 (by decide) (hts _ m_X11_node_4) (fun _ h9 => h9) rfl dX11_node_58 ?_
      exact W.iret (v := 0) hx hb hr (fun t ht hW => ⟨⟨0, (), rfl, Or.inr (Or.inr (Or.inr (Or.inl (⟨rfl, rfl, rfl⟩)))), trivial⟩, hS.F ht⟩) hS.2.2 dX11_node_61
    by_cases c7_ : p1 = 2
    · skip
      subst c7_
      refine lv_tableIn (off := 38) (tgt := 62) hx hb dX11_node_24 (by decide) (by decide) (by decide) (by decide) ?_
      refine lv_aload_n hx hb dX11_node_62 rfl (lv_at hl 0 rfl) ?_
      refine va_get (D := (dC, dI)) (ci := 4) (v := .int (-1)) (C := RX4) (T := TX4) (N := 14) hx hb hts i_X11_node_X4 hown hK hP 23 rfl rfl 2 (by decide) (hts _ m_X11_node_5) (fun _ h9 => h9) rfl dX11_node_63 ?_
      exact W.iret (v := (-1)) hx hb hr (fun t ht hW => ⟨⟨(-1), (), rfl, Or.inr (Or.inr (Or.inr (Or.inr (Or.inl (⟨rfl, rfl, rfl⟩))))), trivial⟩, hS.F ht⟩) hS.2.2 dX11_node_66
    have e8_ : p1.toInt < 0 ∨ 2 < p1.toInt := by
      have z0_ := tz_neq_r c5_ (show (0 : Int32).toInt = 0 by decide)
      have z1_ := tz_neq_r c6_ (show (1 : Int32).toInt = 1 by decide)
      have z2_ := tz_neq_r c7_ (show (2 : Int32).toInt = 2 by decide)
      omega
    refine lv_tableOut (tgt := 67) hx hb dX11_node_24 e8_ (by decide) ?_
    refine lv_aload_n hx hb dX11_node_67 rfl (lv_at hl 1 rfl) ?_
    refine lv_iload_n hx hb dX11_node_68 rfl (lv_at hl 2 rfl) ?_
    refine lv_aload_n hx hb dX11_node_69 rfl (lv_at hl 0 rfl) ?_
    refine lv_iload_n hx hb dX11_node_70 rfl (lv_at hl 3 rfl) ?_
    refine tk_pi (va_runV (As := [.int 0, .ref (a 23), .int p1]) (rest := []) ⟨hx, hb, hml, hown, hts⟩ (c_X11_ofItsKind l dC dI cy a g p1) (cwV 3 hts gX11_node_X11_ofItsKind rfl rfl rfl (by decide +kernel) ⟨Nat.le_of_ble_eq_true rfl, Nat.le_of_ble_eq_true rfl⟩) (pv_pp hC hP (ci := 11) (q0 := 0) rfl rfl) rfl rfl hl.1 rfl (lv_room (Nat.le_of_ble_eq_true rfl)) dX11_node_71 ⟨Nat.le_of_ble_eq_true rfl, Nat.le_of_ble_eq_true rfl⟩) hP hS (fun r_ H locs hw hP hS => ?_)
    rcases hw with ⟨c9_, rfl⟩ | ⟨c10_, rfl⟩ | ⟨c11_, rfl⟩ | ⟨c12_, rfl⟩ | ⟨c13_, c14_, c15_, c16_, rfl⟩
    · skip
      subst c9_
      exact W.iret (v := 0) hx hb hr (fun t ht hW => ⟨⟨0, (), rfl, Or.inr (Or.inr (Or.inr (Or.inr (Or.inr (Or.inl (⟨rfl, rfl, rfl⟩)))))), trivial⟩, hS.F ht⟩) hS.2.2 dX11_node_74
    · skip
      subst c10_
      exact W.iret (v := 0) hx hb hr (fun t ht hW => ⟨⟨0, (), rfl, Or.inr (Or.inr (Or.inr (Or.inr (Or.inr (Or.inr (Or.inl (⟨rfl, rfl, rfl⟩))))))), trivial⟩, hS.F ht⟩) hS.2.2 dX11_node_74
    · skip
      subst c11_
      exact W.iret (v := (-1)) hx hb hr (fun t ht hW => ⟨⟨(-1), (), rfl, Or.inr (Or.inr (Or.inr (Or.inr (Or.inr (Or.inr (Or.inr (Or.inl (⟨rfl, rfl, rfl⟩)))))))), trivial⟩, hS.F ht⟩) hS.2.2 dX11_node_74
    · skip
      subst c12_
      exact W.iret (v := (-1)) hx hb hr (fun t ht hW => ⟨⟨(-1), (), rfl, Or.inr (Or.inr (Or.inr (Or.inr (Or.inr (Or.inr (Or.inr (Or.inr (Or.inl (⟨rfl, rfl, rfl⟩))))))))), trivial⟩, hS.F ht⟩) hS.2.2 dX11_node_74
    · skip
      exact W.iret (v := (-1)) hx hb hr (fun t ht hW => ⟨⟨(-1), (), rfl, Or.inr (Or.inr (Or.inr (Or.inr (Or.inr (Or.inr (Or.inr (Or.inr (Or.inr (⟨rfl, c5_, c6_, c7_, c13_, c14_, c15_, c16_, rfl⟩))))))))), trivial⟩, hS.F ht⟩) hS.2.2 dX11_node_74

set_option maxHeartbeats 4000000 in
set_option maxRecDepth 100000 in
theorem c_X11_code (l : Launch) (dC : Nat → ClassId) (dI : Nat → Nat → Nat) (cy : Nat → ClassId) (a : Nat → Nat) (g : Nat → Nat → Option Nat) (p0 p1 : Int32) : Met l yX11_code wsX11_code ({ frames := 2, cells := 0, slots := 0, locals := 43 }) (va_Pc [.ref (a 0), .int p0, .int p1] (pp dC dI cy (fw a cy g))) (va_Qi (fun (r : Int32) (_ : Unit) => ((p0 < 0) ∧ r = (-1)) ∨ ((¬ p0 < 0) ∧ ((1 : Int32) ≤ p0) ∧ r = (-1)) ∨ ((p0 = 0) ∧ r = (-1))) (fun _ _ => True) (fun _ => False)) 0 0 (fun _ => False) := by
  refine Met.ofW (cc := cX11_code) (maxL := 4) (ret := (some .int)) (by decide) rfl ?_
  intro p e s m args below meth c s₁ B hml hv
  obtain ⟨rfl, hP, hC⟩ := hv
  have hK := hC.1
  have hx := B.exec
  have hb := B.bytes
  have hr := B.returns
  have hts := atoms_spec (ws := wsX11_code) B.pre
  have hown : s.vm.findClass RX11 = some m.cls := findClass_of_methodNamed B.named
  have hlocks := B.notSynchronized
  have hS : va_S (fun _ => False) s.heap s.heap [] := va_S.rf
  have hl := lv_entry ([.ref (a 0), .int p0, .int p1]) (n := 4) (Nat.le_of_ble_eq_true rfl)
  rw [lg_entry_eq]
  generalize (lg_sl ([.ref (a 0), .int p0, .int p1]) ++ List.replicate (4 - (lg_sl ([.ref (a 0), .int p0, .int p1])).length) Slot.unset).toArray = ls at hl ⊢
  have hl : lv_has ls 4 [(0, .ref (a 0)), (1, .int p0), (2, .int p1)] := hl
  refine lv_aload_n hx hb dX11_code_0 rfl (lv_at hl 0 rfl) ?_
  refine va_get (D := (dC, dI)) (ci := 11) (v := .ref (a 21)) (C := RX11) (T := TX11) (N := 11) hx hb hts i_X11_code_X11 hown hK hP 0 rfl rfl 2 (by decide) (hts _ m_X11_code_1) (fun _ h9 => h9) rfl dX11_code_1 ?_
  refine lv_iload_n hx hb dX11_code_4 rfl (lv_at hl 1 rfl) ?_
  refine lv_iconst (v := 3) hx hb dX11_code_5 (by decide) ?_
  refine tk_pi (va_runV (As := [.int p0, .int 3]) (rest := []) ⟨hx, hb, hml, hown, hts⟩ (c_X10_is l dC dI cy a g p0 3) (cwV 2 hts gX11_code_X10_is rfl rfl rfl (by decide +kernel) ⟨Nat.le_of_ble_eq_true rfl, Nat.le_of_ble_eq_true rfl⟩) (pv_pp hC hP (ci := 10) (q0 := 21) rfl rfl) rfl rfl hl.1 rfl (lv_room (Nat.le_of_ble_eq_true rfl)) dX11_code_6 ⟨Nat.le_of_ble_eq_true rfl, Nat.le_of_ble_eq_true rfl⟩) hP hS (fun r_ H locs hw hP hS => ?_)
  rcases hw with ⟨c1_, rfl⟩ | ⟨c2_, c3_, rfl⟩ | ⟨c4_, -, rfl⟩ | ⟨c6_, c7_, rfl⟩
  · skip
    refine lv_if_ne (tgt := 14) hx hb dX11_code_9 (by decide) (fun c9_ => absurd c9_ (by decide)) (fun _ => ?_)
    refine lv_iconst (v := (-1)) hx hb dX11_code_12 (by decide) ?_
    exact W.iret (v := (-1)) hx hb hr (fun t ht hW => ⟨⟨(-1), (), rfl, Or.inl (⟨c1_, rfl⟩), trivial⟩, hS.F ht⟩) hS.2.2 dX11_code_13
  · skip
    refine lv_if_ne (tgt := 14) hx hb dX11_code_9 (by decide) (fun c9_ => absurd c9_ (by decide)) (fun _ => ?_)
    refine lv_iconst (v := (-1)) hx hb dX11_code_12 (by decide) ?_
    exact W.iret (v := (-1)) hx hb hr (fun t ht hW => ⟨⟨(-1), (), rfl, Or.inr (Or.inl (⟨c2_, c3_, rfl⟩)), trivial⟩, hS.F ht⟩) hS.2.2 dX11_code_13
  · skip
    subst c4_
    refine lv_if_ne (tgt := 14) hx hb dX11_code_9 (by decide) (fun c9_ => absurd c9_ (by decide)) (fun _ => ?_)
    refine lv_iconst (v := (-1)) hx hb dX11_code_12 (by decide) ?_
    exact W.iret (v := (-1)) hx hb hr (fun t ht hW => ⟨⟨(-1), (), rfl, Or.inr (Or.inr (⟨rfl, rfl⟩)), trivial⟩, hS.F ht⟩) hS.2.2 dX11_code_13
  · skip
    exact absurd c7_ (by decide)

set_option maxHeartbeats 4000000 in
set_option maxRecDepth 100000 in
theorem c_X11_lookUp (l : Launch) (dC : Nat → ClassId) (dI : Nat → Nat → Nat) (cy : Nat → ClassId) (a : Nat → Nat) (g : Nat → Nat → Option Nat) (p0 p1 : Int32) : Met l yX11_lookUp wsX11_lookUp ({ frames := 2, cells := 0, slots := 0, locals := 49 }) (va_Pc [.ref (a 0), .int p0, .int p1] (pp dC dI cy (fw a cy g))) (va_Qi (fun (r : Int32) (_ : Unit) => ((p0 < 0) ∧ r = (-1)) ∨ ((¬ p0 < 0) ∧ ((1 : Int32) ≤ p0) ∧ r = (-1)) ∨ ((p0 = 0) ∧ r = (-1))) (fun _ _ => True) (fun _ => False)) 0 0 (fun _ => False) := by
  refine Met.ofW (cc := cX11_lookUp) (maxL := 3) (ret := (some .int)) (by decide) rfl ?_
  intro p e s m args below meth c s₁ B hml hv
  obtain ⟨rfl, hP, hC⟩ := hv
  have hK := hC.1
  have hx := B.exec
  have hb := B.bytes
  have hr := B.returns
  have hts := atoms_spec (ws := wsX11_lookUp) B.pre
  have hown : s.vm.findClass RX11 = some m.cls := findClass_of_methodNamed B.named
  have hlocks := B.notSynchronized
  have hS : va_S (fun _ => False) s.heap s.heap [] := va_S.rf
  have hl := lv_entry ([.ref (a 0), .int p0, .int p1]) (n := 3) (Nat.le_of_ble_eq_true rfl)
  rw [lg_entry_eq]
  generalize (lg_sl ([.ref (a 0), .int p0, .int p1]) ++ List.replicate (3 - (lg_sl ([.ref (a 0), .int p0, .int p1])).length) Slot.unset).toArray = ls at hl ⊢
  have hl : lv_has ls 3 [(0, .ref (a 0)), (1, .int p0), (2, .int p1)] := hl
  refine lv_aload_n hx hb dX11_lookUp_0 rfl (lv_at hl 0 rfl) ?_
  refine va_get (D := (dC, dI)) (ci := 11) (v := .ref (a 21)) (C := RX11) (T := TX11) (N := 11) hx hb hts i_X11_lookUp_X11 hown hK hP 0 rfl rfl 2 (by decide) (hts _ m_X11_lookUp_1) (fun _ h9 => h9) rfl dX11_lookUp_1 ?_
  refine lv_iload_n hx hb dX11_lookUp_4 rfl (lv_at hl 1 rfl) ?_
  refine lv_iconst (v := 1) hx hb dX11_lookUp_5 (by decide) ?_
  refine tk_pi (va_runV (As := [.int p0, .int 1]) (rest := []) ⟨hx, hb, hml, hown, hts⟩ (c_X10_is l dC dI cy a g p0 1) (cwV 2 hts gX11_lookUp_X10_is rfl rfl rfl (by decide +kernel) ⟨Nat.le_of_ble_eq_true rfl, Nat.le_of_ble_eq_true rfl⟩) (pv_pp hC hP (ci := 10) (q0 := 21) rfl rfl) rfl rfl hl.1 rfl (lv_room (Nat.le_of_ble_eq_true rfl)) dX11_lookUp_6 ⟨Nat.le_of_ble_eq_true rfl, Nat.le_of_ble_eq_true rfl⟩) hP hS (fun r_ H locs hw hP hS => ?_)
  rcases hw with ⟨c1_, rfl⟩ | ⟨c2_, c3_, rfl⟩ | ⟨c4_, c5_, rfl⟩ | ⟨c6_, -, rfl⟩
  · skip
    refine lv_if_eq (tgt := 24) hx hb dX11_lookUp_9 (by decide) (fun _ => ?_) (fun c9_ => absurd (by decide) c9_)
    refine lv_iconst (v := (-1)) hx hb dX11_lookUp_24 (by decide) ?_
    exact W.iret (v := (-1)) hx hb hr (fun t ht hW => ⟨⟨(-1), (), rfl, Or.inl (⟨c1_, rfl⟩), trivial⟩, hS.F ht⟩) hS.2.2 dX11_lookUp_25
  · skip
    refine lv_if_eq (tgt := 24) hx hb dX11_lookUp_9 (by decide) (fun _ => ?_) (fun c9_ => absurd (by decide) c9_)
    refine lv_iconst (v := (-1)) hx hb dX11_lookUp_24 (by decide) ?_
    exact W.iret (v := (-1)) hx hb hr (fun t ht hW => ⟨⟨(-1), (), rfl, Or.inr (Or.inl (⟨c2_, c3_, rfl⟩)), trivial⟩, hS.F ht⟩) hS.2.2 dX11_lookUp_25
  · skip
    exact absurd c5_ (by decide)
  · skip
    subst c6_
    refine lv_if_eq (tgt := 24) hx hb dX11_lookUp_9 (by decide) (fun c9_ => absurd c9_ (by decide)) (fun _ => ?_)
    refine lv_aload_n hx hb dX11_lookUp_12 rfl (lv_at hl 0 rfl) ?_
    refine va_get (D := (dC, dI)) (ci := 11) (v := .ref (a 21)) (C := RX11) (T := TX11) (N := 11) hx hb hts i_X11_lookUp_X11 hown hK hP 0 rfl rfl 2 (by decide) (hts _ m_X11_lookUp_1) (fun _ h9 => h9) rfl dX11_lookUp_13 ?_
    refine lv_iload_n hx hb dX11_lookUp_16 rfl (lv_at hl 1 rfl) ?_
    refine lv_iload_n hx hb dX11_lookUp_17 rfl (lv_at hl 2 rfl) ?_
    refine tk_pi (va_runV (As := [.int 0, .int p1]) (rest := []) ⟨hx, hb, hml, hown, hts⟩ (c_X10_find l dC dI cy a g p1) (cwV 2 hts gX11_lookUp_X10_find rfl rfl rfl (by decide +kernel) ⟨Nat.le_of_ble_eq_true rfl, Nat.le_of_ble_eq_true rfl⟩) (pv_pp hC hP (ci := 10) (q0 := 21) rfl rfl) rfl rfl hl.1 rfl (lv_room (Nat.le_of_ble_eq_true rfl)) dX11_lookUp_18 ⟨Nat.le_of_ble_eq_true rfl, Nat.le_of_ble_eq_true rfl⟩) hP hS (fun r_ H locs hw hP hS => ?_)
    subst hw
    refine lv_goto (tgt := 25) hx hb dX11_lookUp_21 (by decide) ?_
    exact W.iret (v := (-1)) hx hb hr (fun t ht hW => ⟨⟨(-1), (), rfl, Or.inr (Or.inr (⟨rfl, rfl⟩)), trivial⟩, hS.F ht⟩) hS.2.2 dX11_lookUp_25

set_option maxHeartbeats 4000000 in
set_option maxRecDepth 100000 in
theorem c_X11_wants (l : Launch) (dC : Nat → ClassId) (dI : Nat → Nat → Nat) (cy : Nat → ClassId) (a : Nat → Nat) (g : Nat → Nat → Option Nat) (p0 : Int32) : Met l yX11_wants wsX11_wants ({ frames := 2, cells := 0, slots := 0, locals := 46 }) (va_Pc [.ref (a 0), .int p0] (pp dC dI cy (fw a cy g))) (va_Ql (fun (r : Int64) (_ : Unit) => ((p0 < 0) ∧ r = (Int32.toInt64 (-1))) ∨ ((¬ p0 < 0) ∧ ((1 : Int32) ≤ p0) ∧ r = (Int32.toInt64 (-1))) ∨ ((p0 = 0) ∧ r = (Int32.toInt64 0))) (fun _ _ => True) (fun _ => False)) 0 0 (fun _ => False) := by
  refine Met.ofW (cc := cX11_wants) (maxL := 2) (ret := (some .long)) (by decide) rfl ?_
  intro p e s m args below meth c s₁ B hml hv
  obtain ⟨rfl, hP, hC⟩ := hv
  have hK := hC.1
  have hx := B.exec
  have hb := B.bytes
  have hr := B.returns
  have hts := atoms_spec (ws := wsX11_wants) B.pre
  have hown : s.vm.findClass RX11 = some m.cls := findClass_of_methodNamed B.named
  have hlocks := B.notSynchronized
  have hS : va_S (fun _ => False) s.heap s.heap [] := va_S.rf
  have hl := lv_entry ([.ref (a 0), .int p0]) (n := 2) (Nat.le_of_ble_eq_true rfl)
  rw [lg_entry_eq]
  generalize (lg_sl ([.ref (a 0), .int p0]) ++ List.replicate (2 - (lg_sl ([.ref (a 0), .int p0])).length) Slot.unset).toArray = ls at hl ⊢
  have hl : lv_has ls 2 [(0, .ref (a 0)), (1, .int p0)] := hl
  refine lv_aload_n hx hb dX11_wants_0 rfl (lv_at hl 0 rfl) ?_
  refine va_get (D := (dC, dI)) (ci := 11) (v := .ref (a 21)) (C := RX11) (T := TX11) (N := 11) hx hb hts i_X11_wants_X11 hown hK hP 0 rfl rfl 2 (by decide) (hts _ m_X11_wants_1) (fun _ h9 => h9) rfl dX11_wants_1 ?_
  refine lv_iload_n hx hb dX11_wants_4 rfl (lv_at hl 1 rfl) ?_
  refine lv_iconst (v := 1) hx hb dX11_wants_5 (by decide) ?_
  refine tk_pi (va_runV (As := [.int p0, .int 1]) (rest := []) ⟨hx, hb, hml, hown, hts⟩ (c_X10_is l dC dI cy a g p0 1) (cwV 2 hts gX11_wants_X10_is rfl rfl rfl (by decide +kernel) ⟨Nat.le_of_ble_eq_true rfl, Nat.le_of_ble_eq_true rfl⟩) (pv_pp hC hP (ci := 10) (q0 := 21) rfl rfl) rfl rfl hl.1 rfl (lv_room (Nat.le_of_ble_eq_true rfl)) dX11_wants_6 ⟨Nat.le_of_ble_eq_true rfl, Nat.le_of_ble_eq_true rfl⟩) hP hS (fun r_ H locs hw hP hS => ?_)
  rcases hw with ⟨c1_, rfl⟩ | ⟨c2_, c3_, rfl⟩ | ⟨c4_, c5_, rfl⟩ | ⟨c6_, -, rfl⟩
  · skip
    refine lv_if_eq (tgt := 23) hx hb dX11_wants_9 (by decide) (fun _ => ?_) (fun c9_ => absurd (by decide) c9_)
    refine lv_ldc2 (v := (-1)) hx hb hown (hts _ m_X11_wants_3) dX11_wants_23 ?_
    refine tk_l (Int32.toInt64 (-1)) (by decide) ?_
    exact W.lret (v := (Int32.toInt64 (-1))) hx hb hr (fun t ht hW => ⟨⟨(Int32.toInt64 (-1)), (), rfl, Or.inl (⟨c1_, rfl⟩), trivial⟩, hS.F ht⟩) hS.2.2 dX11_wants_26
  · skip
    refine lv_if_eq (tgt := 23) hx hb dX11_wants_9 (by decide) (fun _ => ?_) (fun c9_ => absurd (by decide) c9_)
    refine lv_ldc2 (v := (-1)) hx hb hown (hts _ m_X11_wants_3) dX11_wants_23 ?_
    refine tk_l (Int32.toInt64 (-1)) (by decide) ?_
    exact W.lret (v := (Int32.toInt64 (-1))) hx hb hr (fun t ht hW => ⟨⟨(Int32.toInt64 (-1)), (), rfl, Or.inr (Or.inl (⟨c2_, c3_, rfl⟩)), trivial⟩, hS.F ht⟩) hS.2.2 dX11_wants_26
  · skip
    exact absurd c5_ (by decide)
  · skip
    subst c6_
    refine lv_if_eq (tgt := 23) hx hb dX11_wants_9 (by decide) (fun c9_ => absurd c9_ (by decide)) (fun _ => ?_)
    refine lv_aload_n hx hb dX11_wants_12 rfl (lv_at hl 0 rfl) ?_
    refine va_get (D := (dC, dI)) (ci := 11) (v := .ref (a 30)) (C := RX11) (T := TX11) (N := 11) hx hb hts i_X11_wants_X11 hown hK hP 0 rfl rfl 5 (by decide) (hts _ m_X11_wants_2) (fun _ h9 => h9) rfl dX11_wants_13 ?_
    refine lv_iload_n hx hb dX11_wants_16 rfl (lv_at hl 1 rfl) ?_
    refine tk_pl (va_runV (As := [.int 0]) (rest := []) ⟨hx, hb, hml, hown, hts⟩ (c_X5_needs l dC dI cy a g) (cwV 1 hts gX11_wants_X5_needs rfl rfl rfl (by decide +kernel) ⟨Nat.le_of_ble_eq_true rfl, Nat.le_of_ble_eq_true rfl⟩) (pv_pp hC hP (ci := 5) (q0 := 30) rfl rfl) rfl rfl hl.1 rfl (lv_room (Nat.le_of_ble_eq_true rfl)) dX11_wants_17 ⟨Nat.le_of_ble_eq_true rfl, Nat.le_of_ble_eq_true rfl⟩) hP hS (fun r_ H locs hw hP hS => ?_)
    subst hw
    refine lv_goto (tgt := 26) hx hb dX11_wants_20 (by decide) ?_
    exact W.lret (v := (Int32.toInt64 0)) hx hb hr (fun t ht hW => ⟨⟨(Int32.toInt64 0), (), rfl, Or.inr (Or.inr (⟨rfl, rfl⟩)), trivial⟩, hS.F ht⟩) hS.2.2 dX11_wants_26

set_option maxHeartbeats 4000000 in
set_option maxRecDepth 100000 in
theorem c_X11_wanted (l : Launch) (dC : Nat → ClassId) (dI : Nat → Nat → Nat) (cy : Nat → ClassId) (a : Nat → Nat) (g : Nat → Nat → Option Nat) (p0 : Int32) : Met l yX11_wanted wsX11_wanted ({ frames := 2, cells := 0, slots := 0, locals := 43 }) (va_Pc [.ref (a 0), .int p0] (pp dC dI cy (fw a cy g))) (va_Ql (fun (r : Int64) (_ : Unit) => ((p0 < 0) ∧ r = (Int32.toInt64 (-1))) ∨ ((¬ p0 < 0) ∧ ((1 : Int32) ≤ p0) ∧ r = (Int32.toInt64 (-1))) ∨ ((p0 = 0) ∧ r = (Int32.toInt64 (-1)))) (fun _ _ => True) (fun _ => False)) 0 0 (fun _ => False) := by
  refine Met.ofW (cc := cX11_wanted) (maxL := 5) (ret := (some .long)) (by decide) rfl ?_
  intro p e s m args below meth c s₁ B hml hv
  obtain ⟨rfl, hP, hC⟩ := hv
  have hK := hC.1
  have hx := B.exec
  have hb := B.bytes
  have hr := B.returns
  have hts := atoms_spec (ws := wsX11_wanted) B.pre
  have hown : s.vm.findClass RX11 = some m.cls := findClass_of_methodNamed B.named
  have hlocks := B.notSynchronized
  have hS : va_S (fun _ => False) s.heap s.heap [] := va_S.rf
  have hl := lv_entry ([.ref (a 0), .int p0]) (n := 5) (Nat.le_of_ble_eq_true rfl)
  rw [lg_entry_eq]
  generalize (lg_sl ([.ref (a 0), .int p0]) ++ List.replicate (5 - (lg_sl ([.ref (a 0), .int p0])).length) Slot.unset).toArray = ls at hl ⊢
  have hl : lv_has ls 5 [(0, .ref (a 0)), (1, .int p0)] := hl
  refine lv_aload_n hx hb dX11_wanted_0 rfl (lv_at hl 0 rfl) ?_
  refine va_get (D := (dC, dI)) (ci := 11) (v := .ref (a 21)) (C := RX11) (T := TX11) (N := 11) hx hb hts i_X11_wanted_X11 hown hK hP 0 rfl rfl 2 (by decide) (hts _ m_X11_wanted_1) (fun _ h9 => h9) rfl dX11_wanted_1 ?_
  refine lv_iload_n hx hb dX11_wanted_4 rfl (lv_at hl 1 rfl) ?_
  refine lv_iconst (v := 2) hx hb dX11_wanted_5 (by decide) ?_
  refine tk_pi (va_runV (As := [.int p0, .int 2]) (rest := []) ⟨hx, hb, hml, hown, hts⟩ (c_X10_is l dC dI cy a g p0 2) (cwV 2 hts gX11_wanted_X10_is rfl rfl rfl (by decide +kernel) ⟨Nat.le_of_ble_eq_true rfl, Nat.le_of_ble_eq_true rfl⟩) (pv_pp hC hP (ci := 10) (q0 := 21) rfl rfl) rfl rfl hl.1 rfl (lv_room (Nat.le_of_ble_eq_true rfl)) dX11_wanted_6 ⟨Nat.le_of_ble_eq_true rfl, Nat.le_of_ble_eq_true rfl⟩) hP hS (fun r_ H locs hw hP hS => ?_)
  rcases hw with ⟨c1_, rfl⟩ | ⟨c2_, c3_, rfl⟩ | ⟨c4_, -, rfl⟩ | ⟨c6_, c7_, rfl⟩
  · skip
    refine lv_if_ne (tgt := 16) hx hb dX11_wanted_9 (by decide) (fun c9_ => absurd c9_ (by decide)) (fun _ => ?_)
    refine lv_ldc2 (v := (-1)) hx hb hown (hts _ m_X11_wanted_2) dX11_wanted_12 ?_
    refine tk_l (Int32.toInt64 (-1)) (by decide) ?_
    exact W.lret (v := (Int32.toInt64 (-1))) hx hb hr (fun t ht hW => ⟨⟨(Int32.toInt64 (-1)), (), rfl, Or.inl (⟨c1_, rfl⟩), trivial⟩, hS.F ht⟩) hS.2.2 dX11_wanted_15
  · skip
    refine lv_if_ne (tgt := 16) hx hb dX11_wanted_9 (by decide) (fun c9_ => absurd c9_ (by decide)) (fun _ => ?_)
    refine lv_ldc2 (v := (-1)) hx hb hown (hts _ m_X11_wanted_2) dX11_wanted_12 ?_
    refine tk_l (Int32.toInt64 (-1)) (by decide) ?_
    exact W.lret (v := (Int32.toInt64 (-1))) hx hb hr (fun t ht hW => ⟨⟨(Int32.toInt64 (-1)), (), rfl, Or.inr (Or.inl (⟨c2_, c3_, rfl⟩)), trivial⟩, hS.F ht⟩) hS.2.2 dX11_wanted_15
  · skip
    subst c4_
    refine lv_if_ne (tgt := 16) hx hb dX11_wanted_9 (by decide) (fun c9_ => absurd c9_ (by decide)) (fun _ => ?_)
    refine lv_ldc2 (v := (-1)) hx hb hown (hts _ m_X11_wanted_2) dX11_wanted_12 ?_
    refine tk_l (Int32.toInt64 (-1)) (by decide) ?_
    exact W.lret (v := (Int32.toInt64 (-1))) hx hb hr (fun t ht hW => ⟨⟨(Int32.toInt64 (-1)), (), rfl, Or.inr (Or.inr (⟨rfl, rfl⟩)), trivial⟩, hS.F ht⟩) hS.2.2 dX11_wanted_15
  · skip
    exact absurd c7_ (by decide)

set_option maxHeartbeats 4000000 in
set_option maxRecDepth 100000 in
theorem c_X11_deepest (l : Launch) (dC : Nat → ClassId) (dI : Nat → Nat → Nat) (cy : Nat → ClassId) (a : Nat → Nat) (g : Nat → Nat → Option Nat) : Met l yX11_deepest wsX11_deepest ({ frames := 4, cells := 0, slots := 0, locals := 92 }) (va_Pc [.ref (a 0)] (pp dC dI cy (fw a cy g))) (va_Qi (fun (r : Int32) (_ : Unit) => r = 0) (fun _ _ => True) (fun _ => False)) 0 0 (fun _ => False) := by
  refine Met.ofW (cc := cX11_deepest) (maxL := 2) (ret := (some .int)) (by decide) rfl ?_
  intro p e s m args below meth c s₁ B hml hv
  obtain ⟨rfl, hP, hC⟩ := hv
  have hK := hC.1
  have hx := B.exec
  have hb := B.bytes
  have hr := B.returns
  have hts := atoms_spec (ws := wsX11_deepest) B.pre
  have hown : s.vm.findClass RX11 = some m.cls := findClass_of_methodNamed B.named
  have hlocks := B.notSynchronized
  have hS : va_S (fun _ => False) s.heap s.heap [] := va_S.rf
  have hl := lv_entry ([.ref (a 0)]) (n := 2) (Nat.le_of_ble_eq_true rfl)
  rw [lg_entry_eq]
  generalize (lg_sl ([.ref (a 0)]) ++ List.replicate (2 - (lg_sl ([.ref (a 0)])).length) Slot.unset).toArray = ls at hl ⊢
  have hl : lv_has ls 2 [(0, .ref (a 0))] := hl
  refine lv_iconst (v := 4) hx hb dX11_deepest_0 (by decide) ?_
  refine lv_istore_n (lv' := [(1, .int 4), (0, .ref (a 0))]) hx hb dX11_deepest_1 rfl hl (by decide) rfl (fun ls hl => ?_)
  refine lv_iload_n hx hb dX11_deepest_2 rfl (lv_at hl 0 rfl) ?_
  refine lv_if_le (tgt := 25) hx hb dX11_deepest_3 (by decide) (fun c9_ => absurd c9_ (by decide)) (fun _ => ?_)
  refine lv_aload_n hx hb dX11_deepest_6 rfl (lv_at hl 1 rfl) ?_
  refine va_get (D := (dC, dI)) (ci := 11) (v := .ref (a 31)) (C := RX11) (T := TX11) (N := 11) hx hb hts i_X11_deepest_X11 hown hK hP 0 rfl rfl 6 (by decide) (hts _ m_X11_deepest_1) (fun _ h9 => h9) rfl dX11_deepest_7 ?_
  refine lv_iload_n hx hb dX11_deepest_10 rfl (lv_at hl 0 rfl) ?_
  refine tk_pi (va_runV (As := [.int 4]) (rest := []) ⟨hx, hb, hml, hown, hts⟩ (c_X7_obstacle l dC dI cy a g 4) (cwV 1 hts gX11_deepest_X7_obstacle rfl rfl rfl (by decide +kernel) ⟨Nat.le_of_ble_eq_true rfl, Nat.le_of_ble_eq_true rfl⟩) (pv_pp hC hP (ci := 7) (q0 := 31) rfl rfl) rfl rfl hl.1 rfl (lv_room (Nat.le_of_ble_eq_true rfl)) dX11_deepest_11 ⟨Nat.le_of_ble_eq_true rfl, Nat.le_of_ble_eq_true rfl⟩) hP hS (fun r_ H locs hw hP hS => ?_)
  subst hw
  refine lv_if_ne (tgt := 19) hx hb dX11_deepest_14 (by decide) (fun _ => ?_) (fun c9_ => absurd (by decide) c9_)
  refine lv_iinc (v := 3) (lv' := [(1, .int 3), (0, .ref (a 0))]) hx hb dX11_deepest_19 hl (k := 0) rfl (by decide) (by decide) rfl (fun ls hl => ?_)
  refine lv_goto (tgt := 2) hx hb dX11_deepest_22 (by decide) ?_
  refine lv_iload_n hx hb dX11_deepest_2 rfl (lv_at hl 0 rfl) ?_
  refine lv_if_le (tgt := 25) hx hb dX11_deepest_3 (by decide) (fun c9_ => absurd c9_ (by decide)) (fun _ => ?_)
  refine lv_aload_n hx hb dX11_deepest_6 rfl (lv_at hl 1 rfl) ?_
  refine va_get (D := (dC, dI)) (ci := 11) (v := .ref (a 31)) (C := RX11) (T := TX11) (N := 11) hx hb hts i_X11_deepest_X11 hown hK hP 0 rfl rfl 6 (by decide) (hts _ m_X11_deepest_1) (fun _ h9 => h9) rfl dX11_deepest_7 ?_
  refine lv_iload_n hx hb dX11_deepest_10 rfl (lv_at hl 0 rfl) ?_
  refine tk_pi (va_runV (As := [.int 3]) (rest := []) ⟨hx, hb, hml, hown, hts⟩ (c_X7_obstacle l dC dI cy a g 3) (cwV 1 hts gX11_deepest_X7_obstacle rfl rfl rfl (by decide +kernel) ⟨Nat.le_of_ble_eq_true rfl, Nat.le_of_ble_eq_true rfl⟩) (pv_pp hC hP (ci := 7) (q0 := 31) rfl rfl) rfl rfl hl.1 rfl (lv_room (Nat.le_of_ble_eq_true rfl)) dX11_deepest_11 ⟨Nat.le_of_ble_eq_true rfl, Nat.le_of_ble_eq_true rfl⟩) hP hS (fun r_ H locs hw hP hS => ?_)
  subst hw
  refine lv_if_ne (tgt := 19) hx hb dX11_deepest_14 (by decide) (fun _ => ?_) (fun c9_ => absurd (by decide) c9_)
  refine lv_iinc (v := 2) (lv' := [(1, .int 2), (0, .ref (a 0))]) hx hb dX11_deepest_19 hl (k := 0) rfl (by decide) (by decide) rfl (fun ls hl => ?_)
  refine lv_goto (tgt := 2) hx hb dX11_deepest_22 (by decide) ?_
  refine lv_iload_n hx hb dX11_deepest_2 rfl (lv_at hl 0 rfl) ?_
  refine lv_if_le (tgt := 25) hx hb dX11_deepest_3 (by decide) (fun c9_ => absurd c9_ (by decide)) (fun _ => ?_)
  refine lv_aload_n hx hb dX11_deepest_6 rfl (lv_at hl 1 rfl) ?_
  refine va_get (D := (dC, dI)) (ci := 11) (v := .ref (a 31)) (C := RX11) (T := TX11) (N := 11) hx hb hts i_X11_deepest_X11 hown hK hP 0 rfl rfl 6 (by decide) (hts _ m_X11_deepest_1) (fun _ h9 => h9) rfl dX11_deepest_7 ?_
  refine lv_iload_n hx hb dX11_deepest_10 rfl (lv_at hl 0 rfl) ?_
  refine tk_pi (va_runV (As := [.int 2]) (rest := []) ⟨hx, hb, hml, hown, hts⟩ (c_X7_obstacle l dC dI cy a g 2) (cwV 1 hts gX11_deepest_X7_obstacle rfl rfl rfl (by decide +kernel) ⟨Nat.le_of_ble_eq_true rfl, Nat.le_of_ble_eq_true rfl⟩) (pv_pp hC hP (ci := 7) (q0 := 31) rfl rfl) rfl rfl hl.1 rfl (lv_room (Nat.le_of_ble_eq_true rfl)) dX11_deepest_11 ⟨Nat.le_of_ble_eq_true rfl, Nat.le_of_ble_eq_true rfl⟩) hP hS (fun r_ H locs hw hP hS => ?_)
  subst hw
  refine lv_if_ne (tgt := 19) hx hb dX11_deepest_14 (by decide) (fun _ => ?_) (fun c9_ => absurd (by decide) c9_)
  refine lv_iinc (v := 1) (lv' := [(1, .int 1), (0, .ref (a 0))]) hx hb dX11_deepest_19 hl (k := 0) rfl (by decide) (by decide) rfl (fun ls hl => ?_)
  refine lv_goto (tgt := 2) hx hb dX11_deepest_22 (by decide) ?_
  refine lv_iload_n hx hb dX11_deepest_2 rfl (lv_at hl 0 rfl) ?_
  refine lv_if_le (tgt := 25) hx hb dX11_deepest_3 (by decide) (fun c9_ => absurd c9_ (by decide)) (fun _ => ?_)
  refine lv_aload_n hx hb dX11_deepest_6 rfl (lv_at hl 1 rfl) ?_
  refine va_get (D := (dC, dI)) (ci := 11) (v := .ref (a 31)) (C := RX11) (T := TX11) (N := 11) hx hb hts i_X11_deepest_X11 hown hK hP 0 rfl rfl 6 (by decide) (hts _ m_X11_deepest_1) (fun _ h9 => h9) rfl dX11_deepest_7 ?_
  refine lv_iload_n hx hb dX11_deepest_10 rfl (lv_at hl 0 rfl) ?_
  refine tk_pi (va_runV (As := [.int 1]) (rest := []) ⟨hx, hb, hml, hown, hts⟩ (c_X7_obstacle l dC dI cy a g 1) (cwV 1 hts gX11_deepest_X7_obstacle rfl rfl rfl (by decide +kernel) ⟨Nat.le_of_ble_eq_true rfl, Nat.le_of_ble_eq_true rfl⟩) (pv_pp hC hP (ci := 7) (q0 := 31) rfl rfl) rfl rfl hl.1 rfl (lv_room (Nat.le_of_ble_eq_true rfl)) dX11_deepest_11 ⟨Nat.le_of_ble_eq_true rfl, Nat.le_of_ble_eq_true rfl⟩) hP hS (fun r_ H locs hw hP hS => ?_)
  subst hw
  refine lv_if_ne (tgt := 19) hx hb dX11_deepest_14 (by decide) (fun _ => ?_) (fun c9_ => absurd (by decide) c9_)
  refine lv_iinc (v := 0) (lv' := [(1, .int 0), (0, .ref (a 0))]) hx hb dX11_deepest_19 hl (k := 0) rfl (by decide) (by decide) rfl (fun ls hl => ?_)
  refine lv_goto (tgt := 2) hx hb dX11_deepest_22 (by decide) ?_
  refine lv_iload_n hx hb dX11_deepest_2 rfl (lv_at hl 0 rfl) ?_
  refine lv_if_le (tgt := 25) hx hb dX11_deepest_3 (by decide) (fun _ => ?_) (fun c9_ => absurd (by decide) c9_)
  refine lv_iconst (v := 0) hx hb dX11_deepest_25 (by decide) ?_
  exact W.iret (v := 0) hx hb hr (fun t ht hW => ⟨⟨0, (), rfl, rfl, trivial⟩, hS.F ht⟩) hS.2.2 dX11_deepest_26

set_option maxHeartbeats 4000000 in
set_option maxRecDepth 100000 in
theorem c_X11_why (l : Launch) (dC : Nat → ClassId) (dI : Nat → Nat → Nat) (cy : Nat → ClassId) (a : Nat → Nat) (g : Nat → Nat → Option Nat) (p0 : Int32) : Met l yX11_why wsX11_why ({ frames := 4, cells := 0, slots := 0, locals := 92 }) (va_Pc [.ref (a 0), .int p0] (pp dC dI cy (fw a cy g))) (va_Qi (fun (r : Int32) (_ : Unit) => ((p0 < 1) ∧ r = (-1)) ∨ ((¬ p0 < 1) ∧ (p0 ≤ 4) ∧ r = 1) ∨ ((¬ p0 < 1) ∧ (¬ p0 ≤ 4) ∧ r = (-1))) (fun _ _ => True) (fun _ => False)) 0 0 (fun _ => False) := by
  refine Met.ofW (cc := cX11_why) (maxL := 2) (ret := (some .int)) (by decide) rfl ?_
  intro p e s m args below meth c s₁ B hml hv
  obtain ⟨rfl, hP, hC⟩ := hv
  have hK := hC.1
  have hx := B.exec
  have hb := B.bytes
  have hr := B.returns
  have hts := atoms_spec (ws := wsX11_why) B.pre
  have hown : s.vm.findClass RX11 = some m.cls := findClass_of_methodNamed B.named
  have hlocks := B.notSynchronized
  have hS : va_S (fun _ => False) s.heap s.heap [] := va_S.rf
  have hl := lv_entry ([.ref (a 0), .int p0]) (n := 2) (Nat.le_of_ble_eq_true rfl)
  rw [lg_entry_eq]
  generalize (lg_sl ([.ref (a 0), .int p0]) ++ List.replicate (2 - (lg_sl ([.ref (a 0), .int p0])).length) Slot.unset).toArray = ls at hl ⊢
  have hl : lv_has ls 2 [(0, .ref (a 0)), (1, .int p0)] := hl
  refine lv_iload_n hx hb dX11_why_0 rfl (lv_at hl 1 rfl) ?_
  refine lv_iconst (v := 1) hx hb dX11_why_1 (by decide) ?_
  refine lv_icmp_lt (tgt := 10) hx hb dX11_why_2 (by decide) (fun c1_ => ?_) (fun c1_ => ?_)
  · skip
    refine lv_iconst (v := (-1)) hx hb dX11_why_10 (by decide) ?_
    refine lv_goto (tgt := 22) hx hb dX11_why_11 (by decide) ?_
    exact W.iret (v := (-1)) hx hb hr (fun t ht hW => ⟨⟨(-1), (), rfl, Or.inl (⟨c1_, rfl⟩), trivial⟩, hS.F ht⟩) hS.2.2 dX11_why_22
  · skip
    refine lv_iload_n hx hb dX11_why_5 rfl (lv_at hl 1 rfl) ?_
    refine lv_iconst (v := 4) hx hb dX11_why_6 (by decide) ?_
    refine lv_icmp_le (tgt := 14) hx hb dX11_why_7 (by decide) (fun c2_ => ?_) (fun c2_ => ?_)
    · skip
      refine lv_aload_n hx hb dX11_why_14 rfl (lv_at hl 0 rfl) ?_
      refine va_get (D := (dC, dI)) (ci := 11) (v := .ref (a 31)) (C := RX11) (T := TX11) (N := 11) hx hb hts i_X11_why_X11 hown hK hP 0 rfl rfl 6 (by decide) (hts _ m_X11_why_1) (fun _ h9 => h9) rfl dX11_why_15 ?_
      refine lv_iload_n hx hb dX11_why_18 rfl (lv_at hl 1 rfl) ?_
      refine tk_pi (va_runV (As := [.int p0]) (rest := []) ⟨hx, hb, hml, hown, hts⟩ (c_X7_obstacle l dC dI cy a g p0) (cwV 1 hts gX11_why_X7_obstacle rfl rfl rfl (by decide +kernel) ⟨Nat.le_of_ble_eq_true rfl, Nat.le_of_ble_eq_true rfl⟩) (pv_pp hC hP (ci := 7) (q0 := 31) rfl rfl) rfl rfl hl.1 rfl (lv_room (Nat.le_of_ble_eq_true rfl)) dX11_why_19 ⟨Nat.le_of_ble_eq_true rfl, Nat.le_of_ble_eq_true rfl⟩) hP hS (fun r_ H locs hw hP hS => ?_)
      subst hw
      exact W.iret (v := 1) hx hb hr (fun t ht hW => ⟨⟨1, (), rfl, Or.inr (Or.inl (⟨c1_, c2_, rfl⟩)), trivial⟩, hS.F ht⟩) hS.2.2 dX11_why_22
    · skip
      refine lv_iconst (v := (-1)) hx hb dX11_why_10 (by decide) ?_
      refine lv_goto (tgt := 22) hx hb dX11_why_11 (by decide) ?_
      exact W.iret (v := (-1)) hx hb hr (fun t ht hW => ⟨⟨(-1), (), rfl, Or.inr (Or.inr (⟨c1_, c2_, rfl⟩)), trivial⟩, hS.F ht⟩) hS.2.2 dX11_why_22

set_option maxHeartbeats 4000000 in
set_option maxRecDepth 100000 in
theorem c_X11_order (l : Launch) (dC : Nat → ClassId) (dI : Nat → Nat → Nat) (cy : Nat → ClassId) (a : Nat → Nat) (g : Nat → Nat → Option Nat) (p0 : Int32) : Met l yX11_order wsX11_order ({ frames := 4, cells := 0, slots := 0, locals := 81 }) (va_Pc [.ref (a 0), .int p0] (pp dC dI cy (fw a cy g))) (va_Qi (fun (r : Int32) (_ : Unit) => ((p0 < 0) ∧ r = (-1)) ∨ ((¬ p0 < 0) ∧ ((0 : Int32) ≤ p0) ∧ r = (-1))) (fun _ _ => True) (fun _ => False)) 0 0 (fun _ => False) := by
  refine Met.ofW (cc := cX11_order) (maxL := 2) (ret := (some .int)) (by decide) rfl ?_
  intro p e s m args below meth c s₁ B hml hv
  obtain ⟨rfl, hP, hC⟩ := hv
  have hK := hC.1
  have hx := B.exec
  have hb := B.bytes
  have hr := B.returns
  have hts := atoms_spec (ws := wsX11_order) B.pre
  have hown : s.vm.findClass RX11 = some m.cls := findClass_of_methodNamed B.named
  have hlocks := B.notSynchronized
  have hS : va_S (fun _ => False) s.heap s.heap [] := va_S.rf
  have hl := lv_entry ([.ref (a 0), .int p0]) (n := 2) (Nat.le_of_ble_eq_true rfl)
  rw [lg_entry_eq]
  generalize (lg_sl ([.ref (a 0), .int p0]) ++ List.replicate (2 - (lg_sl ([.ref (a 0), .int p0])).length) Slot.unset).toArray = ls at hl ⊢
  have hl : lv_has ls 2 [(0, .ref (a 0)), (1, .int p0)] := hl
  refine lv_aload_n hx hb dX11_order_0 rfl (lv_at hl 0 rfl) ?_
  refine va_get (D := (dC, dI)) (ci := 11) (v := .ref (a 31)) (C := RX11) (T := TX11) (N := 11) hx hb hts i_X11_order_X11 hown hK hP 0 rfl rfl 6 (by decide) (hts _ m_X11_order_1) (fun _ h9 => h9) rfl dX11_order_1 ?_
  refine lv_iload_n hx hb dX11_order_4 rfl (lv_at hl 1 rfl) ?_
  refine tk_pi (va_runV (As := [.int p0]) (rest := []) ⟨hx, hb, hml, hown, hts⟩ (c_X7_inTurn l dC dI cy a g p0) (cwV 1 hts gX11_order_X7_inTurn rfl rfl rfl (by decide +kernel) ⟨Nat.le_of_ble_eq_true rfl, Nat.le_of_ble_eq_true rfl⟩) (pv_pp hC hP (ci := 7) (q0 := 31) rfl rfl) rfl rfl hl.1 rfl (lv_room (Nat.le_of_ble_eq_true rfl)) dX11_order_5 ⟨Nat.le_of_ble_eq_true rfl, Nat.le_of_ble_eq_true rfl⟩) hP hS (fun r_ H locs hw hP hS => ?_)
  rcases hw with ⟨c1_, rfl⟩ | ⟨c2_, c3_, rfl⟩
  · skip
    exact W.iret (v := (-1)) hx hb hr (fun t ht hW => ⟨⟨(-1), (), rfl, Or.inl (⟨c1_, rfl⟩), trivial⟩, hS.F ht⟩) hS.2.2 dX11_order_8
  · skip
    exact W.iret (v := (-1)) hx hb hr (fun t ht hW => ⟨⟨(-1), (), rfl, Or.inr (⟨c2_, c3_, rfl⟩), trivial⟩, hS.F ht⟩) hS.2.2 dX11_order_8

set_option maxHeartbeats 4000000 in
set_option maxRecDepth 100000 in
theorem c_X11_would (l : Launch) (dC : Nat → ClassId) (dI : Nat → Nat → Nat) (cy : Nat → ClassId) (a : Nat → Nat) (g : Nat → Nat → Option Nat) (p0 : Int32) : Met l yX11_would wsX11_would ({ frames := 5, cells := 0, slots := 0, locals := 113 }) (va_Pc [.ref (a 0), .int p0] (pp dC dI cy (fw a cy g))) (va_Qi (fun (r : Int32) (_ : Unit) => ((p0 < 1) ∧ r = (-1)) ∨ ((¬ p0 < 1) ∧ (p0 ≤ 4) ∧ r = (-4)) ∨ ((¬ p0 < 1) ∧ (¬ p0 ≤ 4) ∧ r = (-1))) (fun _ _ => True) (fun _ => False)) 0 0 (fun _ => False) := by
  refine Met.ofW (cc := cX11_would) (maxL := 4) (ret := (some .int)) (by decide) rfl ?_
  intro p e s m args below meth c s₁ B hml hv
  obtain ⟨rfl, hP, hC⟩ := hv
  have hK := hC.1
  have hx := B.exec
  have hb := B.bytes
  have hr := B.returns
  have hts := atoms_spec (ws := wsX11_would) B.pre
  have hown : s.vm.findClass RX11 = some m.cls := findClass_of_methodNamed B.named
  have hlocks := B.notSynchronized
  have hS : va_S (fun _ => False) s.heap s.heap [] := va_S.rf
  have hl := lv_entry ([.ref (a 0), .int p0]) (n := 4) (Nat.le_of_ble_eq_true rfl)
  rw [lg_entry_eq]
  generalize (lg_sl ([.ref (a 0), .int p0]) ++ List.replicate (4 - (lg_sl ([.ref (a 0), .int p0])).length) Slot.unset).toArray = ls at hl ⊢
  have hl : lv_has ls 4 [(0, .ref (a 0)), (1, .int p0)] := hl
  refine lv_aload_n hx hb dX11_would_0 rfl (lv_at hl 0 rfl) ?_
  refine lv_iload_n hx hb dX11_would_1 rfl (lv_at hl 1 rfl) ?_
  refine tk_pi (va_runV (As := [.int p0]) (rest := []) ⟨hx, hb, hml, hown, hts⟩ (c_X11_refusalToRest l dC dI cy a g p0) (cwV 1 hts gX11_would_X11_refusalToRest rfl rfl rfl (by decide +kernel) ⟨Nat.le_of_ble_eq_true rfl, Nat.le_of_ble_eq_true rfl⟩) (pv_pp hC hP (ci := 11) (q0 := 0) rfl rfl) rfl rfl hl.1 rfl (lv_room (Nat.le_of_ble_eq_true rfl)) dX11_would_2 ⟨Nat.le_of_ble_eq_true rfl, Nat.le_of_ble_eq_true rfl⟩) hP hS (fun r_ H locs hw hP hS => ?_)
  rcases hw with ⟨c1_, rfl⟩ | ⟨c2_, c3_, rfl⟩ | ⟨c4_, c5_, rfl⟩
  · skip
    refine lv_istore_n (lv' := [(2, .int (-1)), (0, .ref (a 0)), (1, .int p0)]) hx hb dX11_would_5 rfl hl (by decide) rfl (fun ls hl => ?_)
    refine lv_iload_n hx hb dX11_would_6 rfl (lv_at hl 0 rfl) ?_
    refine lv_if_eq (tgt := 12) hx hb dX11_would_7 (by decide) (fun c9_ => absurd c9_ (by decide)) (fun _ => ?_)
    refine lv_iload_n hx hb dX11_would_10 rfl (lv_at hl 0 rfl) ?_
    exact W.iret (v := (-1)) hx hb hr (fun t ht hW => ⟨⟨(-1), (), rfl, Or.inl (⟨c1_, rfl⟩), trivial⟩, hS.F ht⟩) hS.2.2 dX11_would_11
  · skip
    refine lv_istore_n (lv' := [(2, .int (-4)), (0, .ref (a 0)), (1, .int p0)]) hx hb dX11_would_5 rfl hl (by decide) rfl (fun ls hl => ?_)
    refine lv_iload_n hx hb dX11_would_6 rfl (lv_at hl 0 rfl) ?_
    refine lv_if_eq (tgt := 12) hx hb dX11_would_7 (by decide) (fun c9_ => absurd c9_ (by decide)) (fun _ => ?_)
    refine lv_iload_n hx hb dX11_would_10 rfl (lv_at hl 0 rfl) ?_
    exact W.iret (v := (-4)) hx hb hr (fun t ht hW => ⟨⟨(-4), (), rfl, Or.inr (Or.inl (⟨c2_, c3_, rfl⟩)), trivial⟩, hS.F ht⟩) hS.2.2 dX11_would_11
  · skip
    refine lv_istore_n (lv' := [(2, .int (-1)), (0, .ref (a 0)), (1, .int p0)]) hx hb dX11_would_5 rfl hl (by decide) rfl (fun ls hl => ?_)
    refine lv_iload_n hx hb dX11_would_6 rfl (lv_at hl 0 rfl) ?_
    refine lv_if_eq (tgt := 12) hx hb dX11_would_7 (by decide) (fun c9_ => absurd c9_ (by decide)) (fun _ => ?_)
    refine lv_iload_n hx hb dX11_would_10 rfl (lv_at hl 0 rfl) ?_
    exact W.iret (v := (-1)) hx hb hr (fun t ht hW => ⟨⟨(-1), (), rfl, Or.inr (Or.inr (⟨c4_, c5_, rfl⟩)), trivial⟩, hS.F ht⟩) hS.2.2 dX11_would_11

set_option maxHeartbeats 4000000 in
set_option maxRecDepth 100000 in
theorem c_X11_tries (l : Launch) (dC : Nat → ClassId) (dI : Nat → Nat → Nat) (cy : Nat → ClassId) (a : Nat → Nat) (g : Nat → Nat → Option Nat) (p0 p1 p2 p3 p4 : Int32) : Met l yX11_tries wsX11_tries ({ frames := 3, cells := 0, slots := 0, locals := 67 }) (va_Pc [.ref (a 0), .int p0, .int p1, .int p2, .int p3, .int p4] (pp dC dI cy (fw a cy g))) (va_Qi (fun (r : Int32) (_ : Unit) => ((p4 < 0) ∧ r = (-1)) ∨ ((¬ p4 < 0) ∧ (p4 ≤ 4) ∧ (p1 < 0) ∧ (¬ p4 = 0) ∧ r = 0) ∨ ((p1 < 0) ∧ (p4 = 0) ∧ r = (-1)) ∨ ((¬ p4 < 0) ∧ (p4 ≤ 4) ∧ (¬ p1 < 0) ∧ ((65536 : Int32) ≤ p1) ∧ (¬ p4 = 0) ∧ r = 0) ∨ ((¬ p1 < 0) ∧ ((65536 : Int32) ≤ p1) ∧ (p4 = 0) ∧ r = (-1)) ∨ ((¬ p4 < 0) ∧ (p4 ≤ 4) ∧ (¬ p1 < 0) ∧ (¬ (65536 : Int32) ≤ p1) ∧ (p2 < 0) ∧ (¬ p4 = 0) ∧ r = 0) ∨ ((¬ p1 < 0) ∧ (¬ (65536 : Int32) ≤ p1) ∧ (p2 < 0) ∧ (p4 = 0) ∧ r = (-1)) ∨ ((¬ p4 < 0) ∧ (p4 ≤ 4) ∧ (¬ p1 < 0) ∧ (¬ (65536 : Int32) ≤ p1) ∧ (¬ p2 < 0) ∧ ((65536 : Int32) ≤ p2) ∧ (¬ p4 = 0) ∧ r = 0) ∨ ((¬ p1 < 0) ∧ (¬ (65536 : Int32) ≤ p1) ∧ (¬ p2 < 0) ∧ ((65536 : Int32) ≤ p2) ∧ (p4 = 0) ∧ r = (-1)) ∨ ((¬ p4 < 0) ∧ (p4 ≤ 4) ∧ (¬ p1 < 0) ∧ (¬ (65536 : Int32) ≤ p1) ∧ (¬ p2 < 0) ∧ (¬ (65536 : Int32) ≤ p2) ∧ (p3 < 0) ∧ (¬ p4 = 0) ∧ r = 0) ∨ ((¬ p1 < 0) ∧ (¬ (65536 : Int32) ≤ p1) ∧ (¬ p2 < 0) ∧ (¬ (65536 : Int32) ≤ p2) ∧ (p3 < 0) ∧ (p4 = 0) ∧ r = (-1)) ∨ ((¬ p4 < 0) ∧ (p4 ≤ 4) ∧ (¬ p1 < 0) ∧ (¬ (65536 : Int32) ≤ p1) ∧ (¬ p2 < 0) ∧ (¬ (65536 : Int32) ≤ p2) ∧ (¬ p3 < 0) ∧ ((65536 : Int32) ≤ p3) ∧ (¬ p4 = 0) ∧ r = 0) ∨ ((¬ p1 < 0) ∧ (¬ (65536 : Int32) ≤ p1) ∧ (¬ p2 < 0) ∧ (¬ (65536 : Int32) ≤ p2) ∧ (¬ p3 < 0) ∧ ((65536 : Int32) ≤ p3) ∧ (p4 = 0) ∧ r = (-1)) ∨ ((¬ p4 < 0) ∧ (p4 ≤ 4) ∧ (¬ p1 < 0) ∧ (¬ (65536 : Int32) ≤ p1) ∧ (¬ p2 < 0) ∧ (¬ (65536 : Int32) ≤ p2) ∧ (¬ p3 < 0) ∧ (¬ (65536 : Int32) ≤ p3) ∧ (p0 < 0) ∧ (¬ p4 = 0) ∧ r = 0) ∨ ((¬ p1 < 0) ∧ (¬ (65536 : Int32) ≤ p1) ∧ (¬ p2 < 0) ∧ (¬ (65536 : Int32) ≤ p2) ∧ (¬ p3 < 0) ∧ (¬ (65536 : Int32) ≤ p3) ∧ (p0 < 0) ∧ (p4 = 0) ∧ r = (-2)) ∨ ((¬ p4 < 0) ∧ (p4 ≤ 4) ∧ (¬ p1 < 0) ∧ (¬ (65536 : Int32) ≤ p1) ∧ (¬ p2 < 0) ∧ (¬ (65536 : Int32) ≤ p2) ∧ (¬ p3 < 0) ∧ (¬ (65536 : Int32) ≤ p3) ∧ (¬ p0 < 0) ∧ ((1 : Int32) ≤ p0) ∧ (¬ p4 = 0) ∧ r = 0) ∨ ((¬ p1 < 0) ∧ (¬ (65536 : Int32) ≤ p1) ∧ (¬ p2 < 0) ∧ (¬ (65536 : Int32) ≤ p2) ∧ (¬ p3 < 0) ∧ (¬ (65536 : Int32) ≤ p3) ∧ (¬ p0 < 0) ∧ ((1 : Int32) ≤ p0) ∧ (p4 = 0) ∧ r = (-2)) ∨ ((¬ p4 < 0) ∧ (p4 ≤ 4) ∧ (¬ p1 < 0) ∧ (¬ (65536 : Int32) ≤ p1) ∧ (¬ p2 < 0) ∧ (¬ (65536 : Int32) ≤ p2) ∧ (¬ p3 < 0) ∧ (¬ (65536 : Int32) ≤ p3) ∧ (p0 = 0) ∧ (¬ p4 = 0) ∧ r = 0) ∨ ((¬ p1 < 0) ∧ (¬ (65536 : Int32) ≤ p1) ∧ (¬ p2 < 0) ∧ (¬ (65536 : Int32) ≤ p2) ∧ (¬ p3 < 0) ∧ (¬ (65536 : Int32) ≤ p3) ∧ (p0 = 0) ∧ (p4 = 0) ∧ r = (-2)) ∨ ((¬ p4 < 0) ∧ (¬ p4 ≤ 4) ∧ r = (-1))) (fun _ _ => True) (fun _ => False)) 0 0 (fun _ => False) := by
  refine Met.ofW (cc := cX11_tries) (maxL := 9) (ret := (some .int)) (by decide) rfl ?_
  intro p e s m args below meth c s₁ B hml hv
  obtain ⟨rfl, hP, hC⟩ := hv
  have hK := hC.1
  have hx := B.exec
  have hb := B.bytes
  have hr := B.returns
  have hts := atoms_spec (ws := wsX11_tries) B.pre
  have hown : s.vm.findClass RX11 = some m.cls := findClass_of_methodNamed B.named
  have hlocks := B.notSynchronized
  have hS : va_S (fun _ => False) s.heap s.heap [] := va_S.rf
  have hl := lv_entry ([.ref (a 0), .int p0, .int p1, .int p2, .int p3, .int p4]) (n := 9) (Nat.le_of_ble_eq_true rfl)
  rw [lg_entry_eq]
  generalize (lg_sl ([.ref (a 0), .int p0, .int p1, .int p2, .int p3, .int p4]) ++ List.replicate (9 - (lg_sl ([.ref (a 0), .int p0, .int p1, .int p2, .int p3, .int p4])).length) Slot.unset).toArray = ls at hl ⊢
  have hl : lv_has ls 9 [(0, .ref (a 0)), (1, .int p0), (2, .int p1), (3, .int p2), (4, .int p3), (5, .int p4)] := hl
  refine lv_iload hx hb dX11_tries_0 (lv_at hl 5 rfl) ?_
  refine lv_if_lt (tgt := 11) hx hb dX11_tries_2 (by decide) (fun c1_ => ?_) (fun c1_ => ?_)
  · skip
    refine lv_iconst (v := (-1)) hx hb dX11_tries_11 (by decide) ?_
    exact W.iret (v := (-1)) hx hb hr (fun t ht hW => ⟨⟨(-1), (), rfl, Or.inl (⟨c1_, rfl⟩), trivial⟩, hS.F ht⟩) hS.2.2 dX11_tries_12
  · skip
    refine lv_iload hx hb dX11_tries_5 (lv_at hl 5 rfl) ?_
    refine lv_iconst (v := 4) hx hb dX11_tries_7 (by decide) ?_
    refine lv_icmp_le (tgt := 13) hx hb dX11_tries_8 (by decide) (fun c2_ => ?_) (fun c2_ => ?_)
    · skip
      refine lv_aload_n hx hb dX11_tries_13 rfl (lv_at hl 0 rfl) ?_
      refine lv_iload_n hx hb dX11_tries_14 rfl (lv_at hl 1 rfl) ?_
      refine lv_iload_n hx hb dX11_tries_15 rfl (lv_at hl 2 rfl) ?_
      refine lv_iload_n hx hb dX11_tries_16 rfl (lv_at hl 3 rfl) ?_
      refine lv_iload hx hb dX11_tries_17 (lv_at hl 4 rfl) ?_
      refine tk_pi (va_runV (As := [.int p0, .int p1, .int p2, .int p3]) (rest := []) ⟨hx, hb, hml, hown, hts⟩ (c_X11_refusalToRun l dC dI cy a g p0 p1 p2 p3) (cwV 4 hts gX11_tries_X11_refusalToRun rfl rfl rfl (by decide +kernel) ⟨Nat.le_of_ble_eq_true rfl, Nat.le_of_ble_eq_true rfl⟩) (pv_pp hC hP (ci := 11) (q0 := 0) rfl rfl) rfl rfl hl.1 rfl (lv_room (Nat.le_of_ble_eq_true rfl)) dX11_tries_19 ⟨Nat.le_of_ble_eq_true rfl, Nat.le_of_ble_eq_true rfl⟩) hP hS (fun r_ H locs hw hP hS => ?_)
      rcases hw with ⟨c3_, rfl⟩ | ⟨c4_, c5_, rfl⟩ | ⟨c6_, c7_, c8_, rfl⟩ | ⟨c9_, c10_, c11_, c12_, rfl⟩ | ⟨c13_, c14_, c15_, c16_, c17_, rfl⟩ | ⟨c18_, c19_, c20_, c21_, c22_, c23_, rfl⟩ | ⟨c24_, c25_, c26_, c27_, c28_, c29_, c30_, rfl⟩ | ⟨c31_, c32_, c33_, c34_, c35_, c36_, c37_, c38_, rfl⟩ | ⟨c39_, c40_, c41_, c42_, c43_, c44_, c45_, rfl⟩
      · skip
        refine lv_istore (lv' := [(6, .int (-1)), (0, .ref (a 0)), (1, .int p0), (2, .int p1), (3, .int p2), (4, .int p3), (5, .int p4)]) hx hb dX11_tries_22 hl (by decide) rfl (fun ls hl => ?_)
        refine lv_iload hx hb dX11_tries_24 (lv_at hl 0 rfl) ?_
        refine lv_if_eq (tgt := 41) hx hb dX11_tries_26 (by decide) (fun c9_ => absurd c9_ (by decide)) (fun _ => ?_)
        refine lv_iload hx hb dX11_tries_29 (lv_at hl 6 rfl) ?_
        refine lv_if_ne (tgt := 39) hx hb dX11_tries_31 (by decide) (fun c46_ => ?_) (fun c46_ => ?_)
        · skip
          refine lv_iconst (v := 0) hx hb dX11_tries_39 (by decide) ?_
          exact W.iret (v := 0) hx hb hr (fun t ht hW => ⟨⟨0, (), rfl, Or.inr (Or.inl (⟨c1_, c2_, c3_, c46_, rfl⟩)), trivial⟩, hS.F ht⟩) hS.2.2 dX11_tries_40
        · skip
          subst c46_
          refine lv_iload hx hb dX11_tries_34 (lv_at hl 0 rfl) ?_
          refine lv_goto (tgt := 40) hx hb dX11_tries_36 (by decide) ?_
          exact W.iret (v := (-1)) hx hb hr (fun t ht hW => ⟨⟨(-1), (), rfl, Or.inr (Or.inr (Or.inl (⟨c3_, rfl, rfl⟩))), trivial⟩, hS.F ht⟩) hS.2.2 dX11_tries_40
      · skip
        refine lv_istore (lv' := [(6, .int (-1)), (0, .ref (a 0)), (1, .int p0), (2, .int p1), (3, .int p2), (4, .int p3), (5, .int p4)]) hx hb dX11_tries_22 hl (by decide) rfl (fun ls hl => ?_)
        refine lv_iload hx hb dX11_tries_24 (lv_at hl 0 rfl) ?_
        refine lv_if_eq (tgt := 41) hx hb dX11_tries_26 (by decide) (fun c9_ => absurd c9_ (by decide)) (fun _ => ?_)
        refine lv_iload hx hb dX11_tries_29 (lv_at hl 6 rfl) ?_
        refine lv_if_ne (tgt := 39) hx hb dX11_tries_31 (by decide) (fun c47_ => ?_) (fun c47_ => ?_)
        · skip
          refine lv_iconst (v := 0) hx hb dX11_tries_39 (by decide) ?_
          exact W.iret (v := 0) hx hb hr (fun t ht hW => ⟨⟨0, (), rfl, Or.inr (Or.inr (Or.inr (Or.inl (⟨c1_, c2_, c4_, c5_, c47_, rfl⟩)))), trivial⟩, hS.F ht⟩) hS.2.2 dX11_tries_40
        · skip
          subst c47_
          refine lv_iload hx hb dX11_tries_34 (lv_at hl 0 rfl) ?_
          refine lv_goto (tgt := 40) hx hb dX11_tries_36 (by decide) ?_
          exact W.iret (v := (-1)) hx hb hr (fun t ht hW => ⟨⟨(-1), (), rfl, Or.inr (Or.inr (Or.inr (Or.inr (Or.inl (⟨c4_, c5_, rfl, rfl⟩))))), trivial⟩, hS.F ht⟩) hS.2.2 dX11_tries_40
      · skip
        refine lv_istore (lv' := [(6, .int (-1)), (0, .ref (a 0)), (1, .int p0), (2, .int p1), (3, .int p2), (4, .int p3), (5, .int p4)]) hx hb dX11_tries_22 hl (by decide) rfl (fun ls hl => ?_)
        refine lv_iload hx hb dX11_tries_24 (lv_at hl 0 rfl) ?_
        refine lv_if_eq (tgt := 41) hx hb dX11_tries_26 (by decide) (fun c9_ => absurd c9_ (by decide)) (fun _ => ?_)
        refine lv_iload hx hb dX11_tries_29 (lv_at hl 6 rfl) ?_
        refine lv_if_ne (tgt := 39) hx hb dX11_tries_31 (by decide) (fun c48_ => ?_) (fun c48_ => ?_)
        · skip
          refine lv_iconst (v := 0) hx hb dX11_tries_39 (by decide) ?_
          exact W.iret (v := 0) hx hb hr (fun t ht hW => ⟨⟨0, (), rfl, Or.inr (Or.inr (Or.inr (Or.inr (Or.inr (Or.inl (⟨c1_, c2_, c6_, c7_, c8_, c48_, rfl⟩)))))), trivial⟩, hS.F ht⟩) hS.2.2 dX11_tries_40
        · skip
          subst c48_
          refine lv_iload hx hb dX11_tries_34 (lv_at hl 0 rfl) ?_
          refine lv_goto (tgt := 40) hx hb dX11_tries_36 (by decide) ?_
          exact W.iret (v := (-1)) hx hb hr (fun t ht hW => ⟨⟨(-1), (), rfl, Or.inr (Or.inr (Or.inr (Or.inr (Or.inr (Or.inr (Or.inl (⟨c6_, c7_, c8_, rfl, rfl⟩))))))), trivial⟩, hS.F ht⟩) hS.2.2 dX11_tries_40
      · skip
        refine lv_istore (lv' := [(6, .int (-1)), (0, .ref (a 0)), (1, .int p0), (2, .int p1), (3, .int p2), (4, .int p3), (5, .int p4)]) hx hb dX11_tries_22 hl (by decide) rfl (fun ls hl => ?_)
        refine lv_iload hx hb dX11_tries_24 (lv_at hl 0 rfl) ?_
        refine lv_if_eq (tgt := 41) hx hb dX11_tries_26 (by decide) (fun c9_ => absurd c9_ (by decide)) (fun _ => ?_)
        refine lv_iload hx hb dX11_tries_29 (lv_at hl 6 rfl) ?_
        refine lv_if_ne (tgt := 39) hx hb dX11_tries_31 (by decide) (fun c49_ => ?_) (fun c49_ => ?_)
        · skip
          refine lv_iconst (v := 0) hx hb dX11_tries_39 (by decide) ?_
          exact W.iret (v := 0) hx hb hr (fun t ht hW => ⟨⟨0, (), rfl, Or.inr (Or.inr (Or.inr (Or.inr (Or.inr (Or.inr (Or.inr (Or.inl (⟨c1_, c2_, c9_, c10_, c11_, c12_, c49_, rfl⟩)))))))), trivial⟩, hS.F ht⟩) hS.2.2 dX11_tries_40
        · skip
          subst c49_
          refine lv_iload hx hb dX11_tries_34 (lv_at hl 0 rfl) ?_
          refine lv_goto (tgt := 40) hx hb dX11_tries_36 (by decide) ?_
          exact W.iret (v := (-1)) hx hb hr (fun t ht hW => ⟨⟨(-1), (), rfl, Or.inr (Or.inr (Or.inr (Or.inr (Or.inr (Or.inr (Or.inr (Or.inr (Or.inl (⟨c9_, c10_, c11_, c12_, rfl, rfl⟩))))))))), trivial⟩, hS.F ht⟩) hS.2.2 dX11_tries_40
      · skip
        refine lv_istore (lv' := [(6, .int (-1)), (0, .ref (a 0)), (1, .int p0), (2, .int p1), (3, .int p2), (4, .int p3), (5, .int p4)]) hx hb dX11_tries_22 hl (by decide) rfl (fun ls hl => ?_)
        refine lv_iload hx hb dX11_tries_24 (lv_at hl 0 rfl) ?_
        refine lv_if_eq (tgt := 41) hx hb dX11_tries_26 (by decide) (fun c9_ => absurd c9_ (by decide)) (fun _ => ?_)
        refine lv_iload hx hb dX11_tries_29 (lv_at hl 6 rfl) ?_
        refine lv_if_ne (tgt := 39) hx hb dX11_tries_31 (by decide) (fun c50_ => ?_) (fun c50_ => ?_)
        · skip
          refine lv_iconst (v := 0) hx hb dX11_tries_39 (by decide) ?_
          exact W.iret (v := 0) hx hb hr (fun t ht hW => ⟨⟨0, (), rfl, Or.inr (Or.inr (Or.inr (Or.inr (Or.inr (Or.inr (Or.inr (Or.inr (Or.inr (Or.inl (⟨c1_, c2_, c13_, c14_, c15_, c16_, c17_, c50_, rfl⟩)))))))))), trivial⟩, hS.F ht⟩) hS.2.2 dX11_tries_40
        · skip
          subst c50_
          refine lv_iload hx hb dX11_tries_34 (lv_at hl 0 rfl) ?_
          refine lv_goto (tgt := 40) hx hb dX11_tries_36 (by decide) ?_
          exact W.iret (v := (-1)) hx hb hr (fun t ht hW => ⟨⟨(-1), (), rfl, Or.inr (Or.inr (Or.inr (Or.inr (Or.inr (Or.inr (Or.inr (Or.inr (Or.inr (Or.inr (Or.inl (⟨c13_, c14_, c15_, c16_, c17_, rfl, rfl⟩))))))))))), trivial⟩, hS.F ht⟩) hS.2.2 dX11_tries_40
      · skip
        refine lv_istore (lv' := [(6, .int (-1)), (0, .ref (a 0)), (1, .int p0), (2, .int p1), (3, .int p2), (4, .int p3), (5, .int p4)]) hx hb dX11_tries_22 hl (by decide) rfl (fun ls hl => ?_)
        refine lv_iload hx hb dX11_tries_24 (lv_at hl 0 rfl) ?_
        refine lv_if_eq (tgt := 41) hx hb dX11_tries_26 (by decide) (fun c9_ => absurd c9_ (by decide)) (fun _ => ?_)
        refine lv_iload hx hb dX11_tries_29 (lv_at hl 6 rfl) ?_
        refine lv_if_ne (tgt := 39) hx hb dX11_tries_31 (by decide) (fun c51_ => ?_) (fun c51_ => ?_)
        · skip
          refine lv_iconst (v := 0) hx hb dX11_tries_39 (by decide) ?_
          exact W.iret (v := 0) hx hb hr (fun t ht hW => ⟨⟨0, (), rfl, Or.inr (Or.inr (Or.inr (Or.inr (Or.inr (Or.inr (Or.inr (Or.inr (Or.inr (Or.inr (Or.inr (Or.inl (⟨c1_, c2_, c18_, c19_, c20_, c21_, c22_, c23_, c51_, rfl⟩)))))))))))), trivial⟩, hS.F ht⟩) hS.2.2 dX11_tries_40
        · skip
          subst c51_
          refine lv_iload hx hb dX11_tries_34 (lv_at hl 0 rfl) ?_
          refine lv_goto (tgt := 40) hx hb dX11_tries_36 (by decide) ?_
          exact W.iret (v := (-1)) hx hb hr (fun t ht hW => ⟨⟨(-1), (), rfl, Or.inr (Or.inr (Or.inr (Or.inr (Or.inr (Or.inr (Or.inr (Or.inr (Or.inr (Or.inr (Or.inr (Or.inr (Or.inl (⟨c18_, c19_, c20_, c21_, c22_, c23_, rfl, rfl⟩))))))))))))), trivial⟩, hS.F ht⟩) hS.2.2 dX11_tries_40
      · skip
        refine lv_istore (lv' := [(6, .int (-2)), (0, .ref (a 0)), (1, .int p0), (2, .int p1), (3, .int p2), (4, .int p3), (5, .int p4)]) hx hb dX11_tries_22 hl (by decide) rfl (fun ls hl => ?_)
        refine lv_iload hx hb dX11_tries_24 (lv_at hl 0 rfl) ?_
        refine lv_if_eq (tgt := 41) hx hb dX11_tries_26 (by decide) (fun c9_ => absurd c9_ (by decide)) (fun _ => ?_)
        refine lv_iload hx hb dX11_tries_29 (lv_at hl 6 rfl) ?_
        refine lv_if_ne (tgt := 39) hx hb dX11_tries_31 (by decide) (fun c52_ => ?_) (fun c52_ => ?_)
        · skip
          refine lv_iconst (v := 0) hx hb dX11_tries_39 (by decide) ?_
          exact W.iret (v := 0) hx hb hr (fun t ht hW => ⟨⟨0, (), rfl, Or.inr (Or.inr (Or.inr (Or.inr (Or.inr (Or.inr (Or.inr (Or.inr (Or.inr (Or.inr (Or.inr (Or.inr (Or.inr (Or.inl (⟨c1_, c2_, c24_, c25_, c26_, c27_, c28_, c29_, c30_, c52_, rfl⟩)))))))))))))), trivial⟩, hS.F ht⟩) hS.2.2 dX11_tries_40
        · skip
          subst c52_
          refine lv_iload hx hb dX11_tries_34 (lv_at hl 0 rfl) ?_
          refine lv_goto (tgt := 40) hx hb dX11_tries_36 (by decide) ?_
          exact W.iret (v := (-2)) hx hb hr (fun t ht hW => ⟨⟨(-2), (), rfl, Or.inr (Or.inr (Or.inr (Or.inr (Or.inr (Or.inr (Or.inr (Or.inr (Or.inr (Or.inr (Or.inr (Or.inr (Or.inr (Or.inr (Or.inl (⟨c24_, c25_, c26_, c27_, c28_, c29_, c30_, rfl, rfl⟩))))))))))))))), trivial⟩, hS.F ht⟩) hS.2.2 dX11_tries_40
      · skip
        refine lv_istore (lv' := [(6, .int (-2)), (0, .ref (a 0)), (1, .int p0), (2, .int p1), (3, .int p2), (4, .int p3), (5, .int p4)]) hx hb dX11_tries_22 hl (by decide) rfl (fun ls hl => ?_)
        refine lv_iload hx hb dX11_tries_24 (lv_at hl 0 rfl) ?_
        refine lv_if_eq (tgt := 41) hx hb dX11_tries_26 (by decide) (fun c9_ => absurd c9_ (by decide)) (fun _ => ?_)
        refine lv_iload hx hb dX11_tries_29 (lv_at hl 6 rfl) ?_
        refine lv_if_ne (tgt := 39) hx hb dX11_tries_31 (by decide) (fun c53_ => ?_) (fun c53_ => ?_)
        · skip
          refine lv_iconst (v := 0) hx hb dX11_tries_39 (by decide) ?_
          exact W.iret (v := 0) hx hb hr (fun t ht hW => ⟨⟨0, (), rfl, Or.inr (Or.inr (Or.inr (Or.inr (Or.inr (Or.inr (Or.inr (Or.inr (Or.inr (Or.inr (Or.inr (Or.inr (Or.inr (Or.inr (Or.inr (Or.inl (⟨c1_, c2_, c31_, c32_, c33_, c34_, c35_, c36_, c37_, c38_, c53_, rfl⟩)))))))))))))))), trivial⟩, hS.F ht⟩) hS.2.2 dX11_tries_40
        · skip
          subst c53_
          refine lv_iload hx hb dX11_tries_34 (lv_at hl 0 rfl) ?_
          refine lv_goto (tgt := 40) hx hb dX11_tries_36 (by decide) ?_
          exact W.iret (v := (-2)) hx hb hr (fun t ht hW => ⟨⟨(-2), (), rfl, Or.inr (Or.inr (Or.inr (Or.inr (Or.inr (Or.inr (Or.inr (Or.inr (Or.inr (Or.inr (Or.inr (Or.inr (Or.inr (Or.inr (Or.inr (Or.inr (Or.inl (⟨c31_, c32_, c33_, c34_, c35_, c36_, c37_, c38_, rfl, rfl⟩))))))))))))))))), trivial⟩, hS.F ht⟩) hS.2.2 dX11_tries_40
      · skip
        subst c45_
        refine lv_istore (lv' := [(6, .int (-2)), (0, .ref (a 0)), (1, .int 0), (2, .int p1), (3, .int p2), (4, .int p3), (5, .int p4)]) hx hb dX11_tries_22 hl (by decide) rfl (fun ls hl => ?_)
        refine lv_iload hx hb dX11_tries_24 (lv_at hl 0 rfl) ?_
        refine lv_if_eq (tgt := 41) hx hb dX11_tries_26 (by decide) (fun c9_ => absurd c9_ (by decide)) (fun _ => ?_)
        refine lv_iload hx hb dX11_tries_29 (lv_at hl 6 rfl) ?_
        refine lv_if_ne (tgt := 39) hx hb dX11_tries_31 (by decide) (fun c54_ => ?_) (fun c54_ => ?_)
        · skip
          refine lv_iconst (v := 0) hx hb dX11_tries_39 (by decide) ?_
          exact W.iret (v := 0) hx hb hr (fun t ht hW => ⟨⟨0, (), rfl, Or.inr (Or.inr (Or.inr (Or.inr (Or.inr (Or.inr (Or.inr (Or.inr (Or.inr (Or.inr (Or.inr (Or.inr (Or.inr (Or.inr (Or.inr (Or.inr (Or.inr (Or.inl (⟨c1_, c2_, c39_, c40_, c41_, c42_, c43_, c44_, rfl, c54_, rfl⟩)))))))))))))))))), trivial⟩, hS.F ht⟩) hS.2.2 dX11_tries_40
        · skip
          subst c54_
          refine lv_iload hx hb dX11_tries_34 (lv_at hl 0 rfl) ?_
          refine lv_goto (tgt := 40) hx hb dX11_tries_36 (by decide) ?_
          exact W.iret (v := (-2)) hx hb hr (fun t ht hW => ⟨⟨(-2), (), rfl, Or.inr (Or.inr (Or.inr (Or.inr (Or.inr (Or.inr (Or.inr (Or.inr (Or.inr (Or.inr (Or.inr (Or.inr (Or.inr (Or.inr (Or.inr (Or.inr (Or.inr (Or.inr (Or.inl (⟨c39_, c40_, c41_, c42_, c43_, c44_, rfl, rfl, rfl⟩))))))))))))))))))), trivial⟩, hS.F ht⟩) hS.2.2 dX11_tries_40
    · skip
      refine lv_iconst (v := (-1)) hx hb dX11_tries_11 (by decide) ?_
      exact W.iret (v := (-1)) hx hb hr (fun t ht hW => ⟨⟨(-1), (), rfl, Or.inr (Or.inr (Or.inr (Or.inr (Or.inr (Or.inr (Or.inr (Or.inr (Or.inr (Or.inr (Or.inr (Or.inr (Or.inr (Or.inr (Or.inr (Or.inr (Or.inr (Or.inr (Or.inr (⟨c1_, c2_, rfl⟩))))))))))))))))))), trivial⟩, hS.F ht⟩) hS.2.2 dX11_tries_12

set_option maxHeartbeats 4000000 in
set_option maxRecDepth 100000 in
theorem c_X11_error (l : Launch) (dC : Nat → ClassId) (dI : Nat → Nat → Nat) (cy : Nat → ClassId) (a : Nat → Nat) (g : Nat → Nat → Option Nat) (p0 : Int32) : Met l yX11_error wsX11_error ({ frames := 1, cells := 0, slots := 0, locals := 21 }) (va_Pc [.ref (a 0), .int p0] (pp dC dI cy (fw a cy g))) (va_Qi (fun (r : Int32) (_ : Unit) => ((p0 < 0) ∧ (p0 < 10) ∧ r = (-1)) ∨ ((¬ p0 < 0) ∧ ((3 : Int32) ≤ p0) ∧ (p0 < 10) ∧ r = (-1)) ∨ ((¬ p0 < 0) ∧ ((3 : Int32) ≤ p0) ∧ (¬ p0 < 10) ∧ ((10 : Int32) ≤ p0) ∧ r = (-1)) ∨ ((¬ p0 < 0) ∧ (¬ (3 : Int32) ≤ p0) ∧ r = 0)) (fun _ _ => True) (fun _ => False)) 0 0 (fun _ => False) := by
  refine Met.ofW (cc := cX11_error) (maxL := 2) (ret := (some .int)) (by decide) rfl ?_
  intro p e s m args below meth c s₁ B hml hv
  obtain ⟨rfl, hP, hC⟩ := hv
  have hK := hC.1
  have hx := B.exec
  have hb := B.bytes
  have hr := B.returns
  have hts := atoms_spec (ws := wsX11_error) B.pre
  have hown : s.vm.findClass RX11 = some m.cls := findClass_of_methodNamed B.named
  have hlocks := B.notSynchronized
  have hS : va_S (fun _ => False) s.heap s.heap [] := va_S.rf
  have hl := lv_entry ([.ref (a 0), .int p0]) (n := 2) (Nat.le_of_ble_eq_true rfl)
  rw [lg_entry_eq]
  generalize (lg_sl ([.ref (a 0), .int p0]) ++ List.replicate (2 - (lg_sl ([.ref (a 0), .int p0])).length) Slot.unset).toArray = ls at hl ⊢
  have hl : lv_has ls 2 [(0, .ref (a 0)), (1, .int p0)] := hl
  refine lv_aload_n hx hb dX11_error_0 rfl (lv_at hl 0 rfl) ?_
  refine va_get (D := (dC, dI)) (ci := 11) (v := .ref (a 28)) (C := RX11) (T := TX11) (N := 11) hx hb hts i_X11_error_X11 hown hK hP 0 rfl rfl 4 (by decide) (hts _ m_X11_error_1) (fun _ h9 => h9) rfl dX11_error_1 ?_
  refine lv_iload_n hx hb dX11_error_4 rfl (lv_at hl 1 rfl) ?_
  refine tk_pi (va_runV (As := [.int p0]) (rest := []) ⟨hx, hb, hml, hown, hts⟩ (c_X3_told l dC dI cy a g p0) (cwV 1 hts gX11_error_X3_told rfl rfl rfl (by decide +kernel) ⟨Nat.le_of_ble_eq_true rfl, Nat.le_of_ble_eq_true rfl⟩) (pv_pp hC hP (ci := 3) (q0 := 28) rfl rfl) rfl rfl hl.1 rfl (lv_room (Nat.le_of_ble_eq_true rfl)) dX11_error_5 ⟨Nat.le_of_ble_eq_true rfl, Nat.le_of_ble_eq_true rfl⟩) hP hS (fun r_ H locs hw hP hS => ?_)
  rcases hw with ⟨c1_, c2_, rfl⟩ | ⟨c3_, c4_, c5_, rfl⟩ | ⟨c6_, c7_, c8_, c9_, rfl⟩ | ⟨c10_, c11_, rfl⟩
  · skip
    exact W.iret (v := (-1)) hx hb hr (fun t ht hW => ⟨⟨(-1), (), rfl, Or.inl (⟨c1_, c2_, rfl⟩), trivial⟩, hS.F ht⟩) hS.2.2 dX11_error_8
  · skip
    exact W.iret (v := (-1)) hx hb hr (fun t ht hW => ⟨⟨(-1), (), rfl, Or.inr (Or.inl (⟨c3_, c4_, c5_, rfl⟩)), trivial⟩, hS.F ht⟩) hS.2.2 dX11_error_8
  · skip
    exact W.iret (v := (-1)) hx hb hr (fun t ht hW => ⟨⟨(-1), (), rfl, Or.inr (Or.inr (Or.inl (⟨c6_, c7_, c8_, c9_, rfl⟩))), trivial⟩, hS.F ht⟩) hS.2.2 dX11_error_8
  · skip
    exact W.iret (v := 0) hx hb hr (fun t ht hW => ⟨⟨0, (), rfl, Or.inr (Or.inr (Or.inr (⟨c10_, c11_, rfl⟩))), trivial⟩, hS.F ht⟩) hS.2.2 dX11_error_8

set_option maxHeartbeats 4000000 in
set_option maxRecDepth 100000 in
theorem c_X11_note (l : Launch) (dC : Nat → ClassId) (dI : Nat → Nat → Nat) (cy : Nat → ClassId) (a : Nat → Nat) (g : Nat → Nat → Option Nat) (p0 p1 : Int32) : Met l yX11_note wsX11_note ({ frames := 1, cells := 0, slots := 0, locals := 23 }) (va_Pc [.ref (a 0), .int p0, .int p1] (pp dC dI cy (fw a cy g))) (va_Qi (fun (r : Int32) (_ : Unit) => ((p0 < 0) ∧ r = (-1)) ∨ ((¬ p0 < 0) ∧ ((0 : Int32) ≤ p0) ∧ r = (-1))) (fun _ _ => True) (fun _ => False)) 0 0 (fun _ => False) := by
  refine Met.ofW (cc := cX11_note) (maxL := 3) (ret := (some .int)) (by decide) rfl ?_
  intro p e s m args below meth c s₁ B hml hv
  obtain ⟨rfl, hP, hC⟩ := hv
  have hK := hC.1
  have hx := B.exec
  have hb := B.bytes
  have hr := B.returns
  have hts := atoms_spec (ws := wsX11_note) B.pre
  have hown : s.vm.findClass RX11 = some m.cls := findClass_of_methodNamed B.named
  have hlocks := B.notSynchronized
  have hS : va_S (fun _ => False) s.heap s.heap [] := va_S.rf
  have hl := lv_entry ([.ref (a 0), .int p0, .int p1]) (n := 3) (Nat.le_of_ble_eq_true rfl)
  rw [lg_entry_eq]
  generalize (lg_sl ([.ref (a 0), .int p0, .int p1]) ++ List.replicate (3 - (lg_sl ([.ref (a 0), .int p0, .int p1])).length) Slot.unset).toArray = ls at hl ⊢
  have hl : lv_has ls 3 [(0, .ref (a 0)), (1, .int p0), (2, .int p1)] := hl
  refine lv_aload_n hx hb dX11_note_0 rfl (lv_at hl 0 rfl) ?_
  refine va_get (D := (dC, dI)) (ci := 11) (v := .ref (a 1)) (C := RX11) (T := TX11) (N := 11) hx hb hts i_X11_note_X11 hown hK hP 0 rfl rfl 0 (by decide) (hts _ m_X11_note_1) (fun _ h9 => h9) rfl dX11_note_1 ?_
  refine va_get (D := (dC, dI)) (ci := 8) (v := .ref (a 15)) (C := RX8) (T := TX8) (N := 17) hx hb hts i_X11_note_X8 hown hK hP 1 rfl rfl 15 (by decide) (hts _ m_X11_note_2) (fun _ h9 => h9) rfl dX11_note_4 ?_
  refine lv_iload_n hx hb dX11_note_7 rfl (lv_at hl 1 rfl) ?_
  refine lv_iload_n hx hb dX11_note_8 rfl (lv_at hl 2 rfl) ?_
  refine tk_pi (va_runV (As := [.int p0, .int p1]) (rest := []) ⟨hx, hb, hml, hown, hts⟩ (c_X2_told_n l dC dI cy a g p0 p1) (cwV 2 hts gX11_note_X2_told rfl rfl rfl (by decide +kernel) ⟨Nat.le_of_ble_eq_true rfl, Nat.le_of_ble_eq_true rfl⟩) (pv_pp hC hP (ci := 2) (q0 := 15) rfl rfl) rfl rfl hl.1 rfl (lv_room (Nat.le_of_ble_eq_true rfl)) dX11_note_9 ⟨Nat.le_of_ble_eq_true rfl, Nat.le_of_ble_eq_true rfl⟩) hP hS (fun r_ H locs hw hP hS => ?_)
  rcases hw with ⟨c1_, rfl⟩ | ⟨c2_, c3_, rfl⟩
  · skip
    exact W.iret (v := (-1)) hx hb hr (fun t ht hW => ⟨⟨(-1), (), rfl, Or.inl (⟨c1_, rfl⟩), trivial⟩, hS.F ht⟩) hS.2.2 dX11_note_12
  · skip
    exact W.iret (v := (-1)) hx hb hr (fun t ht hW => ⟨⟨(-1), (), rfl, Or.inr (⟨c2_, c3_, rfl⟩), trivial⟩, hS.F ht⟩) hS.2.2 dX11_note_12

set_option maxHeartbeats 4000000 in
set_option maxRecDepth 100000 in
theorem c_X11_switched (l : Launch) (dC : Nat → ClassId) (dI : Nat → Nat → Nat) (cy : Nat → ClassId) (a : Nat → Nat) (g : Nat → Nat → Option Nat) (p0 p1 : Int32) : Met l yX11_switched wsX11_switched ({ frames := 1, cells := 0, slots := 0, locals := 23 }) (va_Pc [.ref (a 0), .int p0, .int p1] (pp dC dI cy (fw a cy g))) (va_Qi (fun (r : Int32) (_ : Unit) => ((p0 < 0) ∧ r = (-1)) ∨ ((¬ p0 < 0) ∧ ((0 : Int32) ≤ p0) ∧ r = (-1))) (fun _ _ => True) (fun _ => False)) 0 0 (fun _ => False) := by
  refine Met.ofW (cc := cX11_switched) (maxL := 3) (ret := (some .int)) (by decide) rfl ?_
  intro p e s m args below meth c s₁ B hml hv
  obtain ⟨rfl, hP, hC⟩ := hv
  have hK := hC.1
  have hx := B.exec
  have hb := B.bytes
  have hr := B.returns
  have hts := atoms_spec (ws := wsX11_switched) B.pre
  have hown : s.vm.findClass RX11 = some m.cls := findClass_of_methodNamed B.named
  have hlocks := B.notSynchronized
  have hS : va_S (fun _ => False) s.heap s.heap [] := va_S.rf
  have hl := lv_entry ([.ref (a 0), .int p0, .int p1]) (n := 3) (Nat.le_of_ble_eq_true rfl)
  rw [lg_entry_eq]
  generalize (lg_sl ([.ref (a 0), .int p0, .int p1]) ++ List.replicate (3 - (lg_sl ([.ref (a 0), .int p0, .int p1])).length) Slot.unset).toArray = ls at hl ⊢
  have hl : lv_has ls 3 [(0, .ref (a 0)), (1, .int p0), (2, .int p1)] := hl
  refine lv_aload_n hx hb dX11_switched_0 rfl (lv_at hl 0 rfl) ?_
  refine va_get (D := (dC, dI)) (ci := 11) (v := .ref (a 1)) (C := RX11) (T := TX11) (N := 11) hx hb hts i_X11_switched_X11 hown hK hP 0 rfl rfl 0 (by decide) (hts _ m_X11_switched_1) (fun _ h9 => h9) rfl dX11_switched_1 ?_
  refine va_get (D := (dC, dI)) (ci := 8) (v := .ref (a 18)) (C := RX8) (T := TX8) (N := 17) hx hb hts i_X11_switched_X8 hown hK hP 1 rfl rfl 16 (by decide) (hts _ m_X11_switched_2) (fun _ h9 => h9) rfl dX11_switched_4 ?_
  refine lv_iload_n hx hb dX11_switched_7 rfl (lv_at hl 1 rfl) ?_
  refine lv_iload_n hx hb dX11_switched_8 rfl (lv_at hl 2 rfl) ?_
  refine tk_pi (va_runV (As := [.int p0, .int p1]) (rest := []) ⟨hx, hb, hml, hown, hts⟩ (c_X2_told_s l dC dI cy a g p0 p1) (cwV 2 hts gX11_switched_X2_told rfl rfl rfl (by decide +kernel) ⟨Nat.le_of_ble_eq_true rfl, Nat.le_of_ble_eq_true rfl⟩) (pv_pp hC hP (ci := 2) (q0 := 18) rfl rfl) rfl rfl hl.1 rfl (lv_room (Nat.le_of_ble_eq_true rfl)) dX11_switched_9 ⟨Nat.le_of_ble_eq_true rfl, Nat.le_of_ble_eq_true rfl⟩) hP hS (fun r_ H locs hw hP hS => ?_)
  rcases hw with ⟨c1_, rfl⟩ | ⟨c2_, c3_, rfl⟩
  · skip
    exact W.iret (v := (-1)) hx hb hr (fun t ht hW => ⟨⟨(-1), (), rfl, Or.inl (⟨c1_, rfl⟩), trivial⟩, hS.F ht⟩) hS.2.2 dX11_switched_12
  · skip
    exact W.iret (v := (-1)) hx hb hr (fun t ht hW => ⟨⟨(-1), (), rfl, Or.inr (⟨c2_, c3_, rfl⟩), trivial⟩, hS.F ht⟩) hS.2.2 dX11_switched_12

set_option maxHeartbeats 4000000 in
set_option maxRecDepth 100000 in
theorem c_X11_register (l : Launch) (dC : Nat → ClassId) (dI : Nat → Nat → Nat) (cy : Nat → ClassId) (a : Nat → Nat) (g : Nat → Nat → Option Nat) (p0 p1 : Int32) : Met l yX11_register wsX11_register ({ frames := 0, cells := 0, slots := 0, locals := 0 }) (va_Pc [.ref (a 0), .int p0, .int p1] (pp dC dI cy (fw a cy g))) (va_Qi (fun (r : Int32) (_ : Unit) => ((p0 < 0) ∧ r = (-1)) ∨ ((¬ p0 < 0) ∧ ((4 : Int32) < p0) ∧ r = (-1)) ∨ ((¬ p0 < 0) ∧ (¬ (4 : Int32) < p0) ∧ (p1 < 0) ∧ r = (-1)) ∨ ((¬ p0 < 0) ∧ (¬ (4 : Int32) < p0) ∧ (¬ p1 < 0) ∧ (p1 < 8) ∧ r = 0) ∨ ((¬ p0 < 0) ∧ (¬ (4 : Int32) < p0) ∧ (¬ p1 < 0) ∧ (¬ p1 < 8) ∧ r = (-1))) (fun _ _ => True) (fun _ => False)) 0 0 (fun _ => False) := by
  refine Met.ofW (cc := cX11_register) (maxL := 3) (ret := (some .int)) (by decide) rfl ?_
  intro p e s m args below meth c s₁ B hml hv
  obtain ⟨rfl, hP, hC⟩ := hv
  have hK := hC.1
  have hx := B.exec
  have hb := B.bytes
  have hr := B.returns
  have hts := atoms_spec (ws := wsX11_register) B.pre
  have hown : s.vm.findClass RX11 = some m.cls := findClass_of_methodNamed B.named
  have hlocks := B.notSynchronized
  have hS : va_S (fun _ => False) s.heap s.heap [] := va_S.rf
  have hl := lv_entry ([.ref (a 0), .int p0, .int p1]) (n := 3) (Nat.le_of_ble_eq_true rfl)
  rw [lg_entry_eq]
  generalize (lg_sl ([.ref (a 0), .int p0, .int p1]) ++ List.replicate (3 - (lg_sl ([.ref (a 0), .int p0, .int p1])).length) Slot.unset).toArray = ls at hl ⊢
  have hl : lv_has ls 3 [(0, .ref (a 0)), (1, .int p0), (2, .int p1)] := hl
  refine lv_iload_n hx hb dX11_register_0 rfl (lv_at hl 1 rfl) ?_
  refine lv_if_lt (tgt := 19) hx hb dX11_register_1 (by decide) (fun c1_ => ?_) (fun c1_ => ?_)
  · skip
    refine lv_iconst (v := (-1)) hx hb dX11_register_19 (by decide) ?_
    exact W.iret (v := (-1)) hx hb hr (fun t ht hW => ⟨⟨(-1), (), rfl, Or.inl (⟨c1_, rfl⟩), trivial⟩, hS.F ht⟩) hS.2.2 dX11_register_20
  · skip
    refine lv_iload_n hx hb dX11_register_4 rfl (lv_at hl 1 rfl) ?_
    refine lv_iconst (v := 4) hx hb dX11_register_5 (by decide) ?_
    refine lv_icmp_gt (tgt := 19) hx hb dX11_register_6 (by decide) (fun c2_ => ?_) (fun c2_ => ?_)
    · skip
      refine lv_iconst (v := (-1)) hx hb dX11_register_19 (by decide) ?_
      exact W.iret (v := (-1)) hx hb hr (fun t ht hW => ⟨⟨(-1), (), rfl, Or.inr (Or.inl (⟨c1_, c2_, rfl⟩)), trivial⟩, hS.F ht⟩) hS.2.2 dX11_register_20
    · skip
      refine lv_iload_n hx hb dX11_register_9 rfl (lv_at hl 2 rfl) ?_
      refine lv_if_lt (tgt := 19) hx hb dX11_register_10 (by decide) (fun c3_ => ?_) (fun c3_ => ?_)
      · skip
        refine lv_iconst (v := (-1)) hx hb dX11_register_19 (by decide) ?_
        exact W.iret (v := (-1)) hx hb hr (fun t ht hW => ⟨⟨(-1), (), rfl, Or.inr (Or.inr (Or.inl (⟨c1_, c2_, c3_, rfl⟩))), trivial⟩, hS.F ht⟩) hS.2.2 dX11_register_20
      · skip
        refine lv_iload_n hx hb dX11_register_13 rfl (lv_at hl 2 rfl) ?_
        refine lv_bipush (v := 8) hx hb dX11_register_14 (by decide) ?_
        refine lv_icmp_lt (tgt := 21) hx hb dX11_register_16 (by decide) (fun c4_ => ?_) (fun c4_ => ?_)
        · skip
          refine lv_aload_n hx hb dX11_register_21 rfl (lv_at hl 0 rfl) ?_
          refine va_get (D := (dC, dI)) (ci := 11) (v := .ref (a 1)) (C := RX11) (T := TX11) (N := 11) hx hb hts i_X11_register_X11 hown hK hP 0 rfl rfl 0 (by decide) (hts _ m_X11_register_1) (fun _ h9 => h9) rfl dX11_register_22 ?_
          refine va_get (D := (dC, dI)) (ci := 8) (v := .ref (a 13)) (C := RX8) (T := TX8) (N := 17) hx hb hts i_X11_register_X8 hown hK hP 1 rfl rfl 14 (by decide) (hts _ m_X11_register_2) (fun _ h9 => h9) rfl dX11_register_25 ?_
          refine va_get (D := (dC, dI)) (ci := 6) (v := .ref (a 14)) (C := RX6) (T := TX6) (N := 4) hx hb hts i_X11_register_X6 hown hK hP 13 rfl rfl 0 (by decide) (hts _ m_X11_register_3) (fun _ h9 => h9) rfl dX11_register_28 ?_
          refine lv_iload_n hx hb dX11_register_31 rfl (lv_at hl 1 rfl) ?_
          refine lv_bipush (v := 8) hx hb dX11_register_32 (by decide) ?_
          refine lv_imul hx hb dX11_register_34 ?_
          refine lv_iload_n hx hb dX11_register_35 rfl (lv_at hl 2 rfl) ?_
          refine lv_iadd hx hb dX11_register_36 ?_
          refine va_iald hx hb hK hP 14 0 rfl rfl (rg_in c1_ c2_ c3_ c4_) dX11_register_37 ?_
          refine tk_i 0 (by rfl) ?_
          exact W.iret (v := 0) hx hb hr (fun t ht hW => ⟨⟨0, (), rfl, Or.inr (Or.inr (Or.inr (Or.inl (⟨c1_, c2_, c3_, c4_, rfl⟩)))), trivial⟩, hS.F ht⟩) hS.2.2 dX11_register_38
        · skip
          refine lv_iconst (v := (-1)) hx hb dX11_register_19 (by decide) ?_
          exact W.iret (v := (-1)) hx hb hr (fun t ht hW => ⟨⟨(-1), (), rfl, Or.inr (Or.inr (Or.inr (Or.inr (⟨c1_, c2_, c3_, c4_, rfl⟩)))), trivial⟩, hS.F ht⟩) hS.2.2 dX11_register_20

set_option maxHeartbeats 4000000 in
set_option maxRecDepth 100000 in
theorem c_X11_count (l : Launch) (dC : Nat → ClassId) (dI : Nat → Nat → Nat) (cy : Nat → ClassId) (a : Nat → Nat) (g : Nat → Nat → Option Nat) (p0 : Int32) : Met l yX11_count wsX11_count ({ frames := 1, cells := 0, slots := 0, locals := 22 }) (va_Pc [.ref (a 0), .int p0] (pp dC dI cy (fw a cy g))) (va_Qi (fun (r : Int32) (_ : Unit) => ((p0 = 0) ∧ r = 1) ∨ ((p0 = 1) ∧ r = 1) ∨ ((p0 = 2) ∧ r = 0) ∨ ((p0 = 3) ∧ r = 0) ∨ ((p0 = 4) ∧ r = 0) ∨ ((p0 = 5) ∧ r = 0) ∨ ((p0 = 6) ∧ r = 0) ∨ ((p0 = 7) ∧ r = 0) ∨ ((p0 = 8) ∧ r = 0) ∨ ((p0 = 9) ∧ r = 0) ∨ ((p0 = 10) ∧ r = 0) ∨ ((p0 = 11) ∧ r = 0) ∨ ((p0 = 12) ∧ r = 0) ∨ ((p0 = 13) ∧ r = 0) ∨ ((¬ p0 = 0) ∧ (¬ p0 = 1) ∧ (¬ p0 = 2) ∧ (¬ p0 = 3) ∧ (¬ p0 = 4) ∧ (¬ p0 = 5) ∧ (¬ p0 = 6) ∧ (¬ p0 = 7) ∧ (¬ p0 = 8) ∧ (¬ p0 = 9) ∧ (¬ p0 = 10) ∧ (¬ p0 = 11) ∧ (¬ p0 = 12) ∧ (¬ p0 = 13) ∧ (p0 < 14) ∧ r = (-1)) ∨ ((¬ p0 = 0) ∧ (¬ p0 = 1) ∧ (¬ p0 = 2) ∧ (¬ p0 = 3) ∧ (¬ p0 = 4) ∧ (¬ p0 = 5) ∧ (¬ p0 = 6) ∧ (¬ p0 = 7) ∧ (¬ p0 = 8) ∧ (¬ p0 = 9) ∧ (¬ p0 = 10) ∧ (¬ p0 = 11) ∧ (¬ p0 = 12) ∧ (¬ p0 = 13) ∧ (¬ p0 < 14) ∧ ((21 : Int32) ≤ p0) ∧ r = (-1)) ∨ ((¬ p0 = 0) ∧ (¬ p0 = 1) ∧ (¬ p0 = 2) ∧ (¬ p0 = 3) ∧ (¬ p0 = 4) ∧ (¬ p0 = 5) ∧ (¬ p0 = 6) ∧ (¬ p0 = 7) ∧ (¬ p0 = 8) ∧ (¬ p0 = 9) ∧ (¬ p0 = 10) ∧ (¬ p0 = 11) ∧ (¬ p0 = 12) ∧ (¬ p0 = 13) ∧ (¬ p0 < 14) ∧ (¬ (21 : Int32) ≤ p0) ∧ r = 0)) (fun _ _ => True) (fun _ => False)) 0 0 (fun _ => False) := by
  refine Met.ofW (cc := cX11_count) (maxL := 2) (ret := (some .int)) (by decide) rfl ?_
  intro p e s m args below meth c s₁ B hml hv
  obtain ⟨rfl, hP, hC⟩ := hv
  have hK := hC.1
  have hx := B.exec
  have hb := B.bytes
  have hr := B.returns
  have hts := atoms_spec (ws := wsX11_count) B.pre
  have hown : s.vm.findClass RX11 = some m.cls := findClass_of_methodNamed B.named
  have hlocks := B.notSynchronized
  have hS : va_S (fun _ => False) s.heap s.heap [] := va_S.rf
  have hl := lv_entry ([.ref (a 0), .int p0]) (n := 2) (Nat.le_of_ble_eq_true rfl)
  rw [lg_entry_eq]
  generalize (lg_sl ([.ref (a 0), .int p0]) ++ List.replicate (2 - (lg_sl ([.ref (a 0), .int p0])).length) Slot.unset).toArray = ls at hl ⊢
  have hl : lv_has ls 2 [(0, .ref (a 0)), (1, .int p0)] := hl
  refine lv_iload_n hx hb dX11_count_0 rfl (lv_at hl 1 rfl) ?_
  by_cases c1_ : p0 = 0
  · skip
    subst c1_
    refine lv_tableIn (off := 71) (tgt := 72) hx hb dX11_count_1 (by decide) (by decide) (by decide) (by decide) ?_
    refine lv_aload_n hx hb dX11_count_72 rfl (lv_at hl 0 rfl) ?_
    refine va_get (D := (dC, dI)) (ci := 11) (v := .ref (a 1)) (C := RX11) (T := TX11) (N := 11) hx hb hts i_X11_count_X11 hown hK hP 0 rfl rfl 0 (by decide) (hts _ m_X11_count_1) (fun _ h9 => h9) rfl dX11_count_73 ?_
    refine va_get (D := (dC, dI)) (ci := 8) (v := .int 1) (C := RX8) (T := TX8) (N := 17) hx hb hts i_X11_count_X8 hown hK hP 1 rfl rfl 0 (by decide) (hts _ m_X11_count_2) (fun _ h9 => h9) rfl dX11_count_76 ?_
    exact W.iret (v := 1) hx hb hr (fun t ht hW => ⟨⟨1, (), rfl, Or.inl (⟨rfl, rfl⟩), trivial⟩, hS.F ht⟩) hS.2.2 dX11_count_79
  by_cases c2_ : p0 = 1
  · skip
    subst c2_
    refine lv_tableIn (off := 79) (tgt := 80) hx hb dX11_count_1 (by decide) (by decide) (by decide) (by decide) ?_
    refine lv_aload_n hx hb dX11_count_80 rfl (lv_at hl 0 rfl) ?_
    refine va_get (D := (dC, dI)) (ci := 11) (v := .ref (a 21)) (C := RX11) (T := TX11) (N := 11) hx hb hts i_X11_count_X11 hown hK hP 0 rfl rfl 2 (by decide) (hts _ m_X11_count_3) (fun _ h9 => h9) rfl dX11_count_81 ?_
    refine tk_pi (va_runV (As := []) (rest := []) ⟨hx, hb, hml, hown, hts⟩ (c_X10_devices l dC dI cy a g) (cwV 0 hts gX11_count_X10_devices rfl rfl rfl (by decide +kernel) ⟨Nat.le_of_ble_eq_true rfl, Nat.le_of_ble_eq_true rfl⟩) (pv_pp hC hP (ci := 10) (q0 := 21) rfl rfl) rfl rfl hl.1 rfl (lv_room (Nat.le_of_ble_eq_true rfl)) dX11_count_84 ⟨Nat.le_of_ble_eq_true rfl, Nat.le_of_ble_eq_true rfl⟩) hP hS (fun r_ H locs hw hP hS => ?_)
    subst hw
    exact W.iret (v := 1) hx hb hr (fun t ht hW => ⟨⟨1, (), rfl, Or.inr (Or.inl (⟨rfl, rfl⟩)), trivial⟩, hS.F ht⟩) hS.2.2 dX11_count_87
  by_cases c3_ : p0 = 2
  · skip
    subst c3_
    refine lv_tableIn (off := 87) (tgt := 88) hx hb dX11_count_1 (by decide) (by decide) (by decide) (by decide) ?_
    refine lv_aload_n hx hb dX11_count_88 rfl (lv_at hl 0 rfl) ?_
    refine va_get (D := (dC, dI)) (ci := 11) (v := .ref (a 1)) (C := RX11) (T := TX11) (N := 11) hx hb hts i_X11_count_X11 hown hK hP 0 rfl rfl 0 (by decide) (hts _ m_X11_count_1) (fun _ h9 => h9) rfl dX11_count_89 ?_
    refine va_get (D := (dC, dI)) (ci := 8) (v := .int 0) (C := RX8) (T := TX8) (N := 17) hx hb hts i_X11_count_X8 hown hK hP 1 rfl rfl 1 (by decide) (hts _ m_X11_count_4) (fun _ h9 => h9) rfl dX11_count_92 ?_
    exact W.iret (v := 0) hx hb hr (fun t ht hW => ⟨⟨0, (), rfl, Or.inr (Or.inr (Or.inl (⟨rfl, rfl⟩))), trivial⟩, hS.F ht⟩) hS.2.2 dX11_count_95
  by_cases c4_ : p0 = 3
  · skip
    subst c4_
    refine lv_tableIn (off := 95) (tgt := 96) hx hb dX11_count_1 (by decide) (by decide) (by decide) (by decide) ?_
    refine lv_aload_n hx hb dX11_count_96 rfl (lv_at hl 0 rfl) ?_
    refine va_get (D := (dC, dI)) (ci := 11) (v := .ref (a 30)) (C := RX11) (T := TX11) (N := 11) hx hb hts i_X11_count_X11 hown hK hP 0 rfl rfl 5 (by decide) (hts _ m_X11_count_5) (fun _ h9 => h9) rfl dX11_count_97 ?_
    refine tk_pi (va_runV (As := []) (rest := []) ⟨hx, hb, hml, hown, hts⟩ (c_X5_resourcesOn l dC dI cy a g) (cwV 0 hts gX11_count_X5_resourcesOn rfl rfl rfl (by decide +kernel) ⟨Nat.le_of_ble_eq_true rfl, Nat.le_of_ble_eq_true rfl⟩) (pv_pp hC hP (ci := 5) (q0 := 30) rfl rfl) rfl rfl hl.1 rfl (lv_room (Nat.le_of_ble_eq_true rfl)) dX11_count_100 ⟨Nat.le_of_ble_eq_true rfl, Nat.le_of_ble_eq_true rfl⟩) hP hS (fun r_ H locs hw hP hS => ?_)
    subst hw
    exact W.iret (v := 0) hx hb hr (fun t ht hW => ⟨⟨0, (), rfl, Or.inr (Or.inr (Or.inr (Or.inl (⟨rfl, rfl⟩)))), trivial⟩, hS.F ht⟩) hS.2.2 dX11_count_103
  by_cases c5_ : p0 = 4
  · skip
    subst c5_
    refine lv_tableIn (off := 103) (tgt := 104) hx hb dX11_count_1 (by decide) (by decide) (by decide) (by decide) ?_
    refine lv_aload_n hx hb dX11_count_104 rfl (lv_at hl 0 rfl) ?_
    refine va_get (D := (dC, dI)) (ci := 11) (v := .ref (a 30)) (C := RX11) (T := TX11) (N := 11) hx hb hts i_X11_count_X11 hown hK hP 0 rfl rfl 5 (by decide) (hts _ m_X11_count_5) (fun _ h9 => h9) rfl dX11_count_105 ?_
    refine tk_pi (va_runV (As := []) (rest := []) ⟨hx, hb, hml, hown, hts⟩ (c_X5_armedDevices l dC dI cy a g) (cwV 0 hts gX11_count_X5_armedDevices rfl rfl rfl (by decide +kernel) ⟨Nat.le_of_ble_eq_true rfl, Nat.le_of_ble_eq_true rfl⟩) (pv_pp hC hP (ci := 5) (q0 := 30) rfl rfl) rfl rfl hl.1 rfl (lv_room (Nat.le_of_ble_eq_true rfl)) dX11_count_108 ⟨Nat.le_of_ble_eq_true rfl, Nat.le_of_ble_eq_true rfl⟩) hP hS (fun r_ H locs hw hP hS => ?_)
    subst hw
    exact W.iret (v := 0) hx hb hr (fun t ht hW => ⟨⟨0, (), rfl, Or.inr (Or.inr (Or.inr (Or.inr (Or.inl (⟨rfl, rfl⟩))))), trivial⟩, hS.F ht⟩) hS.2.2 dX11_count_111
  by_cases c6_ : p0 = 5
  · skip
    subst c6_
    refine lv_tableIn (off := 111) (tgt := 112) hx hb dX11_count_1 (by decide) (by decide) (by decide) (by decide) ?_
    refine lv_aload_n hx hb dX11_count_112 rfl (lv_at hl 0 rfl) ?_
    refine va_get (D := (dC, dI)) (ci := 11) (v := .ref (a 1)) (C := RX11) (T := TX11) (N := 11) hx hb hts i_X11_count_X11 hown hK hP 0 rfl rfl 0 (by decide) (hts _ m_X11_count_1) (fun _ h9 => h9) rfl dX11_count_113 ?_
    refine va_get (D := (dC, dI)) (ci := 8) (v := .int 0) (C := RX8) (T := TX8) (N := 17) hx hb hts i_X11_count_X8 hown hK hP 1 rfl rfl 2 (by decide) (hts _ m_X11_count_6) (fun _ h9 => h9) rfl dX11_count_116 ?_
    exact W.iret (v := 0) hx hb hr (fun t ht hW => ⟨⟨0, (), rfl, Or.inr (Or.inr (Or.inr (Or.inr (Or.inr (Or.inl (⟨rfl, rfl⟩)))))), trivial⟩, hS.F ht⟩) hS.2.2 dX11_count_119
  by_cases c7_ : p0 = 6
  · skip
    subst c7_
    refine lv_tableIn (off := 119) (tgt := 120) hx hb dX11_count_1 (by decide) (by decide) (by decide) (by decide) ?_
    refine lv_aload_n hx hb dX11_count_120 rfl (lv_at hl 0 rfl) ?_
    refine va_get (D := (dC, dI)) (ci := 11) (v := .ref (a 1)) (C := RX11) (T := TX11) (N := 11) hx hb hts i_X11_count_X11 hown hK hP 0 rfl rfl 0 (by decide) (hts _ m_X11_count_1) (fun _ h9 => h9) rfl dX11_count_121 ?_
    refine va_get (D := (dC, dI)) (ci := 8) (v := .ref (a 13)) (C := RX8) (T := TX8) (N := 17) hx hb hts i_X11_count_X8 hown hK hP 1 rfl rfl 14 (by decide) (hts _ m_X11_count_7) (fun _ h9 => h9) rfl dX11_count_124 ?_
    refine va_get (D := (dC, dI)) (ci := 6) (v := .int 0) (C := RX6) (T := TX6) (N := 4) hx hb hts i_X11_count_X6 hown hK hP 13 rfl rfl 2 (by decide) (hts _ m_X11_count_8) (fun _ h9 => h9) rfl dX11_count_127 ?_
    exact W.iret (v := 0) hx hb hr (fun t ht hW => ⟨⟨0, (), rfl, Or.inr (Or.inr (Or.inr (Or.inr (Or.inr (Or.inr (Or.inl (⟨rfl, rfl⟩))))))), trivial⟩, hS.F ht⟩) hS.2.2 dX11_count_130
  by_cases c8_ : p0 = 7
  · skip
    subst c8_
    refine lv_tableIn (off := 130) (tgt := 131) hx hb dX11_count_1 (by decide) (by decide) (by decide) (by decide) ?_
    refine lv_aload_n hx hb dX11_count_131 rfl (lv_at hl 0 rfl) ?_
    refine va_get (D := (dC, dI)) (ci := 11) (v := .ref (a 1)) (C := RX11) (T := TX11) (N := 11) hx hb hts i_X11_count_X11 hown hK hP 0 rfl rfl 0 (by decide) (hts _ m_X11_count_1) (fun _ h9 => h9) rfl dX11_count_132 ?_
    refine va_get (D := (dC, dI)) (ci := 8) (v := .ref (a 13)) (C := RX8) (T := TX8) (N := 17) hx hb hts i_X11_count_X8 hown hK hP 1 rfl rfl 14 (by decide) (hts _ m_X11_count_7) (fun _ h9 => h9) rfl dX11_count_135 ?_
    refine va_get (D := (dC, dI)) (ci := 6) (v := .int 0) (C := RX6) (T := TX6) (N := 4) hx hb hts i_X11_count_X6 hown hK hP 13 rfl rfl 3 (by decide) (hts _ m_X11_count_9) (fun _ h9 => h9) rfl dX11_count_138 ?_
    exact W.iret (v := 0) hx hb hr (fun t ht hW => ⟨⟨0, (), rfl, Or.inr (Or.inr (Or.inr (Or.inr (Or.inr (Or.inr (Or.inr (Or.inl (⟨rfl, rfl⟩)))))))), trivial⟩, hS.F ht⟩) hS.2.2 dX11_count_141
  by_cases c9_ : p0 = 8
  · skip
    subst c9_
    refine lv_tableIn (off := 141) (tgt := 142) hx hb dX11_count_1 (by decide) (by decide) (by decide) (by decide) ?_
    refine lv_aload_n hx hb dX11_count_142 rfl (lv_at hl 0 rfl) ?_
    refine va_get (D := (dC, dI)) (ci := 11) (v := .ref (a 1)) (C := RX11) (T := TX11) (N := 11) hx hb hts i_X11_count_X11 hown hK hP 0 rfl rfl 0 (by decide) (hts _ m_X11_count_1) (fun _ h9 => h9) rfl dX11_count_143 ?_
    refine va_get (D := (dC, dI)) (ci := 8) (v := .ref (a 13)) (C := RX8) (T := TX8) (N := 17) hx hb hts i_X11_count_X8 hown hK hP 1 rfl rfl 14 (by decide) (hts _ m_X11_count_7) (fun _ h9 => h9) rfl dX11_count_146 ?_
    refine va_get (D := (dC, dI)) (ci := 6) (v := .int 0) (C := RX6) (T := TX6) (N := 4) hx hb hts i_X11_count_X6 hown hK hP 13 rfl rfl 1 (by decide) (hts _ m_X11_count_10) (fun _ h9 => h9) rfl dX11_count_149 ?_
    exact W.iret (v := 0) hx hb hr (fun t ht hW => ⟨⟨0, (), rfl, Or.inr (Or.inr (Or.inr (Or.inr (Or.inr (Or.inr (Or.inr (Or.inr (Or.inl (⟨rfl, rfl⟩))))))))), trivial⟩, hS.F ht⟩) hS.2.2 dX11_count_152
  by_cases c10_ : p0 = 9
  · skip
    subst c10_
    refine lv_tableIn (off := 152) (tgt := 153) hx hb dX11_count_1 (by decide) (by decide) (by decide) (by decide) ?_
    refine lv_aload_n hx hb dX11_count_153 rfl (lv_at hl 0 rfl) ?_
    refine va_get (D := (dC, dI)) (ci := 11) (v := .ref (a 1)) (C := RX11) (T := TX11) (N := 11) hx hb hts i_X11_count_X11 hown hK hP 0 rfl rfl 0 (by decide) (hts _ m_X11_count_1) (fun _ h9 => h9) rfl dX11_count_154 ?_
    refine va_get (D := (dC, dI)) (ci := 8) (v := .ref (a 15)) (C := RX8) (T := TX8) (N := 17) hx hb hts i_X11_count_X8 hown hK hP 1 rfl rfl 15 (by decide) (hts _ m_X11_count_11) (fun _ h9 => h9) rfl dX11_count_157 ?_
    refine va_get (D := (dC, dI)) (ci := 2) (v := .int 0) (C := RX2) (T := TX2) (N := 4) hx hb hts i_X11_count_X2 hown hK hP 15 rfl rfl 2 (by decide) (hts _ m_X11_count_12) (fun _ h9 => h9) rfl dX11_count_160 ?_
    exact W.iret (v := 0) hx hb hr (fun t ht hW => ⟨⟨0, (), rfl, Or.inr (Or.inr (Or.inr (Or.inr (Or.inr (Or.inr (Or.inr (Or.inr (Or.inr (Or.inl (⟨rfl, rfl⟩)))))))))), trivial⟩, hS.F ht⟩) hS.2.2 dX11_count_163
  by_cases c11_ : p0 = 10
  · skip
    subst c11_
    refine lv_tableIn (off := 163) (tgt := 164) hx hb dX11_count_1 (by decide) (by decide) (by decide) (by decide) ?_
    refine lv_aload_n hx hb dX11_count_164 rfl (lv_at hl 0 rfl) ?_
    refine va_get (D := (dC, dI)) (ci := 11) (v := .ref (a 1)) (C := RX11) (T := TX11) (N := 11) hx hb hts i_X11_count_X11 hown hK hP 0 rfl rfl 0 (by decide) (hts _ m_X11_count_1) (fun _ h9 => h9) rfl dX11_count_165 ?_
    refine va_get (D := (dC, dI)) (ci := 8) (v := .ref (a 18)) (C := RX8) (T := TX8) (N := 17) hx hb hts i_X11_count_X8 hown hK hP 1 rfl rfl 16 (by decide) (hts _ m_X11_count_13) (fun _ h9 => h9) rfl dX11_count_168 ?_
    refine va_get (D := (dC, dI)) (ci := 2) (v := .int 0) (C := RX2) (T := TX2) (N := 4) hx hb hts i_X11_count_X2 hown hK hP 18 rfl rfl 2 (by decide) (hts _ m_X11_count_12) (fun _ h9 => h9) rfl dX11_count_171 ?_
    exact W.iret (v := 0) hx hb hr (fun t ht hW => ⟨⟨0, (), rfl, Or.inr (Or.inr (Or.inr (Or.inr (Or.inr (Or.inr (Or.inr (Or.inr (Or.inr (Or.inr (Or.inl (⟨rfl, rfl⟩))))))))))), trivial⟩, hS.F ht⟩) hS.2.2 dX11_count_174
  by_cases c12_ : p0 = 11
  · skip
    subst c12_
    refine lv_tableIn (off := 174) (tgt := 175) hx hb dX11_count_1 (by decide) (by decide) (by decide) (by decide) ?_
    refine lv_aload_n hx hb dX11_count_175 rfl (lv_at hl 0 rfl) ?_
    refine va_get (D := (dC, dI)) (ci := 11) (v := .ref (a 28)) (C := RX11) (T := TX11) (N := 11) hx hb hts i_X11_count_X11 hown hK hP 0 rfl rfl 4 (by decide) (hts _ m_X11_count_14) (fun _ h9 => h9) rfl dX11_count_176 ?_
    refine tk_pi (va_runV (As := []) (rest := []) ⟨hx, hb, hml, hown, hts⟩ (c_X3_steps l dC dI cy a g) (cwV 0 hts gX11_count_X3_steps rfl rfl rfl (by decide +kernel) ⟨Nat.le_of_ble_eq_true rfl, Nat.le_of_ble_eq_true rfl⟩) (pv_pp hC hP (ci := 3) (q0 := 28) rfl rfl) rfl rfl hl.1 rfl (lv_room (Nat.le_of_ble_eq_true rfl)) dX11_count_179 ⟨Nat.le_of_ble_eq_true rfl, Nat.le_of_ble_eq_true rfl⟩) hP hS (fun r_ H locs hw hP hS => ?_)
    subst hw
    exact W.iret (v := 0) hx hb hr (fun t ht hW => ⟨⟨0, (), rfl, Or.inr (Or.inr (Or.inr (Or.inr (Or.inr (Or.inr (Or.inr (Or.inr (Or.inr (Or.inr (Or.inr (Or.inl (⟨rfl, rfl⟩)))))))))))), trivial⟩, hS.F ht⟩) hS.2.2 dX11_count_182
  by_cases c13_ : p0 = 12
  · skip
    subst c13_
    refine lv_tableIn (off := 182) (tgt := 183) hx hb dX11_count_1 (by decide) (by decide) (by decide) (by decide) ?_
    refine lv_aload_n hx hb dX11_count_183 rfl (lv_at hl 0 rfl) ?_
    refine va_get (D := (dC, dI)) (ci := 11) (v := .ref (a 32)) (C := RX11) (T := TX11) (N := 11) hx hb hts i_X11_count_X11 hown hK hP 0 rfl rfl 7 (by decide) (hts _ m_X11_count_15) (fun _ h9 => h9) rfl dX11_count_184 ?_
    refine tk_pi (va_runV (As := []) (rest := []) ⟨hx, hb, hml, hown, hts⟩ (c_X1_kept l dC dI cy a g) (cwV 0 hts gX11_count_X1_kept rfl rfl rfl (by decide +kernel) ⟨Nat.le_of_ble_eq_true rfl, Nat.le_of_ble_eq_true rfl⟩) (pv_pp hC hP (ci := 1) (q0 := 32) rfl rfl) rfl rfl hl.1 rfl (lv_room (Nat.le_of_ble_eq_true rfl)) dX11_count_187 ⟨Nat.le_of_ble_eq_true rfl, Nat.le_of_ble_eq_true rfl⟩) hP hS (fun r_ H locs hw hP hS => ?_)
    subst hw
    exact W.iret (v := 0) hx hb hr (fun t ht hW => ⟨⟨0, (), rfl, Or.inr (Or.inr (Or.inr (Or.inr (Or.inr (Or.inr (Or.inr (Or.inr (Or.inr (Or.inr (Or.inr (Or.inr (Or.inl (⟨rfl, rfl⟩))))))))))))), trivial⟩, hS.F ht⟩) hS.2.2 dX11_count_190
  by_cases c14_ : p0 = 13
  · skip
    subst c14_
    refine lv_tableIn (off := 190) (tgt := 191) hx hb dX11_count_1 (by decide) (by decide) (by decide) (by decide) ?_
    refine lv_aload_n hx hb dX11_count_191 rfl (lv_at hl 0 rfl) ?_
    refine va_get (D := (dC, dI)) (ci := 11) (v := .ref (a 24)) (C := RX11) (T := TX11) (N := 11) hx hb hts i_X11_count_X11 hown hK hP 0 rfl rfl 3 (by decide) (hts _ m_X11_count_16) (fun _ h9 => h9) rfl dX11_count_192 ?_
    refine tk_pi (va_runV (As := []) (rest := []) ⟨hx, hb, hml, hown, hts⟩ (c_X9_length l dC dI cy a g) (cwV 0 hts gX11_count_X9_length rfl rfl rfl (by decide +kernel) ⟨Nat.le_of_ble_eq_true rfl, Nat.le_of_ble_eq_true rfl⟩) (pv_pp hC hP (ci := 9) (q0 := 24) rfl rfl) rfl rfl hl.1 rfl (lv_room (Nat.le_of_ble_eq_true rfl)) dX11_count_195 ⟨Nat.le_of_ble_eq_true rfl, Nat.le_of_ble_eq_true rfl⟩) hP hS (fun r_ H locs hw hP hS => ?_)
    subst hw
    exact W.iret (v := 0) hx hb hr (fun t ht hW => ⟨⟨0, (), rfl, Or.inr (Or.inr (Or.inr (Or.inr (Or.inr (Or.inr (Or.inr (Or.inr (Or.inr (Or.inr (Or.inr (Or.inr (Or.inr (Or.inl (⟨rfl, rfl⟩)))))))))))))), trivial⟩, hS.F ht⟩) hS.2.2 dX11_count_198
  have e15_ : p0.toInt < 0 ∨ 13 < p0.toInt := by
    have z0_ := tz_neq_r c1_ (show (0 : Int32).toInt = 0 by decide)
    have z1_ := tz_neq_r c2_ (show (1 : Int32).toInt = 1 by decide)
    have z2_ := tz_neq_r c3_ (show (2 : Int32).toInt = 2 by decide)
    have z3_ := tz_neq_r c4_ (show (3 : Int32).toInt = 3 by decide)
    have z4_ := tz_neq_r c5_ (show (4 : Int32).toInt = 4 by decide)
    have z5_ := tz_neq_r c6_ (show (5 : Int32).toInt = 5 by decide)
    have z6_ := tz_neq_r c7_ (show (6 : Int32).toInt = 6 by decide)
    have z7_ := tz_neq_r c8_ (show (7 : Int32).toInt = 7 by decide)
    have z8_ := tz_neq_r c9_ (show (8 : Int32).toInt = 8 by decide)
    have z9_ := tz_neq_r c10_ (show (9 : Int32).toInt = 9 by decide)
    have z10_ := tz_neq_r c11_ (show (10 : Int32).toInt = 10 by decide)
    have z11_ := tz_neq_r c12_ (show (11 : Int32).toInt = 11 by decide)
    have z12_ := tz_neq_r c13_ (show (12 : Int32).toInt = 12 by decide)
    have z13_ := tz_neq_r c14_ (show (13 : Int32).toInt = 13 by decide)
    omega
  refine lv_tableOut (tgt := 199) hx hb dX11_count_1 e15_ (by decide) ?_
  refine lv_iload_n hx hb dX11_count_199 rfl (lv_at hl 1 rfl) ?_
  refine lv_bipush (v := 14) hx hb dX11_count_200 (by decide) ?_
  refine lv_icmp_lt (tgt := 223) hx hb dX11_count_202 (by decide) (fun c16_ => ?_) (fun c16_ => ?_)
  · skip
    refine lv_iconst (v := (-1)) hx hb dX11_count_223 (by decide) ?_
    exact W.iret (v := (-1)) hx hb hr (fun t ht hW => ⟨⟨(-1), (), rfl, Or.inr (Or.inr (Or.inr (Or.inr (Or.inr (Or.inr (Or.inr (Or.inr (Or.inr (Or.inr (Or.inr (Or.inr (Or.inr (Or.inr (Or.inl (⟨c1_, c2_, c3_, c4_, c5_, c6_, c7_, c8_, c9_, c10_, c11_, c12_, c13_, c14_, c16_, rfl⟩))))))))))))))), trivial⟩, hS.F ht⟩) hS.2.2 dX11_count_224
  · skip
    refine lv_iload_n hx hb dX11_count_205 rfl (lv_at hl 1 rfl) ?_
    refine lv_bipush (v := 21) hx hb dX11_count_206 (by decide) ?_
    refine lv_icmp_ge (tgt := 223) hx hb dX11_count_208 (by decide) (fun c17_ => ?_) (fun c17_ => ?_)
    · skip
      refine lv_iconst (v := (-1)) hx hb dX11_count_223 (by decide) ?_
      exact W.iret (v := (-1)) hx hb hr (fun t ht hW => ⟨⟨(-1), (), rfl, Or.inr (Or.inr (Or.inr (Or.inr (Or.inr (Or.inr (Or.inr (Or.inr (Or.inr (Or.inr (Or.inr (Or.inr (Or.inr (Or.inr (Or.inr (Or.inl (⟨c1_, c2_, c3_, c4_, c5_, c6_, c7_, c8_, c9_, c10_, c11_, c12_, c13_, c14_, c16_, c17_, rfl⟩)))))))))))))))), trivial⟩, hS.F ht⟩) hS.2.2 dX11_count_224
    · skip
      refine lv_aload_n hx hb dX11_count_211 rfl (lv_at hl 0 rfl) ?_
      refine va_get (D := (dC, dI)) (ci := 11) (v := .ref (a 55)) (C := RX11) (T := TX11) (N := 11) hx hb hts i_X11_count_X11 hown hK hP 0 rfl rfl 8 (by decide) (hts _ m_X11_count_17) (fun _ h9 => h9) rfl dX11_count_212 ?_
      refine lv_iload_n hx hb dX11_count_215 rfl (lv_at hl 1 rfl) ?_
      refine lv_bipush (v := 14) hx hb dX11_count_216 (by decide) ?_
      refine lv_isub hx hb dX11_count_218 ?_
      refine va_iald hx hb hK hP 55 0 rfl rfl (sub_in (show (14 : Int32).toInt = 14 by decide) (by decide) (by have z0_ := tz_neq_r c1_ (show (0 : Int32).toInt = 0 by decide); have z1_ := tz_neq_r c2_ (show (1 : Int32).toInt = 1 by decide); have z2_ := tz_neq_r c3_ (show (2 : Int32).toInt = 2 by decide); have z3_ := tz_neq_r c4_ (show (3 : Int32).toInt = 3 by decide); have z4_ := tz_neq_r c5_ (show (4 : Int32).toInt = 4 by decide); have z5_ := tz_neq_r c6_ (show (5 : Int32).toInt = 5 by decide); have z6_ := tz_neq_r c7_ (show (6 : Int32).toInt = 6 by decide); have z7_ := tz_neq_r c8_ (show (7 : Int32).toInt = 7 by decide); have z8_ := tz_neq_r c9_ (show (8 : Int32).toInt = 8 by decide); have z9_ := tz_neq_r c10_ (show (9 : Int32).toInt = 9 by decide); have z10_ := tz_neq_r c11_ (show (10 : Int32).toInt = 10 by decide); have z11_ := tz_neq_r c12_ (show (11 : Int32).toInt = 11 by decide); have z12_ := tz_neq_r c13_ (show (12 : Int32).toInt = 12 by decide); have z13_ := tz_neq_r c14_ (show (13 : Int32).toInt = 13 by decide); have z14_ := tz_nlt_r c16_ (show (14 : Int32).toInt = 14 by decide); have z15_ := tz_nle_l c17_ (show (21 : Int32).toInt = 21 by decide); omega) (by have z0_ := tz_neq_r c1_ (show (0 : Int32).toInt = 0 by decide); have z1_ := tz_neq_r c2_ (show (1 : Int32).toInt = 1 by decide); have z2_ := tz_neq_r c3_ (show (2 : Int32).toInt = 2 by decide); have z3_ := tz_neq_r c4_ (show (3 : Int32).toInt = 3 by decide); have z4_ := tz_neq_r c5_ (show (4 : Int32).toInt = 4 by decide); have z5_ := tz_neq_r c6_ (show (5 : Int32).toInt = 5 by decide); have z6_ := tz_neq_r c7_ (show (6 : Int32).toInt = 6 by decide); have z7_ := tz_neq_r c8_ (show (7 : Int32).toInt = 7 by decide); have z8_ := tz_neq_r c9_ (show (8 : Int32).toInt = 8 by decide); have z9_ := tz_neq_r c10_ (show (9 : Int32).toInt = 9 by decide); have z10_ := tz_neq_r c11_ (show (10 : Int32).toInt = 10 by decide); have z11_ := tz_neq_r c12_ (show (11 : Int32).toInt = 11 by decide); have z12_ := tz_neq_r c13_ (show (12 : Int32).toInt = 12 by decide); have z13_ := tz_neq_r c14_ (show (13 : Int32).toInt = 13 by decide); have z14_ := tz_nlt_r c16_ (show (14 : Int32).toInt = 14 by decide); have z15_ := tz_nle_l c17_ (show (21 : Int32).toInt = 21 by decide); omega)) dX11_count_219 ?_
      refine tk_i 0 (by rfl) ?_
      refine lv_goto (tgt := 224) hx hb dX11_count_220 (by decide) ?_
      exact W.iret (v := 0) hx hb hr (fun t ht hW => ⟨⟨0, (), rfl, Or.inr (Or.inr (Or.inr (Or.inr (Or.inr (Or.inr (Or.inr (Or.inr (Or.inr (Or.inr (Or.inr (Or.inr (Or.inr (Or.inr (Or.inr (Or.inr (⟨c1_, c2_, c3_, c4_, c5_, c6_, c7_, c8_, c9_, c10_, c11_, c12_, c13_, c14_, c16_, c17_, rfl⟩)))))))))))))))), trivial⟩, hS.F ht⟩) hS.2.2 dX11_count_224

