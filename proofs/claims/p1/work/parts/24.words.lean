/-! the words of event, by pieces: all in the tables -/
set_option maxHeartbeats 4000000 in
set_option maxRecDepth 100000 in
theorem zrr1_in9 : ∀ w ∈ zrr1, w ∈ lw_tbl := List.forall_mem_cons.mpr ⟨by decide +kernel, List.forall_mem_append.mpr ⟨by decide +kernel, fun _ h => absurd h List.not_mem_nil⟩⟩
set_option maxHeartbeats 4000000 in
set_option maxRecDepth 100000 in
theorem zX9_init_ws_in9 : ∀ w ∈ zX9_init_ws, w ∈ lw_tbl := List.forall_mem_cons.mpr ⟨by decide +kernel, List.forall_mem_append.mpr ⟨by decide +kernel, List.forall_mem_append.mpr ⟨(by decide +kernel), fun _ h => absurd h List.not_mem_nil⟩⟩⟩
set_option maxHeartbeats 4000000 in
set_option maxRecDepth 100000 in
theorem zX3_init_ws_in9 : ∀ w ∈ zX3_init_ws, w ∈ lw_tbl := List.forall_mem_cons.mpr ⟨by decide +kernel, List.forall_mem_append.mpr ⟨by decide +kernel, List.forall_mem_append.mpr ⟨(by decide +kernel), fun _ h => absurd h List.not_mem_nil⟩⟩⟩
set_option maxHeartbeats 4000000 in
set_option maxRecDepth 100000 in
theorem zX10_init_ws_in9 : ∀ w ∈ zX10_init_ws, w ∈ lw_tbl := List.forall_mem_cons.mpr ⟨by decide +kernel, List.forall_mem_append.mpr ⟨by decide +kernel, List.forall_mem_append.mpr ⟨(by decide +kernel), fun _ h => absurd h List.not_mem_nil⟩⟩⟩
set_option maxHeartbeats 4000000 in
set_option maxRecDepth 100000 in
theorem zX1_init_ws_in9 : ∀ w ∈ zX1_init_ws, w ∈ lw_tbl := List.forall_mem_cons.mpr ⟨by decide +kernel, List.forall_mem_append.mpr ⟨by decide +kernel, List.forall_mem_append.mpr ⟨(by decide +kernel), List.forall_mem_append.mpr ⟨(by decide +kernel), List.forall_mem_append.mpr ⟨zX9_init_ws_in9, List.forall_mem_append.mpr ⟨(by decide +kernel), List.forall_mem_append.mpr ⟨zX3_init_ws_in9, List.forall_mem_append.mpr ⟨(by decide +kernel), List.forall_mem_append.mpr ⟨zX10_init_ws_in9, fun _ h => absurd h List.not_mem_nil⟩⟩⟩⟩⟩⟩⟩⟩⟩
set_option maxHeartbeats 4000000 in
set_option maxRecDepth 100000 in
theorem zX11_event_ws_in9 : ∀ w ∈ zX11_event_ws, w ∈ lw_tbl := List.forall_mem_cons.mpr ⟨by decide +kernel, List.forall_mem_append.mpr ⟨by decide +kernel, List.forall_mem_append.mpr ⟨zrr1_in9, List.forall_mem_append.mpr ⟨(by decide +kernel), List.forall_mem_append.mpr ⟨(by decide +kernel), List.forall_mem_append.mpr ⟨zX1_init_ws_in9, fun _ h => absurd h List.not_mem_nil⟩⟩⟩⟩⟩⟩
set_option maxHeartbeats 4000000 in
set_option maxRecDepth 100000 in
theorem zl_event_ok9_in9 : ∀ w ∈ zl_event_ok9, w ∈ lw_tbl := List.forall_mem_cons.mpr ⟨by decide +kernel, List.forall_mem_append.mpr ⟨by decide +kernel, List.forall_mem_append.mpr ⟨zX11_event_ws_in9, fun _ h => absurd h List.not_mem_nil⟩⟩⟩
set_option maxHeartbeats 4000000 in
set_option maxRecDepth 100000 in
theorem zJ0_isLatin1_aae02_ws_in9 : ∀ w ∈ zJ0_isLatin1_aae02_ws, w ∈ lw_tbl := List.forall_mem_cons.mpr ⟨by decide +kernel, List.forall_mem_append.mpr ⟨by decide +kernel, fun _ h => absurd h List.not_mem_nil⟩⟩
set_option maxHeartbeats 4000000 in
set_option maxRecDepth 100000 in
theorem zJ0_coder_7d493_ws_in9 : ∀ w ∈ zJ0_coder_7d493_ws, w ∈ lw_tbl := List.forall_mem_cons.mpr ⟨by decide +kernel, List.forall_mem_append.mpr ⟨by decide +kernel, fun _ h => absurd h List.not_mem_nil⟩⟩
set_option maxHeartbeats 4000000 in
set_option maxRecDepth 100000 in
theorem zJ0_length_8abf5_ws_in9 : ∀ w ∈ zJ0_length_8abf5_ws, w ∈ lw_tbl := List.forall_mem_cons.mpr ⟨by decide +kernel, List.forall_mem_append.mpr ⟨by decide +kernel, List.forall_mem_append.mpr ⟨zJ0_coder_7d493_ws_in9, fun _ h => absurd h List.not_mem_nil⟩⟩⟩
set_option maxHeartbeats 4000000 in
set_option maxRecDepth 100000 in
theorem zce_114_in9 : ∀ w ∈ zce_114, w ∈ lw_tbl := List.forall_mem_cons.mpr ⟨by decide +kernel, List.forall_mem_append.mpr ⟨by decide +kernel, fun _ h => absurd h List.not_mem_nil⟩⟩
set_option maxHeartbeats 4000000 in
set_option maxRecDepth 100000 in
theorem zioc_114_in9 : ∀ w ∈ zioc_114, w ∈ lw_tbl := List.forall_mem_cons.mpr ⟨by decide +kernel, List.forall_mem_append.mpr ⟨by decide +kernel, fun _ h => absurd h List.not_mem_nil⟩⟩
set_option maxHeartbeats 4000000 in
set_option maxRecDepth 100000 in
theorem ziol_114_in9 : ∀ w ∈ ziol_114, w ∈ lw_tbl := List.forall_mem_cons.mpr ⟨by decide +kernel, List.forall_mem_append.mpr ⟨by decide +kernel, List.forall_mem_append.mpr ⟨zce_114_in9, List.forall_mem_append.mpr ⟨zioc_114_in9, fun _ h => absurd h List.not_mem_nil⟩⟩⟩⟩
set_option maxHeartbeats 4000000 in
set_option maxRecDepth 100000 in
theorem zio2_114_in9 : ∀ w ∈ zio2_114, w ∈ lw_tbl := List.forall_mem_cons.mpr ⟨by decide +kernel, List.forall_mem_append.mpr ⟨by decide +kernel, List.forall_mem_append.mpr ⟨zJ0_isLatin1_aae02_ws_in9, List.forall_mem_append.mpr ⟨zJ0_length_8abf5_ws_in9, List.forall_mem_append.mpr ⟨ziol_114_in9, fun _ h => absurd h List.not_mem_nil⟩⟩⟩⟩⟩
set_option maxHeartbeats 4000000 in
set_option maxRecDepth 100000 in
theorem zio1_114_in9 : ∀ w ∈ zio1_114, w ∈ lw_tbl := List.forall_mem_cons.mpr ⟨by decide +kernel, List.forall_mem_append.mpr ⟨by decide +kernel, List.forall_mem_append.mpr ⟨zio2_114_in9, fun _ h => absurd h List.not_mem_nil⟩⟩⟩
set_option maxHeartbeats 4000000 in
set_option maxRecDepth 100000 in
theorem zX17_in_ws_in9 : ∀ w ∈ zX17_in_ws, w ∈ lw_tbl := List.forall_mem_cons.mpr ⟨by decide +kernel, List.forall_mem_append.mpr ⟨by decide +kernel, fun _ h => absurd h List.not_mem_nil⟩⟩
set_option maxHeartbeats 4000000 in
set_option maxRecDepth 100000 in
theorem zJx4a65c_size_8abf5_ws_in9 : ∀ w ∈ zJx4a65c_size_8abf5_ws, w ∈ lw_tbl := List.forall_mem_cons.mpr ⟨by decide +kernel, List.forall_mem_append.mpr ⟨by decide +kernel, List.forall_mem_append.mpr ⟨(by decide +kernel), fun _ h => absurd h List.not_mem_nil⟩⟩⟩
set_option maxHeartbeats 4000000 in
set_option maxRecDepth 100000 in
theorem zJxa1e45_init_da8c8_ws_in9 : ∀ w ∈ zJxa1e45_init_da8c8_ws, w ∈ lw_tbl := List.forall_mem_cons.mpr ⟨by decide +kernel, List.forall_mem_append.mpr ⟨by decide +kernel, fun _ h => absurd h List.not_mem_nil⟩⟩
set_option maxHeartbeats 4000000 in
set_option maxRecDepth 100000 in
theorem zJxc12de_init_da8c8_ws_in9 : ∀ w ∈ zJxc12de_init_da8c8_ws, w ∈ lw_tbl := List.forall_mem_cons.mpr ⟨by decide +kernel, List.forall_mem_append.mpr ⟨by decide +kernel, List.forall_mem_append.mpr ⟨zJxa1e45_init_da8c8_ws_in9, List.forall_mem_append.mpr ⟨(by decide +kernel), fun _ h => absurd h List.not_mem_nil⟩⟩⟩⟩
set_option maxHeartbeats 4000000 in
set_option maxRecDepth 100000 in
theorem zJx4a65c_init_da8c8_ws_in9 : ∀ w ∈ zJx4a65c_init_da8c8_ws, w ∈ lw_tbl := List.forall_mem_cons.mpr ⟨by decide +kernel, List.forall_mem_append.mpr ⟨by decide +kernel, List.forall_mem_append.mpr ⟨zJxc12de_init_da8c8_ws_in9, List.forall_mem_append.mpr ⟨(by decide +kernel), fun _ h => absurd h List.not_mem_nil⟩⟩⟩⟩
set_option maxHeartbeats 4000000 in
set_option maxRecDepth 100000 in
theorem zX13_init_ws_in9 : ∀ w ∈ zX13_init_ws, w ∈ lw_tbl := List.forall_mem_cons.mpr ⟨by decide +kernel, List.forall_mem_append.mpr ⟨by decide +kernel, List.forall_mem_append.mpr ⟨(by decide +kernel), List.forall_mem_append.mpr ⟨zJx4a65c_init_da8c8_ws_in9, List.forall_mem_append.mpr ⟨(by decide +kernel), fun _ h => absurd h List.not_mem_nil⟩⟩⟩⟩⟩
set_option maxHeartbeats 4000000 in
set_option maxRecDepth 100000 in
theorem zJx4a65c_grow_92f84_ws_in9 : ∀ w ∈ zJx4a65c_grow_92f84_ws, w ∈ lw_tbl := List.forall_mem_cons.mpr ⟨by decide +kernel, List.forall_mem_append.mpr ⟨by decide +kernel, List.forall_mem_append.mpr ⟨(by decide +kernel), fun _ h => absurd h List.not_mem_nil⟩⟩⟩
set_option maxHeartbeats 4000000 in
set_option maxRecDepth 100000 in
theorem zJx4a65c_grow_d5877_ws_in9 : ∀ w ∈ zJx4a65c_grow_d5877_ws, w ∈ lw_tbl := List.forall_mem_cons.mpr ⟨by decide +kernel, List.forall_mem_append.mpr ⟨by decide +kernel, List.forall_mem_append.mpr ⟨(by decide +kernel), List.forall_mem_append.mpr ⟨zJx4a65c_grow_92f84_ws_in9, fun _ h => absurd h List.not_mem_nil⟩⟩⟩⟩
set_option maxHeartbeats 4000000 in
set_option maxRecDepth 100000 in
theorem zJx4a65c_add_72be8_event_in9 : ∀ w ∈ zJx4a65c_add_72be8_event, w ∈ lw_tbl := List.forall_mem_cons.mpr ⟨by decide +kernel, List.forall_mem_append.mpr ⟨by decide +kernel, List.forall_mem_append.mpr ⟨zJx4a65c_grow_d5877_ws_in9, List.forall_mem_append.mpr ⟨(by decide +kernel), fun _ h => absurd h List.not_mem_nil⟩⟩⟩⟩
set_option maxHeartbeats 4000000 in
set_option maxRecDepth 100000 in
theorem zJx4a65c_add_9ea2d_event_in9 : ∀ w ∈ zJx4a65c_add_9ea2d_event, w ∈ lw_tbl := List.forall_mem_cons.mpr ⟨by decide +kernel, List.forall_mem_append.mpr ⟨by decide +kernel, List.forall_mem_append.mpr ⟨(by decide +kernel), List.forall_mem_append.mpr ⟨zJx4a65c_add_72be8_event_in9, fun _ h => absurd h List.not_mem_nil⟩⟩⟩⟩
set_option maxHeartbeats 4000000 in
set_option maxRecDepth 100000 in
theorem zmev_ok_114_in9 : ∀ w ∈ zmev_ok_114, w ∈ lw_tbl := List.forall_mem_cons.mpr ⟨by decide +kernel, List.forall_mem_append.mpr ⟨by decide +kernel, List.forall_mem_append.mpr ⟨zio1_114_in9, List.forall_mem_append.mpr ⟨zX17_in_ws_in9, List.forall_mem_append.mpr ⟨(by decide +kernel), List.forall_mem_append.mpr ⟨zJx4a65c_size_8abf5_ws_in9, List.forall_mem_append.mpr ⟨(by decide +kernel), List.forall_mem_append.mpr ⟨zX13_init_ws_in9, List.forall_mem_append.mpr ⟨zJx4a65c_add_9ea2d_event_in9, fun _ h => absurd h List.not_mem_nil⟩⟩⟩⟩⟩⟩⟩⟩⟩
set_option maxHeartbeats 4000000 in
set_option maxRecDepth 100000 in
theorem zce_106_in9 : ∀ w ∈ zce_106, w ∈ lw_tbl := List.forall_mem_cons.mpr ⟨by decide +kernel, List.forall_mem_append.mpr ⟨by decide +kernel, fun _ h => absurd h List.not_mem_nil⟩⟩
set_option maxHeartbeats 4000000 in
set_option maxRecDepth 100000 in
theorem zioc_106_in9 : ∀ w ∈ zioc_106, w ∈ lw_tbl := List.forall_mem_cons.mpr ⟨by decide +kernel, List.forall_mem_append.mpr ⟨by decide +kernel, fun _ h => absurd h List.not_mem_nil⟩⟩
set_option maxHeartbeats 4000000 in
set_option maxRecDepth 100000 in
theorem ziol_106_in9 : ∀ w ∈ ziol_106, w ∈ lw_tbl := List.forall_mem_cons.mpr ⟨by decide +kernel, List.forall_mem_append.mpr ⟨by decide +kernel, List.forall_mem_append.mpr ⟨zce_106_in9, List.forall_mem_append.mpr ⟨zioc_106_in9, fun _ h => absurd h List.not_mem_nil⟩⟩⟩⟩
set_option maxHeartbeats 4000000 in
set_option maxRecDepth 100000 in
theorem zio2_106_in9 : ∀ w ∈ zio2_106, w ∈ lw_tbl := List.forall_mem_cons.mpr ⟨by decide +kernel, List.forall_mem_append.mpr ⟨by decide +kernel, List.forall_mem_append.mpr ⟨zJ0_isLatin1_aae02_ws_in9, List.forall_mem_append.mpr ⟨zJ0_length_8abf5_ws_in9, List.forall_mem_append.mpr ⟨ziol_106_in9, fun _ h => absurd h List.not_mem_nil⟩⟩⟩⟩⟩
set_option maxHeartbeats 4000000 in
set_option maxRecDepth 100000 in
theorem zio1_106_in9 : ∀ w ∈ zio1_106, w ∈ lw_tbl := List.forall_mem_cons.mpr ⟨by decide +kernel, List.forall_mem_append.mpr ⟨by decide +kernel, List.forall_mem_append.mpr ⟨zio2_106_in9, fun _ h => absurd h List.not_mem_nil⟩⟩⟩
set_option maxHeartbeats 4000000 in
set_option maxRecDepth 100000 in
theorem zmev_ok_106_in9 : ∀ w ∈ zmev_ok_106, w ∈ lw_tbl := List.forall_mem_cons.mpr ⟨by decide +kernel, List.forall_mem_append.mpr ⟨by decide +kernel, List.forall_mem_append.mpr ⟨zio1_106_in9, List.forall_mem_append.mpr ⟨zX17_in_ws_in9, List.forall_mem_append.mpr ⟨(by decide +kernel), List.forall_mem_append.mpr ⟨zJx4a65c_size_8abf5_ws_in9, List.forall_mem_append.mpr ⟨(by decide +kernel), List.forall_mem_append.mpr ⟨zX13_init_ws_in9, List.forall_mem_append.mpr ⟨zJx4a65c_add_9ea2d_event_in9, fun _ h => absurd h List.not_mem_nil⟩⟩⟩⟩⟩⟩⟩⟩⟩
set_option maxHeartbeats 4000000 in
set_option maxRecDepth 100000 in
theorem zce_116_in9 : ∀ w ∈ zce_116, w ∈ lw_tbl := List.forall_mem_cons.mpr ⟨by decide +kernel, List.forall_mem_append.mpr ⟨by decide +kernel, fun _ h => absurd h List.not_mem_nil⟩⟩
set_option maxHeartbeats 4000000 in
set_option maxRecDepth 100000 in
theorem zioc_116_in9 : ∀ w ∈ zioc_116, w ∈ lw_tbl := List.forall_mem_cons.mpr ⟨by decide +kernel, List.forall_mem_append.mpr ⟨by decide +kernel, fun _ h => absurd h List.not_mem_nil⟩⟩
set_option maxHeartbeats 4000000 in
set_option maxRecDepth 100000 in
theorem ziol_116_in9 : ∀ w ∈ ziol_116, w ∈ lw_tbl := List.forall_mem_cons.mpr ⟨by decide +kernel, List.forall_mem_append.mpr ⟨by decide +kernel, List.forall_mem_append.mpr ⟨zce_116_in9, List.forall_mem_append.mpr ⟨zioc_116_in9, fun _ h => absurd h List.not_mem_nil⟩⟩⟩⟩
set_option maxHeartbeats 4000000 in
set_option maxRecDepth 100000 in
theorem zio2_116_in9 : ∀ w ∈ zio2_116, w ∈ lw_tbl := List.forall_mem_cons.mpr ⟨by decide +kernel, List.forall_mem_append.mpr ⟨by decide +kernel, List.forall_mem_append.mpr ⟨zJ0_isLatin1_aae02_ws_in9, List.forall_mem_append.mpr ⟨zJ0_length_8abf5_ws_in9, List.forall_mem_append.mpr ⟨ziol_116_in9, fun _ h => absurd h List.not_mem_nil⟩⟩⟩⟩⟩
set_option maxHeartbeats 4000000 in
set_option maxRecDepth 100000 in
theorem zio1_116_in9 : ∀ w ∈ zio1_116, w ∈ lw_tbl := List.forall_mem_cons.mpr ⟨by decide +kernel, List.forall_mem_append.mpr ⟨by decide +kernel, List.forall_mem_append.mpr ⟨zio2_116_in9, fun _ h => absurd h List.not_mem_nil⟩⟩⟩
set_option maxHeartbeats 4000000 in
set_option maxRecDepth 100000 in
theorem zmev_ok_116_in9 : ∀ w ∈ zmev_ok_116, w ∈ lw_tbl := List.forall_mem_cons.mpr ⟨by decide +kernel, List.forall_mem_append.mpr ⟨by decide +kernel, List.forall_mem_append.mpr ⟨zio1_116_in9, List.forall_mem_append.mpr ⟨zX17_in_ws_in9, List.forall_mem_append.mpr ⟨(by decide +kernel), List.forall_mem_append.mpr ⟨zJx4a65c_size_8abf5_ws_in9, List.forall_mem_append.mpr ⟨(by decide +kernel), List.forall_mem_append.mpr ⟨zX13_init_ws_in9, List.forall_mem_append.mpr ⟨zJx4a65c_add_9ea2d_event_in9, fun _ h => absurd h List.not_mem_nil⟩⟩⟩⟩⟩⟩⟩⟩⟩
set_option maxHeartbeats 4000000 in
set_option maxRecDepth 100000 in
theorem zX17_thrown_ws_in9 : ∀ w ∈ zX17_thrown_ws, w ∈ lw_tbl := List.forall_mem_cons.mpr ⟨by decide +kernel, List.forall_mem_append.mpr ⟨by decide +kernel, List.forall_mem_append.mpr ⟨(by decide +kernel), fun _ h => absurd h List.not_mem_nil⟩⟩⟩
