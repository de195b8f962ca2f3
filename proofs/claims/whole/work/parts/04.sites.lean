theorem ly_Ba_0 : u_lay RX_Ba TX_Ba 0 ∈ gx_F := gx_F_in (tb_1 (List.mem_of_getElem? (i := 134) (by decide +kernel))) rfl
theorem ly_Ba : ∀ w ∈ u_ws RX_Ba TX_Ba 1, w ∈ gx_F := by
  intro w hw
  obtain ⟨k, hk, rfl⟩ := List.mem_map.mp hw
  have hk := List.mem_range.mp hk
  match k, hk with
  | 0, _ => exact ly_Ba_0
  | k + 1, hk => exact absurd hk (by omega)
theorem ly_BP_0 : u_lay RX_BP TX_BP 0 ∈ gx_F := gx_F_in (tb_1 (List.mem_of_getElem? (i := 208) (by decide +kernel))) rfl
theorem ly_BP_1 : u_lay RX_BP TX_BP 1 ∈ gx_F := gx_F_in (tb_1 (List.mem_of_getElem? (i := 210) (by decide +kernel))) rfl
theorem ly_BP_2 : u_lay RX_BP TX_BP 2 ∈ gx_F := gx_F_in (tb_1 (List.mem_of_getElem? (i := 212) (by decide +kernel))) rfl
theorem ly_BP : ∀ w ∈ u_ws RX_BP TX_BP 3, w ∈ gx_F := by
  intro w hw
  obtain ⟨k, hk, rfl⟩ := List.mem_map.mp hw
  have hk := List.mem_range.mp hk
  match k, hk with
  | 0, _ => exact ly_BP_0
  | 1, _ => exact ly_BP_1
  | 2, _ => exact ly_BP_2
  | k + 3, hk => exact absurd hk (by omega)
theorem ly_Co_0 : u_lay RX_Co TX_Co 0 ∈ gx_F := gx_F_in (tb_1 (List.mem_of_getElem? (i := 118) (by decide +kernel))) rfl
theorem ly_Co_1 : u_lay RX_Co TX_Co 1 ∈ gx_F := gx_F_in (tb_1 (List.mem_of_getElem? (i := 120) (by decide +kernel))) rfl
theorem ly_Co_2 : u_lay RX_Co TX_Co 2 ∈ gx_F := gx_F_in (tb_1 (List.mem_of_getElem? (i := 122) (by decide +kernel))) rfl
theorem ly_Co_3 : u_lay RX_Co TX_Co 3 ∈ gx_F := gx_F_in (tb_1 (List.mem_of_getElem? (i := 124) (by decide +kernel))) rfl
theorem ly_Co : ∀ w ∈ u_ws RX_Co TX_Co 4, w ∈ gx_F := by
  intro w hw
  obtain ⟨k, hk, rfl⟩ := List.mem_map.mp hw
  have hk := List.mem_range.mp hk
  match k, hk with
  | 0, _ => exact ly_Co_0
  | 1, _ => exact ly_Co_1
  | 2, _ => exact ly_Co_2
  | 3, _ => exact ly_Co_3
  | k + 4, hk => exact absurd hk (by omega)
theorem ly_De_0 : u_lay RX_De TX_De 0 ∈ gx_F := gx_F_in (tb_1 (List.mem_of_getElem? (i := 147) (by decide +kernel))) rfl
theorem ly_De_1 : u_lay RX_De TX_De 1 ∈ gx_F := gx_F_in (tb_1 (List.mem_of_getElem? (i := 149) (by decide +kernel))) rfl
theorem ly_De_2 : u_lay RX_De TX_De 2 ∈ gx_F := gx_F_in (tb_1 (List.mem_of_getElem? (i := 151) (by decide +kernel))) rfl
theorem ly_De_3 : u_lay RX_De TX_De 3 ∈ gx_F := gx_F_in (tb_1 (List.mem_of_getElem? (i := 153) (by decide +kernel))) rfl
theorem ly_De : ∀ w ∈ u_ws RX_De TX_De 4, w ∈ gx_F := by
  intro w hw
  obtain ⟨k, hk, rfl⟩ := List.mem_map.mp hw
  have hk := List.mem_range.mp hk
  match k, hk with
  | 0, _ => exact ly_De_0
  | 1, _ => exact ly_De_1
  | 2, _ => exact ly_De_2
  | 3, _ => exact ly_De_3
  | k + 4, hk => exact absurd hk (by omega)
theorem ly_Ma_0 : u_lay RX_Ma TX_Ma 0 ∈ gx_F := gx_F_in (tb_1 (List.mem_of_getElem? (i := 91) (by decide +kernel))) rfl
theorem ly_Ma_1 : u_lay RX_Ma TX_Ma 1 ∈ gx_F := gx_F_in (tb_1 (List.mem_of_getElem? (i := 93) (by decide +kernel))) rfl
theorem ly_Ma_2 : u_lay RX_Ma TX_Ma 2 ∈ gx_F := gx_F_in (tb_1 (List.mem_of_getElem? (i := 95) (by decide +kernel))) rfl
theorem ly_Ma_3 : u_lay RX_Ma TX_Ma 3 ∈ gx_F := gx_F_in (tb_1 (List.mem_of_getElem? (i := 97) (by decide +kernel))) rfl
theorem ly_Ma_4 : u_lay RX_Ma TX_Ma 4 ∈ gx_F := gx_F_in (tb_1 (List.mem_of_getElem? (i := 99) (by decide +kernel))) rfl
theorem ly_Ma_5 : u_lay RX_Ma TX_Ma 5 ∈ gx_F := gx_F_in (tb_1 (List.mem_of_getElem? (i := 101) (by decide +kernel))) rfl
theorem ly_Ma_6 : u_lay RX_Ma TX_Ma 6 ∈ gx_F := gx_F_in (tb_1 (List.mem_of_getElem? (i := 103) (by decide +kernel))) rfl
theorem ly_Ma : ∀ w ∈ u_ws RX_Ma TX_Ma 7, w ∈ gx_F := by
  intro w hw
  obtain ⟨k, hk, rfl⟩ := List.mem_map.mp hw
  have hk := List.mem_range.mp hk
  match k, hk with
  | 0, _ => exact ly_Ma_0
  | 1, _ => exact ly_Ma_1
  | 2, _ => exact ly_Ma_2
  | 3, _ => exact ly_Ma_3
  | 4, _ => exact ly_Ma_4
  | 5, _ => exact ly_Ma_5
  | 6, _ => exact ly_Ma_6
  | k + 7, hk => exact absurd hk (by omega)
theorem ly_On_0 : u_lay RX_On TX_On 0 ∈ gx_F := gx_F_in (tb_1 (List.mem_of_getElem? (i := 163) (by decide +kernel))) rfl
theorem ly_On : ∀ w ∈ u_ws RX_On TX_On 1, w ∈ gx_F := by
  intro w hw
  obtain ⟨k, hk, rfl⟩ := List.mem_map.mp hw
  have hk := List.mem_range.mp hk
  match k, hk with
  | 0, _ => exact ly_On_0
  | k + 1, hk => exact absurd hk (by omega)
theorem ly_Pa_0 : u_lay RX_Pa TX_Pa 0 ∈ gx_F := gx_F_in (tb_2 (List.mem_of_getElem? (i := 1) (by decide +kernel))) rfl
theorem ly_Pa_1 : u_lay RX_Pa TX_Pa 1 ∈ gx_F := gx_F_in (tb_2 (List.mem_of_getElem? (i := 3) (by decide +kernel))) rfl
theorem ly_Pa_2 : u_lay RX_Pa TX_Pa 2 ∈ gx_F := gx_F_in (tb_2 (List.mem_of_getElem? (i := 5) (by decide +kernel))) rfl
theorem ly_Pa_3 : u_lay RX_Pa TX_Pa 3 ∈ gx_F := gx_F_in (tb_2 (List.mem_of_getElem? (i := 7) (by decide +kernel))) rfl
theorem ly_Pa : ∀ w ∈ u_ws RX_Pa TX_Pa 4, w ∈ gx_F := by
  intro w hw
  obtain ⟨k, hk, rfl⟩ := List.mem_map.mp hw
  have hk := List.mem_range.mp hk
  match k, hk with
  | 0, _ => exact ly_Pa_0
  | 1, _ => exact ly_Pa_1
  | 2, _ => exact ly_Pa_2
  | 3, _ => exact ly_Pa_3
  | k + 4, hk => exact absurd hk (by omega)
theorem ly_Ro_0 : u_lay RX_Ro TX_Ro 0 ∈ gx_F := gx_F_in (tb_1 (List.mem_of_getElem? (i := 181) (by decide +kernel))) rfl
theorem ly_Ro_1 : u_lay RX_Ro TX_Ro 1 ∈ gx_F := gx_F_in (tb_1 (List.mem_of_getElem? (i := 183) (by decide +kernel))) rfl
theorem ly_Ro : ∀ w ∈ u_ws RX_Ro TX_Ro 2, w ∈ gx_F := by
  intro w hw
  obtain ⟨k, hk, rfl⟩ := List.mem_map.mp hw
  have hk := List.mem_range.mp hk
  match k, hk with
  | 0, _ => exact ly_Ro_0
  | 1, _ => exact ly_Ro_1
  | k + 2, hk => exact absurd hk (by omega)
theorem ly_Te_0 : u_lay RX_Te TX_Te 0 ∈ gx_F := gx_F_in (tb_1 (List.mem_of_getElem? (i := 225) (by decide +kernel))) rfl
theorem ly_Te_1 : u_lay RX_Te TX_Te 1 ∈ gx_F := gx_F_in (tb_1 (List.mem_of_getElem? (i := 227) (by decide +kernel))) rfl
theorem ly_Te : ∀ w ∈ u_ws RX_Te TX_Te 2, w ∈ gx_F := by
  intro w hw
  obtain ⟨k, hk, rfl⟩ := List.mem_map.mp hw
  have hk := List.mem_range.mp hk
  match k, hk with
  | 0, _ => exact ly_Te_0
  | 1, _ => exact ly_Te_1
  | k + 2, hk => exact absurd hk (by omega)
theorem ly_We_0 : u_lay RX_We TX_We 0 ∈ gx_F := gx_F_in (tb_1 (List.mem_of_getElem? (i := 189) (by decide +kernel))) rfl
theorem ly_We_1 : u_lay RX_We TX_We 1 ∈ gx_F := gx_F_in (tb_1 (List.mem_of_getElem? (i := 191) (by decide +kernel))) rfl
theorem ly_We_2 : u_lay RX_We TX_We 2 ∈ gx_F := gx_F_in (tb_1 (List.mem_of_getElem? (i := 193) (by decide +kernel))) rfl
theorem ly_We : ∀ w ∈ u_ws RX_We TX_We 3, w ∈ gx_F := by
  intro w hw
  obtain ⟨k, hk, rfl⟩ := List.mem_map.mp hw
  have hk := List.mem_range.mp hk
  match k, hk with
  | 0, _ => exact ly_We_0
  | 1, _ => exact ly_We_1
  | 2, _ => exact ly_We_2
  | k + 3, hk => exact absurd hk (by omega)
theorem ly_WM_0 : u_lay RX_WM TX_WM 0 ∈ gx_F := gx_F_in (tb_2 (List.mem_of_getElem? (i := 20) (by decide +kernel))) rfl
theorem ly_WM_1 : u_lay RX_WM TX_WM 1 ∈ gx_F := gx_F_in (tb_2 (List.mem_of_getElem? (i := 22) (by decide +kernel))) rfl
theorem ly_WM_2 : u_lay RX_WM TX_WM 2 ∈ gx_F := gx_F_in (tb_2 (List.mem_of_getElem? (i := 24) (by decide +kernel))) rfl
theorem ly_WM_3 : u_lay RX_WM TX_WM 3 ∈ gx_F := gx_F_in (tb_2 (List.mem_of_getElem? (i := 26) (by decide +kernel))) rfl
theorem ly_WM_4 : u_lay RX_WM TX_WM 4 ∈ gx_F := gx_F_in (tb_2 (List.mem_of_getElem? (i := 28) (by decide +kernel))) rfl
theorem ly_WM_5 : u_lay RX_WM TX_WM 5 ∈ gx_F := gx_F_in (tb_2 (List.mem_of_getElem? (i := 30) (by decide +kernel))) rfl
theorem ly_WM_6 : u_lay RX_WM TX_WM 6 ∈ gx_F := gx_F_in (tb_2 (List.mem_of_getElem? (i := 32) (by decide +kernel))) rfl
theorem ly_WM_7 : u_lay RX_WM TX_WM 7 ∈ gx_F := gx_F_in (tb_2 (List.mem_of_getElem? (i := 34) (by decide +kernel))) rfl
theorem ly_WM_8 : u_lay RX_WM TX_WM 8 ∈ gx_F := gx_F_in (tb_2 (List.mem_of_getElem? (i := 36) (by decide +kernel))) rfl
theorem ly_WM_9 : u_lay RX_WM TX_WM 9 ∈ gx_F := gx_F_in (tb_2 (List.mem_of_getElem? (i := 38) (by decide +kernel))) rfl
theorem ly_WM : ∀ w ∈ u_ws RX_WM TX_WM 10, w ∈ gx_F := by
  intro w hw
  obtain ⟨k, hk, rfl⟩ := List.mem_map.mp hw
  have hk := List.mem_range.mp hk
  match k, hk with
  | 0, _ => exact ly_WM_0
  | 1, _ => exact ly_WM_1
  | 2, _ => exact ly_WM_2
  | 3, _ => exact ly_WM_3
  | 4, _ => exact ly_WM_4
  | 5, _ => exact ly_WM_5
  | 6, _ => exact ly_WM_6
  | 7, _ => exact ly_WM_7
  | 8, _ => exact ly_WM_8
  | 9, _ => exact ly_WM_9
  | k + 10, hk => exact absurd hk (by omega)
theorem ly_Mo_0 : u_lay RX_Mo TX_Mo 0 ∈ gx_F := gx_F_in (tb_4 (List.mem_of_getElem? (i := 76) (by decide +kernel))) rfl
theorem ly_Mo_1 : u_lay RX_Mo TX_Mo 1 ∈ gx_F := gx_F_in (tb_4 (List.mem_of_getElem? (i := 78) (by decide +kernel))) rfl
theorem ly_Mo_2 : u_lay RX_Mo TX_Mo 2 ∈ gx_F := gx_F_in (tb_4 (List.mem_of_getElem? (i := 80) (by decide +kernel))) rfl
theorem ly_Mo_3 : u_lay RX_Mo TX_Mo 3 ∈ gx_F := gx_F_in (tb_4 (List.mem_of_getElem? (i := 82) (by decide +kernel))) rfl
theorem ly_Mo_4 : u_lay RX_Mo TX_Mo 4 ∈ gx_F := gx_F_in (tb_4 (List.mem_of_getElem? (i := 84) (by decide +kernel))) rfl
theorem ly_Mo_5 : u_lay RX_Mo TX_Mo 5 ∈ gx_F := gx_F_in (tb_4 (List.mem_of_getElem? (i := 86) (by decide +kernel))) rfl
theorem ly_Mo_6 : u_lay RX_Mo TX_Mo 6 ∈ gx_F := gx_F_in (tb_4 (List.mem_of_getElem? (i := 88) (by decide +kernel))) rfl
theorem ly_Mo_7 : u_lay RX_Mo TX_Mo 7 ∈ gx_F := gx_F_in (tb_4 (List.mem_of_getElem? (i := 90) (by decide +kernel))) rfl
theorem ly_Mo_8 : u_lay RX_Mo TX_Mo 8 ∈ gx_F := gx_F_in (tb_4 (List.mem_of_getElem? (i := 92) (by decide +kernel))) rfl
theorem ly_Mo_9 : u_lay RX_Mo TX_Mo 9 ∈ gx_F := gx_F_in (tb_4 (List.mem_of_getElem? (i := 94) (by decide +kernel))) rfl
theorem ly_Mo_10 : u_lay RX_Mo TX_Mo 10 ∈ gx_F := gx_F_in (tb_4 (List.mem_of_getElem? (i := 96) (by decide +kernel))) rfl
theorem ly_Mo_11 : u_lay RX_Mo TX_Mo 11 ∈ gx_F := gx_F_in (tb_4 (List.mem_of_getElem? (i := 98) (by decide +kernel))) rfl
theorem ly_Mo_12 : u_lay RX_Mo TX_Mo 12 ∈ gx_F := gx_F_in (tb_4 (List.mem_of_getElem? (i := 100) (by decide +kernel))) rfl
theorem ly_Mo_13 : u_lay RX_Mo TX_Mo 13 ∈ gx_F := gx_F_in (tb_4 (List.mem_of_getElem? (i := 102) (by decide +kernel))) rfl
theorem ly_Mo_14 : u_lay RX_Mo TX_Mo 14 ∈ gx_F := gx_F_in (tb_4 (List.mem_of_getElem? (i := 104) (by decide +kernel))) rfl
theorem ly_Mo_15 : u_lay RX_Mo TX_Mo 15 ∈ gx_F := gx_F_in (tb_4 (List.mem_of_getElem? (i := 106) (by decide +kernel))) rfl
theorem ly_Mo_16 : u_lay RX_Mo TX_Mo 16 ∈ gx_F := gx_F_in (tb_4 (List.mem_of_getElem? (i := 108) (by decide +kernel))) rfl
theorem ly_Mo_17 : u_lay RX_Mo TX_Mo 17 ∈ gx_F := gx_F_in (tb_4 (List.mem_of_getElem? (i := 110) (by decide +kernel))) rfl
theorem ly_Mo_18 : u_lay RX_Mo TX_Mo 18 ∈ gx_F := gx_F_in (tb_4 (List.mem_of_getElem? (i := 112) (by decide +kernel))) rfl
theorem ly_Mo_19 : u_lay RX_Mo TX_Mo 19 ∈ gx_F := gx_F_in (tb_4 (List.mem_of_getElem? (i := 114) (by decide +kernel))) rfl
theorem ly_Mo_20 : u_lay RX_Mo TX_Mo 20 ∈ gx_F := gx_F_in (tb_4 (List.mem_of_getElem? (i := 116) (by decide +kernel))) rfl
theorem ly_Mo_21 : u_lay RX_Mo TX_Mo 21 ∈ gx_F := gx_F_in (tb_4 (List.mem_of_getElem? (i := 118) (by decide +kernel))) rfl
theorem ly_Mo_22 : u_lay RX_Mo TX_Mo 22 ∈ gx_F := gx_F_in (tb_4 (List.mem_of_getElem? (i := 120) (by decide +kernel))) rfl
theorem ly_Mo_23 : u_lay RX_Mo TX_Mo 23 ∈ gx_F := gx_F_in (tb_4 (List.mem_of_getElem? (i := 122) (by decide +kernel))) rfl
theorem ly_Mo_24 : u_lay RX_Mo TX_Mo 24 ∈ gx_F := gx_F_in (tb_4 (List.mem_of_getElem? (i := 124) (by decide +kernel))) rfl
theorem ly_Mo_25 : u_lay RX_Mo TX_Mo 25 ∈ gx_F := gx_F_in (tb_4 (List.mem_of_getElem? (i := 126) (by decide +kernel))) rfl
theorem ly_Mo_26 : u_lay RX_Mo TX_Mo 26 ∈ gx_F := gx_F_in (tb_4 (List.mem_of_getElem? (i := 128) (by decide +kernel))) rfl
theorem ly_Mo_27 : u_lay RX_Mo TX_Mo 27 ∈ gx_F := gx_F_in (tb_4 (List.mem_of_getElem? (i := 130) (by decide +kernel))) rfl
theorem ly_Mo : ∀ w ∈ u_ws RX_Mo TX_Mo 28, w ∈ gx_F := by
  intro w hw
  obtain ⟨k, hk, rfl⟩ := List.mem_map.mp hw
  have hk := List.mem_range.mp hk
  match k, hk with
  | 0, _ => exact ly_Mo_0
  | 1, _ => exact ly_Mo_1
  | 2, _ => exact ly_Mo_2
  | 3, _ => exact ly_Mo_3
  | 4, _ => exact ly_Mo_4
  | 5, _ => exact ly_Mo_5
  | 6, _ => exact ly_Mo_6
  | 7, _ => exact ly_Mo_7
  | 8, _ => exact ly_Mo_8
  | 9, _ => exact ly_Mo_9
  | 10, _ => exact ly_Mo_10
  | 11, _ => exact ly_Mo_11
  | 12, _ => exact ly_Mo_12
  | 13, _ => exact ly_Mo_13
  | 14, _ => exact ly_Mo_14
  | 15, _ => exact ly_Mo_15
  | 16, _ => exact ly_Mo_16
  | 17, _ => exact ly_Mo_17
  | 18, _ => exact ly_Mo_18
  | 19, _ => exact ly_Mo_19
  | 20, _ => exact ly_Mo_20
  | 21, _ => exact ly_Mo_21
  | 22, _ => exact ly_Mo_22
  | 23, _ => exact ly_Mo_23
  | 24, _ => exact ly_Mo_24
  | 25, _ => exact ly_Mo_25
  | 26, _ => exact ly_Mo_26
  | 27, _ => exact ly_Mo_27
  | k + 28, hk => exact absurd hk (by omega)
theorem fk_WM_11 : Cond.fieldLink "WeighedMachines" 11 (TX_WM 0).1 (TX_WM 0).2.1 (TX_WM 0).2.2.1 ∈ gx_F := gx_F_in (tb_2 (List.mem_of_getElem? (i := 10) (by decide +kernel))) rfl
theorem fd_WM_11 : gx_fd "WeighedMachines" 11 10 0 := ⟨_, _, _, rfl, (by decide), ly_WM, Or.inl fk_WM_11⟩
theorem ff_WM_11 : gx_ff "WeighedMachines" 11 10 0 (.array (.object "WeighedMachines$Machine")) := ⟨_, _, _, ty_WM, rfl, (by decide), ly_WM, fk_WM_11, tk_WM, nm_WM, rfl, rfl, rfl⟩
theorem fk_WM_16 : Cond.fieldLink "WeighedMachines" 16 (TX_WM 9).1 (TX_WM 9).2.1 (TX_WM 9).2.2.1 ∈ gx_F := gx_F_in (tb_2 (List.mem_of_getElem? (i := 19) (by decide +kernel))) rfl
theorem fd_WM_16 : gx_fd "WeighedMachines" 16 10 9 := ⟨_, _, _, rfl, (by decide), ly_WM, Or.inl fk_WM_16⟩
theorem fw_WM_16 : gx_fw "WeighedMachines" 16 10 9 (.object "WeighedMachines$Machine") := ⟨_, _, _, ty_WM, rfl, (by decide), ly_WM, Or.inl fk_WM_16, tk_WM, nm_WM, rfl, rfl⟩
theorem fk_WM_23 : Cond.fieldLink "WeighedMachines" 23 (TX_WM 1).1 (TX_WM 1).2.1 (TX_WM 1).2.2.1 ∈ gx_F := gx_F_in (tb_2 (List.mem_of_getElem? (i := 11) (by decide +kernel))) rfl
theorem fd_WM_23 : gx_fd "WeighedMachines" 23 10 1 := ⟨_, _, _, rfl, (by decide), ly_WM, Or.inl fk_WM_23⟩
theorem ff_WM_23 : gx_ff "WeighedMachines" 23 10 1 (.object "WeighedMachines$Composing") := ⟨_, _, _, ty_WM, rfl, (by decide), ly_WM, fk_WM_23, tk_WM, nm_WM, rfl, rfl, rfl⟩
theorem fk_WM_30 : Cond.fieldLink "WeighedMachines" 30 (TX_WM 2).1 (TX_WM 2).2.1 (TX_WM 2).2.2.1 ∈ gx_F := gx_F_in (tb_2 (List.mem_of_getElem? (i := 12) (by decide +kernel))) rfl
theorem fd_WM_30 : gx_fd "WeighedMachines" 30 10 2 := ⟨_, _, _, rfl, (by decide), ly_WM, Or.inl fk_WM_30⟩
theorem ff_WM_30 : gx_ff "WeighedMachines" 30 10 2 (.object "WeighedMachines$Baring") := ⟨_, _, _, ty_WM, rfl, (by decide), ly_WM, fk_WM_30, tk_WM, nm_WM, rfl, rfl, rfl⟩
theorem fk_WM_37 : Cond.fieldLink "WeighedMachines" 37 (TX_WM 3).1 (TX_WM 3).2.1 (TX_WM 3).2.2.1 ∈ gx_F := gx_F_in (tb_2 (List.mem_of_getElem? (i := 13) (by decide +kernel))) rfl
theorem fd_WM_37 : gx_fd "WeighedMachines" 37 10 3 := ⟨_, _, _, rfl, (by decide), ly_WM, Or.inl fk_WM_37⟩
theorem ff_WM_37 : gx_ff "WeighedMachines" 37 10 3 (.object "WeighedMachines$Determining") := ⟨_, _, _, ty_WM, rfl, (by decide), ly_WM, fk_WM_37, tk_WM, nm_WM, rfl, rfl, rfl⟩
theorem fk_WM_44 : Cond.fieldLink "WeighedMachines" 44 (TX_WM 4).1 (TX_WM 4).2.1 (TX_WM 4).2.2.1 ∈ gx_F := gx_F_in (tb_2 (List.mem_of_getElem? (i := 14) (by decide +kernel))) rfl
theorem fd_WM_44 : gx_fd "WeighedMachines" 44 10 4 := ⟨_, _, _, rfl, (by decide), ly_WM, Or.inl fk_WM_44⟩
theorem ff_WM_44 : gx_ff "WeighedMachines" 44 10 4 (.object "WeighedMachines$Onward") := ⟨_, _, _, ty_WM, rfl, (by decide), ly_WM, fk_WM_44, tk_WM, nm_WM, rfl, rfl, rfl⟩
theorem fk_WM_51 : Cond.fieldLink "WeighedMachines" 51 (TX_WM 5).1 (TX_WM 5).2.1 (TX_WM 5).2.2.1 ∈ gx_F := gx_F_in (tb_2 (List.mem_of_getElem? (i := 15) (by decide +kernel))) rfl
theorem fd_WM_51 : gx_fd "WeighedMachines" 51 10 5 := ⟨_, _, _, rfl, (by decide), ly_WM, Or.inl fk_WM_51⟩
theorem ff_WM_51 : gx_ff "WeighedMachines" 51 10 5 (.object "WeighedMachines$Weighing") := ⟨_, _, _, ty_WM, rfl, (by decide), ly_WM, fk_WM_51, tk_WM, nm_WM, rfl, rfl, rfl⟩
theorem fk_WM_58 : Cond.fieldLink "WeighedMachines" 58 (TX_WM 6).1 (TX_WM 6).2.1 (TX_WM 6).2.2.1 ∈ gx_F := gx_F_in (tb_2 (List.mem_of_getElem? (i := 16) (by decide +kernel))) rfl
theorem fd_WM_58 : gx_fd "WeighedMachines" 58 10 6 := ⟨_, _, _, rfl, (by decide), ly_WM, Or.inl fk_WM_58⟩
theorem ff_WM_58 : gx_ff "WeighedMachines" 58 10 6 (.object "WeighedMachines$BestPath") := ⟨_, _, _, ty_WM, rfl, (by decide), ly_WM, fk_WM_58, tk_WM, nm_WM, rfl, rfl, rfl⟩
theorem fk_WM_65 : Cond.fieldLink "WeighedMachines" 65 (TX_WM 7).1 (TX_WM 7).2.1 (TX_WM 7).2.2.1 ∈ gx_F := gx_F_in (tb_2 (List.mem_of_getElem? (i := 17) (by decide +kernel))) rfl
theorem fd_WM_65 : gx_fd "WeighedMachines" 65 10 7 := ⟨_, _, _, rfl, (by decide), ly_WM, Or.inl fk_WM_65⟩
theorem ff_WM_65 : gx_ff "WeighedMachines" 65 10 7 (.object "WeighedMachines$Text") := ⟨_, _, _, ty_WM, rfl, (by decide), ly_WM, fk_WM_65, tk_WM, nm_WM, rfl, rfl, rfl⟩
theorem fk_WM_72 : Cond.fieldLink "WeighedMachines" 72 (TX_WM 8).1 (TX_WM 8).2.1 (TX_WM 8).2.2.1 ∈ gx_F := gx_F_in (tb_2 (List.mem_of_getElem? (i := 18) (by decide +kernel))) rfl
theorem fd_WM_72 : gx_fd "WeighedMachines" 72 10 8 := ⟨_, _, _, rfl, (by decide), ly_WM, Or.inl fk_WM_72⟩
theorem ff_WM_72 : gx_ff "WeighedMachines" 72 10 8 (.object "WeighedMachines$Parsing") := ⟨_, _, _, ty_WM, rfl, (by decide), ly_WM, fk_WM_72, tk_WM, nm_WM, rfl, rfl, rfl⟩
theorem fk_WM_96 : Cond.fieldLink "WeighedMachines" 96 (TX_Ma 3).1 (TX_Ma 3).2.1 (TX_Ma 3).2.2.1 ∈ gx_F := gx_F_in (tb_1 (List.mem_of_getElem? (i := 63) (by decide +kernel))) rfl
theorem fd_WM_96 : gx_fd "WeighedMachines" 96 4 3 := ⟨_, _, _, rfl, (by decide), ly_Ma, Or.inl fk_WM_96⟩
theorem fk_WM_108 : Cond.fieldLink "WeighedMachines" 108 (TX_Ma 4).1 (TX_Ma 4).2.1 (TX_Ma 4).2.2.1 ∈ gx_F := gx_F_in (tb_1 (List.mem_of_getElem? (i := 71) (by decide +kernel))) rfl
theorem fd_WM_108 : gx_fd "WeighedMachines" 108 4 4 := ⟨_, _, _, rfl, (by decide), ly_Ma, Or.inl fk_WM_108⟩
theorem fk_WM_120 : Cond.fieldLink "WeighedMachines" 120 (TX_Ma 0).1 (TX_Ma 0).2.1 (TX_Ma 0).2.2.1 ∈ gx_F := gx_F_in (tb_1 (List.mem_of_getElem? (i := 42) (by decide +kernel))) rfl
theorem fd_WM_120 : gx_fd "WeighedMachines" 120 4 0 := ⟨_, _, _, rfl, (by decide), ly_Ma, Or.inl fk_WM_120⟩
theorem fk_WM_150 : Cond.fieldLink "WeighedMachines" 150 (TX_Ma 1).1 (TX_Ma 1).2.1 (TX_Ma 1).2.2.1 ∈ gx_F := gx_F_in (tb_1 (List.mem_of_getElem? (i := 53) (by decide +kernel))) rfl
theorem fd_WM_150 : gx_fd "WeighedMachines" 150 4 1 := ⟨_, _, _, rfl, (by decide), ly_Ma, Or.inl fk_WM_150⟩
theorem fk_WM_160 : Cond.fieldLink "WeighedMachines" 160 (TX_Ma 2).1 (TX_Ma 2).2.1 (TX_Ma 2).2.2.1 ∈ gx_F := gx_F_in (tb_1 (List.mem_of_getElem? (i := 60) (by decide +kernel))) rfl
theorem fd_WM_160 : gx_fd "WeighedMachines" 160 4 2 := ⟨_, _, _, rfl, (by decide), ly_Ma, Or.inl fk_WM_160⟩
theorem fk_WM_168 : Cond.fieldLink "WeighedMachines" 168 (TX_BP 0).1 (TX_BP 0).2.1 (TX_BP 0).2.2.1 ∈ gx_F := gx_F_in (tb_1 (List.mem_of_getElem? (i := 203) (by decide +kernel))) rfl
theorem fd_WM_168 : gx_fd "WeighedMachines" 168 1 0 := ⟨_, _, _, rfl, (by decide), ly_BP, Or.inl fk_WM_168⟩
theorem fk_WM_171 : Cond.fieldLink "WeighedMachines" 171 (TX_BP 1).1 (TX_BP 1).2.1 (TX_BP 1).2.2.1 ∈ gx_F := gx_F_in (tb_1 (List.mem_of_getElem? (i := 205) (by decide +kernel))) rfl
theorem fd_WM_171 : gx_fd "WeighedMachines" 171 1 1 := ⟨_, _, _, rfl, (by decide), ly_BP, Or.inl fk_WM_171⟩
theorem fk_WM_175 : Cond.fieldLink "WeighedMachines" 175 (TX_BP 2).1 (TX_BP 2).2.1 (TX_BP 2).2.2.1 ∈ gx_F := gx_F_in (tb_1 (List.mem_of_getElem? (i := 207) (by decide +kernel))) rfl
theorem fd_WM_175 : gx_fd "WeighedMachines" 175 1 2 := ⟨_, _, _, rfl, (by decide), ly_BP, Or.inl fk_WM_175⟩
theorem fk_WM_186 : Cond.fieldLink "WeighedMachines" 186 (TX_Ma 5).1 (TX_Ma 5).2.1 (TX_Ma 5).2.2.1 ∈ gx_F := gx_F_in (tb_1 (List.mem_of_getElem? (i := 81) (by decide +kernel))) rfl
theorem fd_WM_186 : gx_fd "WeighedMachines" 186 4 5 := ⟨_, _, _, rfl, (by decide), ly_Ma, Or.inl fk_WM_186⟩
theorem fk_WM_187 : Cond.fieldLink "WeighedMachines" 187 (TX_Ma 6).1 (TX_Ma 6).2.1 (TX_Ma 6).2.2.1 ∈ gx_F := gx_F_in (tb_1 (List.mem_of_getElem? (i := 90) (by decide +kernel))) rfl
theorem fd_WM_187 : gx_fd "WeighedMachines" 187 4 6 := ⟨_, _, _, rfl, (by decide), ly_Ma, Or.inl fk_WM_187⟩
theorem fk_WM_191 : Cond.fieldLink "WeighedMachines" 191 (TX_Te 0).1 (TX_Te 0).2.1 (TX_Te 0).2.2.1 ∈ gx_F := gx_F_in (tb_1 (List.mem_of_getElem? (i := 223) (by decide +kernel))) rfl
theorem fd_WM_191 : gx_fd "WeighedMachines" 191 8 0 := ⟨_, _, _, rfl, (by decide), ly_Te, Or.inl fk_WM_191⟩
theorem fw_WM_191 : gx_fw "WeighedMachines" 191 8 0 .int := ⟨_, _, _, ty_Te, rfl, (by decide), ly_Te, Or.inl fk_WM_191, tk_Te, nm_Te, rfl, rfl⟩
theorem fk_Ba_9 : Cond.fieldLink "WeighedMachines$Baring" 9 (TX_Ba 0).1 (TX_Ba 0).2.1 (TX_Ba 0).2.2.1 ∈ gx_F := gx_F_in (tb_1 (List.mem_of_getElem? (i := 133) (by decide +kernel))) rfl
theorem fd_Ba_9 : gx_fd "WeighedMachines$Baring" 9 0 0 := ⟨_, _, _, rfl, (by decide), ly_Ba, Or.inl fk_Ba_9⟩
theorem ff_Ba_9 : gx_ff "WeighedMachines$Baring" 9 0 0 (.array .long) := ⟨_, _, _, ty_Ba, rfl, (by decide), ly_Ba, fk_Ba_9, tk_Ba, nm_Ba, rfl, rfl, rfl⟩
theorem fk_Ba_15 : Cond.fieldLink "WeighedMachines$Baring" 15 (TX_Ma 0).1 (TX_Ma 0).2.1 (TX_Ma 0).2.2.1 ∈ gx_F := gx_F_in (tb_1 (List.mem_of_getElem? (i := 37) (by decide +kernel))) rfl
theorem fd_Ba_15 : gx_fd "WeighedMachines$Baring" 15 4 0 := ⟨_, _, _, rfl, (by decide), ly_Ma, Or.inl fk_Ba_15⟩
theorem fk_Ba_25 : Cond.fieldLink "WeighedMachines$Baring" 25 (TX_Ma 1).1 (TX_Ma 1).2.1 (TX_Ma 1).2.2.1 ∈ gx_F := gx_F_in (tb_1 (List.mem_of_getElem? (i := 47) (by decide +kernel))) rfl
theorem fd_Ba_25 : gx_fd "WeighedMachines$Baring" 25 4 1 := ⟨_, _, _, rfl, (by decide), ly_Ma, Or.inl fk_Ba_25⟩
theorem fk_Ba_28 : Cond.fieldLink "WeighedMachines$Baring" 28 (TX_Ma 2).1 (TX_Ma 2).2.1 (TX_Ma 2).2.2.1 ∈ gx_F := gx_F_in (tb_1 (List.mem_of_getElem? (i := 55) (by decide +kernel))) rfl
theorem fd_Ba_28 : gx_fd "WeighedMachines$Baring" 28 4 2 := ⟨_, _, _, rfl, (by decide), ly_Ma, Or.inl fk_Ba_28⟩
theorem fk_Ba_69 : Cond.fieldLink "WeighedMachines$Baring" 69 (TX_Ma 4).1 (TX_Ma 4).2.1 (TX_Ma 4).2.2.1 ∈ gx_F := gx_F_in (tb_1 (List.mem_of_getElem? (i := 68) (by decide +kernel))) rfl
theorem fd_Ba_69 : gx_fd "WeighedMachines$Baring" 69 4 4 := ⟨_, _, _, rfl, (by decide), ly_Ma, Or.inl fk_Ba_69⟩
theorem fk_Ba_72 : Cond.fieldLink "WeighedMachines$Baring" 72 (TX_Ma 5).1 (TX_Ma 5).2.1 (TX_Ma 5).2.2.1 ∈ gx_F := gx_F_in (tb_1 (List.mem_of_getElem? (i := 76) (by decide +kernel))) rfl
theorem fd_Ba_72 : gx_fd "WeighedMachines$Baring" 72 4 5 := ⟨_, _, _, rfl, (by decide), ly_Ma, Or.inl fk_Ba_72⟩
theorem fk_Ba_90 : Cond.fieldLink "WeighedMachines$Baring" 90 (TX_Ma 6).1 (TX_Ma 6).2.1 (TX_Ma 6).2.2.1 ∈ gx_F := gx_F_in (tb_1 (List.mem_of_getElem? (i := 85) (by decide +kernel))) rfl
theorem fd_Ba_90 : gx_fd "WeighedMachines$Baring" 90 4 6 := ⟨_, _, _, rfl, (by decide), ly_Ma, Or.inl fk_Ba_90⟩
theorem fk_BP_9 : Cond.fieldLink "WeighedMachines$BestPath" 9 (TX_BP 1).1 (TX_BP 1).2.1 (TX_BP 1).2.2.1 ∈ gx_F := gx_F_in (tb_1 (List.mem_of_getElem? (i := 204) (by decide +kernel))) rfl
theorem fd_BP_9 : gx_fd "WeighedMachines$BestPath" 9 1 1 := ⟨_, _, _, rfl, (by decide), ly_BP, Or.inl fk_BP_9⟩
theorem ff_BP_9 : gx_ff "WeighedMachines$BestPath" 9 1 1 (.array .int) := ⟨_, _, _, ty_BP, rfl, (by decide), ly_BP, fk_BP_9, tk_BP, nm_BP, rfl, rfl, rfl⟩
theorem fk_BP_15 : Cond.fieldLink "WeighedMachines$BestPath" 15 (TX_BP 2).1 (TX_BP 2).2.1 (TX_BP 2).2.2.1 ∈ gx_F := gx_F_in (tb_1 (List.mem_of_getElem? (i := 206) (by decide +kernel))) rfl
theorem fd_BP_15 : gx_fd "WeighedMachines$BestPath" 15 1 2 := ⟨_, _, _, rfl, (by decide), ly_BP, Or.inl fk_BP_15⟩
theorem ff_BP_15 : gx_ff "WeighedMachines$BestPath" 15 1 2 (.array .long) := ⟨_, _, _, ty_BP, rfl, (by decide), ly_BP, fk_BP_15, tk_BP, nm_BP, rfl, rfl, rfl⟩
theorem fk_BP_19 : Cond.fieldLink "WeighedMachines$BestPath" 19 (TX_Ma 1).1 (TX_Ma 1).2.1 (TX_Ma 1).2.2.1 ∈ gx_F := gx_F_in (tb_1 (List.mem_of_getElem? (i := 46) (by decide +kernel))) rfl
theorem fd_BP_19 : gx_fd "WeighedMachines$BestPath" 19 4 1 := ⟨_, _, _, rfl, (by decide), ly_Ma, Or.inl fk_BP_19⟩
theorem fk_BP_37 : Cond.fieldLink "WeighedMachines$BestPath" 37 (TX_BP 0).1 (TX_BP 0).2.1 (TX_BP 0).2.2.1 ∈ gx_F := gx_F_in (tb_1 (List.mem_of_getElem? (i := 202) (by decide +kernel))) rfl
theorem fd_BP_37 : gx_fd "WeighedMachines$BestPath" 37 1 0 := ⟨_, _, _, rfl, (by decide), ly_BP, Or.inl fk_BP_37⟩
theorem fw_BP_37 : gx_fw "WeighedMachines$BestPath" 37 1 0 .int := ⟨_, _, _, ty_BP, rfl, (by decide), ly_BP, Or.inl fk_BP_37, tk_BP, nm_BP, rfl, rfl⟩
theorem fk_BP_44 : Cond.fieldLink "WeighedMachines$BestPath" 44 (TX_Ma 5).1 (TX_Ma 5).2.1 (TX_Ma 5).2.2.1 ∈ gx_F := gx_F_in (tb_1 (List.mem_of_getElem? (i := 74) (by decide +kernel))) rfl
theorem fd_BP_44 : gx_fd "WeighedMachines$BestPath" 44 4 5 := ⟨_, _, _, rfl, (by decide), ly_Ma, Or.inl fk_BP_44⟩
theorem fk_BP_45 : Cond.fieldLink "WeighedMachines$BestPath" 45 (TX_Ma 6).1 (TX_Ma 6).2.1 (TX_Ma 6).2.2.1 ∈ gx_F := gx_F_in (tb_1 (List.mem_of_getElem? (i := 83) (by decide +kernel))) rfl
theorem fd_BP_45 : gx_fd "WeighedMachines$BestPath" 45 4 6 := ⟨_, _, _, rfl, (by decide), ly_Ma, Or.inl fk_BP_45⟩
theorem fk_Co_9 : Cond.fieldLink "WeighedMachines$Composing" 9 (TX_Co 3).1 (TX_Co 3).2.1 (TX_Co 3).2.2.1 ∈ gx_F := gx_F_in (tb_1 (List.mem_of_getElem? (i := 117) (by decide +kernel))) rfl
theorem fd_Co_9 : gx_fd "WeighedMachines$Composing" 9 2 3 := ⟨_, _, _, rfl, (by decide), ly_Co, Or.inl fk_Co_9⟩
theorem ff_Co_9 : gx_ff "WeighedMachines$Composing" 9 2 3 (.array .int) := ⟨_, _, _, ty_Co, rfl, (by decide), ly_Co, fk_Co_9, tk_Co, nm_Co, rfl, rfl, rfl⟩
theorem fk_Co_15 : Cond.fieldLink "WeighedMachines$Composing" 15 (TX_Co 0).1 (TX_Co 0).2.1 (TX_Co 0).2.2.1 ∈ gx_F := gx_F_in (tb_1 (List.mem_of_getElem? (i := 114) (by decide +kernel))) rfl
theorem fd_Co_15 : gx_fd "WeighedMachines$Composing" 15 2 0 := ⟨_, _, _, rfl, (by decide), ly_Co, Or.inl fk_Co_15⟩
theorem fw_Co_15 : gx_fw "WeighedMachines$Composing" 15 2 0 (.object "WeighedMachines$Machine") := ⟨_, _, _, ty_Co, rfl, (by decide), ly_Co, Or.inl fk_Co_15, tk_Co, nm_Co, rfl, rfl⟩
theorem fk_Co_19 : Cond.fieldLink "WeighedMachines$Composing" 19 (TX_Co 1).1 (TX_Co 1).2.1 (TX_Co 1).2.2.1 ∈ gx_F := gx_F_in (tb_1 (List.mem_of_getElem? (i := 115) (by decide +kernel))) rfl
theorem fd_Co_19 : gx_fd "WeighedMachines$Composing" 19 2 1 := ⟨_, _, _, rfl, (by decide), ly_Co, Or.inl fk_Co_19⟩
theorem fw_Co_19 : gx_fw "WeighedMachines$Composing" 19 2 1 (.object "WeighedMachines$Machine") := ⟨_, _, _, ty_Co, rfl, (by decide), ly_Co, Or.inl fk_Co_19, tk_Co, nm_Co, rfl, rfl⟩
theorem fk_Co_22 : Cond.fieldLink "WeighedMachines$Composing" 22 (TX_Co 2).1 (TX_Co 2).2.1 (TX_Co 2).2.2.1 ∈ gx_F := gx_F_in (tb_1 (List.mem_of_getElem? (i := 116) (by decide +kernel))) rfl
theorem fd_Co_22 : gx_fd "WeighedMachines$Composing" 22 2 2 := ⟨_, _, _, rfl, (by decide), ly_Co, Or.inl fk_Co_22⟩
theorem fw_Co_22 : gx_fw "WeighedMachines$Composing" 22 2 2 (.object "WeighedMachines$Machine") := ⟨_, _, _, ty_Co, rfl, (by decide), ly_Co, Or.inl fk_Co_22, tk_Co, nm_Co, rfl, rfl⟩
theorem fk_Co_31 : Cond.fieldLink "WeighedMachines$Composing" 31 (TX_Ma 1).1 (TX_Ma 1).2.1 (TX_Ma 1).2.2.1 ∈ gx_F := gx_F_in (tb_1 (List.mem_of_getElem? (i := 49) (by decide +kernel))) rfl
theorem fd_Co_31 : gx_fd "WeighedMachines$Composing" 31 4 1 := ⟨_, _, _, rfl, (by decide), ly_Ma, Or.inl fk_Co_31⟩
theorem fk_Co_43 : Cond.fieldLink "WeighedMachines$Composing" 43 (TX_Ma 2).1 (TX_Ma 2).2.1 (TX_Ma 2).2.2.1 ∈ gx_F := gx_F_in (tb_1 (List.mem_of_getElem? (i := 57) (by decide +kernel))) rfl
theorem fd_Co_43 : gx_fd "WeighedMachines$Composing" 43 4 2 := ⟨_, _, _, rfl, (by decide), ly_Ma, Or.inl fk_Co_43⟩
theorem fk_Co_51 : Cond.fieldLink "WeighedMachines$Composing" 51 (TX_Ma 0).1 (TX_Ma 0).2.1 (TX_Ma 0).2.2.1 ∈ gx_F := gx_F_in (tb_1 (List.mem_of_getElem? (i := 40) (by decide +kernel))) rfl
theorem fd_Co_51 : gx_fd "WeighedMachines$Composing" 51 4 0 := ⟨_, _, _, rfl, (by decide), ly_Ma, Or.inl fk_Co_51⟩
theorem fw_Co_51 : gx_fw "WeighedMachines$Composing" 51 4 0 .int := ⟨_, _, _, ty_Ma, rfl, (by decide), ly_Ma, Or.inl fk_Co_51, tk_Ma, nm_Ma, rfl, rfl⟩
theorem fk_Co_82 : Cond.fieldLink "WeighedMachines$Composing" 82 (TX_Ma 5).1 (TX_Ma 5).2.1 (TX_Ma 5).2.2.1 ∈ gx_F := gx_F_in (tb_1 (List.mem_of_getElem? (i := 79) (by decide +kernel))) rfl
theorem fd_Co_82 : gx_fd "WeighedMachines$Composing" 82 4 5 := ⟨_, _, _, rfl, (by decide), ly_Ma, Or.inl fk_Co_82⟩
theorem fk_Co_98 : Cond.fieldLink "WeighedMachines$Composing" 98 (TX_Ma 6).1 (TX_Ma 6).2.1 (TX_Ma 6).2.2.1 ∈ gx_F := gx_F_in (tb_1 (List.mem_of_getElem? (i := 88) (by decide +kernel))) rfl
theorem fd_Co_98 : gx_fd "WeighedMachines$Composing" 98 4 6 := ⟨_, _, _, rfl, (by decide), ly_Ma, Or.inl fk_Co_98⟩
theorem fk_De_9 : Cond.fieldLink "WeighedMachines$Determining" 9 (TX_De 2).1 (TX_De 2).2.1 (TX_De 2).2.2.1 ∈ gx_F := gx_F_in (tb_1 (List.mem_of_getElem? (i := 145) (by decide +kernel))) rfl
theorem fd_De_9 : gx_fd "WeighedMachines$Determining" 9 3 2 := ⟨_, _, _, rfl, (by decide), ly_De, Or.inl fk_De_9⟩
theorem ff_De_9 : gx_ff "WeighedMachines$Determining" 9 3 2 (.array .long) := ⟨_, _, _, ty_De, rfl, (by decide), ly_De, fk_De_9, tk_De, nm_De, rfl, rfl, rfl⟩
theorem fk_De_15 : Cond.fieldLink "WeighedMachines$Determining" 15 (TX_De 3).1 (TX_De 3).2.1 (TX_De 3).2.2.1 ∈ gx_F := gx_F_in (tb_1 (List.mem_of_getElem? (i := 146) (by decide +kernel))) rfl
theorem fd_De_15 : gx_fd "WeighedMachines$Determining" 15 3 3 := ⟨_, _, _, rfl, (by decide), ly_De, Or.inl fk_De_15⟩
theorem ff_De_15 : gx_ff "WeighedMachines$Determining" 15 3 3 (.array .long) := ⟨_, _, _, ty_De, rfl, (by decide), ly_De, fk_De_15, tk_De, nm_De, rfl, rfl, rfl⟩
theorem fk_De_18 : Cond.fieldLink "WeighedMachines$Determining" 18 (TX_De 0).1 (TX_De 0).2.1 (TX_De 0).2.2.1 ∈ gx_F := gx_F_in (tb_1 (List.mem_of_getElem? (i := 143) (by decide +kernel))) rfl
theorem fd_De_18 : gx_fd "WeighedMachines$Determining" 18 3 0 := ⟨_, _, _, rfl, (by decide), ly_De, Or.inl fk_De_18⟩
theorem fw_De_18 : gx_fw "WeighedMachines$Determining" 18 3 0 (.object "WeighedMachines$Machine") := ⟨_, _, _, ty_De, rfl, (by decide), ly_De, Or.inl fk_De_18, tk_De, nm_De, rfl, rfl⟩
theorem fk_De_22 : Cond.fieldLink "WeighedMachines$Determining" 22 (TX_De 1).1 (TX_De 1).2.1 (TX_De 1).2.2.1 ∈ gx_F := gx_F_in (tb_1 (List.mem_of_getElem? (i := 144) (by decide +kernel))) rfl
theorem fd_De_22 : gx_fd "WeighedMachines$Determining" 22 3 1 := ⟨_, _, _, rfl, (by decide), ly_De, Or.inl fk_De_22⟩
theorem fw_De_22 : gx_fw "WeighedMachines$Determining" 22 3 1 (.object "WeighedMachines$Machine") := ⟨_, _, _, ty_De, rfl, (by decide), ly_De, Or.inl fk_De_22, tk_De, nm_De, rfl, rfl⟩
theorem fk_De_31 : Cond.fieldLink "WeighedMachines$Determining" 31 (TX_Ma 1).1 (TX_Ma 1).2.1 (TX_Ma 1).2.2.1 ∈ gx_F := gx_F_in (tb_1 (List.mem_of_getElem? (i := 48) (by decide +kernel))) rfl
theorem fd_De_31 : gx_fd "WeighedMachines$Determining" 31 4 1 := ⟨_, _, _, rfl, (by decide), ly_Ma, Or.inl fk_De_31⟩
theorem fk_De_47 : Cond.fieldLink "WeighedMachines$Determining" 47 (TX_Ma 2).1 (TX_Ma 2).2.1 (TX_Ma 2).2.2.1 ∈ gx_F := gx_F_in (tb_1 (List.mem_of_getElem? (i := 56) (by decide +kernel))) rfl
theorem fd_De_47 : gx_fd "WeighedMachines$Determining" 47 4 2 := ⟨_, _, _, rfl, (by decide), ly_Ma, Or.inl fk_De_47⟩
theorem fk_De_55 : Cond.fieldLink "WeighedMachines$Determining" 55 (TX_Ma 0).1 (TX_Ma 0).2.1 (TX_Ma 0).2.2.1 ∈ gx_F := gx_F_in (tb_1 (List.mem_of_getElem? (i := 39) (by decide +kernel))) rfl
theorem fd_De_55 : gx_fd "WeighedMachines$Determining" 55 4 0 := ⟨_, _, _, rfl, (by decide), ly_Ma, Or.inl fk_De_55⟩
theorem fw_De_55 : gx_fw "WeighedMachines$Determining" 55 4 0 .int := ⟨_, _, _, ty_Ma, rfl, (by decide), ly_Ma, Or.inl fk_De_55, tk_Ma, nm_Ma, rfl, rfl⟩
theorem fk_De_94 : Cond.fieldLink "WeighedMachines$Determining" 94 (TX_Ma 4).1 (TX_Ma 4).2.1 (TX_Ma 4).2.2.1 ∈ gx_F := gx_F_in (tb_1 (List.mem_of_getElem? (i := 70) (by decide +kernel))) rfl
theorem fd_De_94 : gx_fd "WeighedMachines$Determining" 94 4 4 := ⟨_, _, _, rfl, (by decide), ly_Ma, Or.inl fk_De_94⟩
theorem fk_De_97 : Cond.fieldLink "WeighedMachines$Determining" 97 (TX_Ma 5).1 (TX_Ma 5).2.1 (TX_Ma 5).2.2.1 ∈ gx_F := gx_F_in (tb_1 (List.mem_of_getElem? (i := 78) (by decide +kernel))) rfl
theorem fd_De_97 : gx_fd "WeighedMachines$Determining" 97 4 5 := ⟨_, _, _, rfl, (by decide), ly_Ma, Or.inl fk_De_97⟩
theorem fk_De_105 : Cond.fieldLink "WeighedMachines$Determining" 105 (TX_Ma 6).1 (TX_Ma 6).2.1 (TX_Ma 6).2.2.1 ∈ gx_F := gx_F_in (tb_1 (List.mem_of_getElem? (i := 87) (by decide +kernel))) rfl
theorem fd_De_105 : gx_fd "WeighedMachines$Determining" 105 4 6 := ⟨_, _, _, rfl, (by decide), ly_Ma, Or.inl fk_De_105⟩
theorem fk_Ma_9 : Cond.fieldLink "WeighedMachines$Machine" 9 (TX_Ma 1).1 (TX_Ma 1).2.1 (TX_Ma 1).2.2.1 ∈ gx_F := gx_F_in (tb_1 (List.mem_of_getElem? (i := 45) (by decide +kernel))) rfl
theorem fd_Ma_9 : gx_fd "WeighedMachines$Machine" 9 4 1 := ⟨_, _, _, rfl, (by decide), ly_Ma, Or.inl fk_Ma_9⟩
theorem fw_Ma_9 : gx_fw "WeighedMachines$Machine" 9 4 1 .int := ⟨_, _, _, ty_Ma, rfl, (by decide), ly_Ma, Or.inl fk_Ma_9, tk_Ma, nm_Ma, rfl, rfl⟩
theorem fk_Ma_15 : Cond.fieldLink "WeighedMachines$Machine" 15 (TX_Ma 3).1 (TX_Ma 3).2.1 (TX_Ma 3).2.2.1 ∈ gx_F := gx_F_in (tb_1 (List.mem_of_getElem? (i := 61) (by decide +kernel))) rfl
theorem fd_Ma_15 : gx_fd "WeighedMachines$Machine" 15 4 3 := ⟨_, _, _, rfl, (by decide), ly_Ma, Or.inl fk_Ma_15⟩
theorem ff_Ma_15 : gx_ff "WeighedMachines$Machine" 15 4 3 (.array .long) := ⟨_, _, _, ty_Ma, rfl, (by decide), ly_Ma, fk_Ma_15, tk_Ma, nm_Ma, rfl, rfl, rfl⟩
theorem fk_Ma_27 : Cond.fieldLink "WeighedMachines$Machine" 27 (TX_Ma 5).1 (TX_Ma 5).2.1 (TX_Ma 5).2.2.1 ∈ gx_F := gx_F_in (tb_1 (List.mem_of_getElem? (i := 73) (by decide +kernel))) rfl
theorem fd_Ma_27 : gx_fd "WeighedMachines$Machine" 27 4 5 := ⟨_, _, _, rfl, (by decide), ly_Ma, Or.inl fk_Ma_27⟩
theorem ff_Ma_27 : gx_ff "WeighedMachines$Machine" 27 4 5 (.array .int) := ⟨_, _, _, ty_Ma, rfl, (by decide), ly_Ma, fk_Ma_27, tk_Ma, nm_Ma, rfl, rfl, rfl⟩
theorem fk_Ma_31 : Cond.fieldLink "WeighedMachines$Machine" 31 (TX_Ma 6).1 (TX_Ma 6).2.1 (TX_Ma 6).2.2.1 ∈ gx_F := gx_F_in (tb_1 (List.mem_of_getElem? (i := 82) (by decide +kernel))) rfl
theorem fd_Ma_31 : gx_fd "WeighedMachines$Machine" 31 4 6 := ⟨_, _, _, rfl, (by decide), ly_Ma, Or.inl fk_Ma_31⟩
theorem ff_Ma_31 : gx_ff "WeighedMachines$Machine" 31 4 6 (.array .long) := ⟨_, _, _, ty_Ma, rfl, (by decide), ly_Ma, fk_Ma_31, tk_Ma, nm_Ma, rfl, rfl, rfl⟩
theorem fk_Ma_34 : Cond.fieldLink "WeighedMachines$Machine" 34 (TX_Ma 0).1 (TX_Ma 0).2.1 (TX_Ma 0).2.2.1 ∈ gx_F := gx_F_in (tb_1 (List.mem_of_getElem? (i := 36) (by decide +kernel))) rfl
theorem fd_Ma_34 : gx_fd "WeighedMachines$Machine" 34 4 0 := ⟨_, _, _, rfl, (by decide), ly_Ma, Or.inl fk_Ma_34⟩
theorem fw_Ma_34 : gx_fw "WeighedMachines$Machine" 34 4 0 .int := ⟨_, _, _, ty_Ma, rfl, (by decide), ly_Ma, Or.inl fk_Ma_34, tk_Ma, nm_Ma, rfl, rfl⟩
theorem fk_Ma_37 : Cond.fieldLink "WeighedMachines$Machine" 37 (TX_Ma 2).1 (TX_Ma 2).2.1 (TX_Ma 2).2.2.1 ∈ gx_F := gx_F_in (tb_1 (List.mem_of_getElem? (i := 54) (by decide +kernel))) rfl
theorem fd_Ma_37 : gx_fd "WeighedMachines$Machine" 37 4 2 := ⟨_, _, _, rfl, (by decide), ly_Ma, Or.inl fk_Ma_37⟩
theorem fw_Ma_37 : gx_fw "WeighedMachines$Machine" 37 4 2 .long := ⟨_, _, _, ty_Ma, rfl, (by decide), ly_Ma, Or.inl fk_Ma_37, tk_Ma, nm_Ma, rfl, rfl⟩
theorem fk_Ma_41 : Cond.fieldLink "WeighedMachines$Machine" 41 (TX_Ma 4).1 (TX_Ma 4).2.1 (TX_Ma 4).2.2.1 ∈ gx_F := gx_F_in (tb_1 (List.mem_of_getElem? (i := 66) (by decide +kernel))) rfl
theorem fd_Ma_41 : gx_fd "WeighedMachines$Machine" 41 4 4 := ⟨_, _, _, rfl, (by decide), ly_Ma, Or.inl fk_Ma_41⟩
theorem fw_Ma_41 : gx_fw "WeighedMachines$Machine" 41 4 4 .int := ⟨_, _, _, ty_Ma, rfl, (by decide), ly_Ma, Or.inl fk_Ma_41, tk_Ma, nm_Ma, rfl, rfl⟩
theorem fk_On_9 : Cond.fieldLink "WeighedMachines$Onward" 9 (TX_On 0).1 (TX_On 0).2.1 (TX_On 0).2.2.1 ∈ gx_F := gx_F_in (tb_1 (List.mem_of_getElem? (i := 162) (by decide +kernel))) rfl
theorem fd_On_9 : gx_fd "WeighedMachines$Onward" 9 5 0 := ⟨_, _, _, rfl, (by decide), ly_On, Or.inl fk_On_9⟩
theorem ff_On_9 : gx_ff "WeighedMachines$Onward" 9 5 0 (.array .long) := ⟨_, _, _, ty_On, rfl, (by decide), ly_On, fk_On_9, tk_On, nm_On, rfl, rfl, rfl⟩
theorem fk_On_15 : Cond.fieldLink "WeighedMachines$Onward" 15 (TX_Ma 0).1 (TX_Ma 0).2.1 (TX_Ma 0).2.2.1 ∈ gx_F := gx_F_in (tb_1 (List.mem_of_getElem? (i := 38) (by decide +kernel))) rfl
theorem fd_On_15 : gx_fd "WeighedMachines$Onward" 15 4 0 := ⟨_, _, _, rfl, (by decide), ly_Ma, Or.inl fk_On_15⟩
theorem fk_On_21 : Cond.fieldLink "WeighedMachines$Onward" 21 (TX_Ma 3).1 (TX_Ma 3).2.1 (TX_Ma 3).2.2.1 ∈ gx_F := gx_F_in (tb_1 (List.mem_of_getElem? (i := 62) (by decide +kernel))) rfl
theorem fd_On_21 : gx_fd "WeighedMachines$Onward" 21 4 3 := ⟨_, _, _, rfl, (by decide), ly_Ma, Or.inl fk_On_21⟩
theorem fk_On_30 : Cond.fieldLink "WeighedMachines$Onward" 30 (TX_Ma 4).1 (TX_Ma 4).2.1 (TX_Ma 4).2.2.1 ∈ gx_F := gx_F_in (tb_1 (List.mem_of_getElem? (i := 67) (by decide +kernel))) rfl
theorem fd_On_30 : gx_fd "WeighedMachines$Onward" 30 4 4 := ⟨_, _, _, rfl, (by decide), ly_Ma, Or.inl fk_On_30⟩
theorem fk_On_37 : Cond.fieldLink "WeighedMachines$Onward" 37 (TX_Ma 5).1 (TX_Ma 5).2.1 (TX_Ma 5).2.2.1 ∈ gx_F := gx_F_in (tb_1 (List.mem_of_getElem? (i := 75) (by decide +kernel))) rfl
theorem fd_On_37 : gx_fd "WeighedMachines$Onward" 37 4 5 := ⟨_, _, _, rfl, (by decide), ly_Ma, Or.inl fk_On_37⟩
theorem fk_On_48 : Cond.fieldLink "WeighedMachines$Onward" 48 (TX_Ma 6).1 (TX_Ma 6).2.1 (TX_Ma 6).2.2.1 ∈ gx_F := gx_F_in (tb_1 (List.mem_of_getElem? (i := 84) (by decide +kernel))) rfl
theorem fd_On_48 : gx_fd "WeighedMachines$Onward" 48 4 6 := ⟨_, _, _, rfl, (by decide), ly_Ma, Or.inl fk_On_48⟩
theorem fk_Pa_9 : Cond.fieldLink "WeighedMachines$Parsing" 9 (TX_Pa 0).1 (TX_Pa 0).2.1 (TX_Pa 0).2.2.1 ∈ gx_F := gx_F_in (tb_1 (List.mem_of_getElem? (i := 237) (by decide +kernel))) rfl
theorem fd_Pa_9 : gx_fd "WeighedMachines$Parsing" 9 6 0 := ⟨_, _, _, rfl, (by decide), ly_Pa, Or.inl fk_Pa_9⟩
theorem fw_Pa_9 : gx_fw "WeighedMachines$Parsing" 9 6 0 (.object "WeighedMachines$Text") := ⟨_, _, _, ty_Pa, rfl, (by decide), ly_Pa, Or.inl fk_Pa_9, tk_Pa, nm_Pa, rfl, rfl⟩
theorem fk_Pa_15 : Cond.fieldLink "WeighedMachines$Parsing" 15 (TX_Pa 1).1 (TX_Pa 1).2.1 (TX_Pa 1).2.2.1 ∈ gx_F := gx_F_in (tb_1 (List.mem_of_getElem? (i := 238) (by decide +kernel))) rfl
theorem fd_Pa_15 : gx_fd "WeighedMachines$Parsing" 15 6 1 := ⟨_, _, _, rfl, (by decide), ly_Pa, Or.inl fk_Pa_15⟩
theorem fw_Pa_15 : gx_fw "WeighedMachines$Parsing" 15 6 1 (.object "WeighedMachines$Machine") := ⟨_, _, _, ty_Pa, rfl, (by decide), ly_Pa, Or.inl fk_Pa_15, tk_Pa, nm_Pa, rfl, rfl⟩
theorem fk_Pa_19 : Cond.fieldLink "WeighedMachines$Parsing" 19 (TX_Pa 2).1 (TX_Pa 2).2.1 (TX_Pa 2).2.2.1 ∈ gx_F := gx_F_in (tb_1 (List.mem_of_getElem? (i := 239) (by decide +kernel))) rfl
theorem fd_Pa_19 : gx_fd "WeighedMachines$Parsing" 19 6 2 := ⟨_, _, _, rfl, (by decide), ly_Pa, Or.inl fk_Pa_19⟩
theorem fw_Pa_19 : gx_fw "WeighedMachines$Parsing" 19 6 2 .int := ⟨_, _, _, ty_Pa, rfl, (by decide), ly_Pa, Or.inl fk_Pa_19, tk_Pa, nm_Pa, rfl, rfl⟩
theorem fk_Pa_27 : Cond.fieldLink "WeighedMachines$Parsing" 27 (TX_Te 0).1 (TX_Te 0).2.1 (TX_Te 0).2.2.1 ∈ gx_F := gx_F_in (tb_1 (List.mem_of_getElem? (i := 222) (by decide +kernel))) rfl
theorem fd_Pa_27 : gx_fd "WeighedMachines$Parsing" 27 8 0 := ⟨_, _, _, rfl, (by decide), ly_Te, Or.inl fk_Pa_27⟩
theorem fk_Pa_45 : Cond.fieldLink "WeighedMachines$Parsing" 45 (TX_Pa 3).1 (TX_Pa 3).2.1 (TX_Pa 3).2.2.1 ∈ gx_F := gx_F_in (tb_2 (List.mem_of_getElem? (i := 0) (by decide +kernel))) rfl
theorem fd_Pa_45 : gx_fd "WeighedMachines$Parsing" 45 6 3 := ⟨_, _, _, rfl, (by decide), ly_Pa, Or.inl fk_Pa_45⟩
theorem fw_Pa_45 : gx_fw "WeighedMachines$Parsing" 45 6 3 .long := ⟨_, _, _, ty_Pa, rfl, (by decide), ly_Pa, Or.inl fk_Pa_45, tk_Pa, nm_Pa, rfl, rfl⟩
theorem fk_Pa_71 : Cond.fieldLink "WeighedMachines$Parsing" 71 (TX_Ma 1).1 (TX_Ma 1).2.1 (TX_Ma 1).2.2.1 ∈ gx_F := gx_F_in (tb_1 (List.mem_of_getElem? (i := 51) (by decide +kernel))) rfl
theorem fd_Pa_71 : gx_fd "WeighedMachines$Parsing" 71 4 1 := ⟨_, _, _, rfl, (by decide), ly_Ma, Or.inl fk_Pa_71⟩
theorem fk_Pa_81 : Cond.fieldLink "WeighedMachines$Parsing" 81 (TX_Ma 3).1 (TX_Ma 3).2.1 (TX_Ma 3).2.2.1 ∈ gx_F := gx_F_in (tb_1 (List.mem_of_getElem? (i := 64) (by decide +kernel))) rfl
theorem fd_Pa_81 : gx_fd "WeighedMachines$Parsing" 81 4 3 := ⟨_, _, _, rfl, (by decide), ly_Ma, Or.inl fk_Pa_81⟩
theorem fk_Pa_102 : Cond.fieldLink "WeighedMachines$Parsing" 102 (TX_Ma 0).1 (TX_Ma 0).2.1 (TX_Ma 0).2.2.1 ∈ gx_F := gx_F_in (tb_1 (List.mem_of_getElem? (i := 43) (by decide +kernel))) rfl
theorem fd_Pa_102 : gx_fd "WeighedMachines$Parsing" 102 4 0 := ⟨_, _, _, rfl, (by decide), ly_Ma, Or.inl fk_Pa_102⟩
theorem fk_Ro_9 : Cond.fieldLink "WeighedMachines$Row" 9 (TX_Ro 1).1 (TX_Ro 1).2.1 (TX_Ro 1).2.2.1 ∈ gx_F := gx_F_in (tb_1 (List.mem_of_getElem? (i := 180) (by decide +kernel))) rfl
theorem fd_Ro_9 : gx_fd "WeighedMachines$Row" 9 7 1 := ⟨_, _, _, rfl, (by decide), ly_Ro, Or.inl fk_Ro_9⟩
theorem ff_Ro_9 : gx_ff "WeighedMachines$Row" 9 7 1 (.array .int) := ⟨_, _, _, ty_Ro, rfl, (by decide), ly_Ro, fk_Ro_9, tk_Ro, nm_Ro, rfl, rfl, rfl⟩
theorem fk_Ro_15 : Cond.fieldLink "WeighedMachines$Row" 15 (TX_Ro 0).1 (TX_Ro 0).2.1 (TX_Ro 0).2.2.1 ∈ gx_F := gx_F_in (tb_1 (List.mem_of_getElem? (i := 178) (by decide +kernel))) rfl
theorem fd_Ro_15 : gx_fd "WeighedMachines$Row" 15 7 0 := ⟨_, _, _, rfl, (by decide), ly_Ro, Or.inl fk_Ro_15⟩
theorem fw_Ro_15 : gx_fw "WeighedMachines$Row" 15 7 0 .int := ⟨_, _, _, ty_Ro, rfl, (by decide), ly_Ro, Or.inl fk_Ro_15, tk_Ro, nm_Ro, rfl, rfl⟩
theorem fk_Te_9 : Cond.fieldLink "WeighedMachines$Text" 9 (TX_Te 1).1 (TX_Te 1).2.1 (TX_Te 1).2.2.1 ∈ gx_F := gx_F_in (tb_1 (List.mem_of_getElem? (i := 224) (by decide +kernel))) rfl
theorem fd_Te_9 : gx_fd "WeighedMachines$Text" 9 8 1 := ⟨_, _, _, rfl, (by decide), ly_Te, Or.inl fk_Te_9⟩
theorem ff_Te_9 : gx_ff "WeighedMachines$Text" 9 8 1 (.array .char) := ⟨_, _, _, ty_Te, rfl, (by decide), ly_Te, fk_Te_9, tk_Te, nm_Te, rfl, rfl, rfl⟩
theorem fk_Te_15 : Cond.fieldLink "WeighedMachines$Text" 15 (TX_Te 0).1 (TX_Te 0).2.1 (TX_Te 0).2.2.1 ∈ gx_F := gx_F_in (tb_1 (List.mem_of_getElem? (i := 221) (by decide +kernel))) rfl
theorem fd_Te_15 : gx_fd "WeighedMachines$Text" 15 8 0 := ⟨_, _, _, rfl, (by decide), ly_Te, Or.inl fk_Te_15⟩
theorem fw_Te_15 : gx_fw "WeighedMachines$Text" 15 8 0 .int := ⟨_, _, _, ty_Te, rfl, (by decide), ly_Te, Or.inl fk_Te_15, tk_Te, nm_Te, rfl, rfl⟩
theorem fk_Te_45 : Cond.fieldLink "WeighedMachines$Text" 45 (TX_Ma 0).1 (TX_Ma 0).2.1 (TX_Ma 0).2.2.1 ∈ gx_F := gx_F_in (tb_1 (List.mem_of_getElem? (i := 44) (by decide +kernel))) rfl
theorem fd_Te_45 : gx_fd "WeighedMachines$Text" 45 4 0 := ⟨_, _, _, rfl, (by decide), ly_Ma, Or.inl fk_Te_45⟩
theorem fk_Te_50 : Cond.fieldLink "WeighedMachines$Text" 50 (TX_Ma 1).1 (TX_Ma 1).2.1 (TX_Ma 1).2.2.1 ∈ gx_F := gx_F_in (tb_1 (List.mem_of_getElem? (i := 52) (by decide +kernel))) rfl
theorem fd_Te_50 : gx_fd "WeighedMachines$Text" 50 4 1 := ⟨_, _, _, rfl, (by decide), ly_Ma, Or.inl fk_Te_50⟩
theorem fk_Te_53 : Cond.fieldLink "WeighedMachines$Text" 53 (TX_Ma 2).1 (TX_Ma 2).2.1 (TX_Ma 2).2.2.1 ∈ gx_F := gx_F_in (tb_1 (List.mem_of_getElem? (i := 59) (by decide +kernel))) rfl
theorem fd_Te_53 : gx_fd "WeighedMachines$Text" 53 4 2 := ⟨_, _, _, rfl, (by decide), ly_Ma, Or.inl fk_Te_53⟩
theorem fk_Te_61 : Cond.fieldLink "WeighedMachines$Text" 61 (TX_Ma 3).1 (TX_Ma 3).2.1 (TX_Ma 3).2.2.1 ∈ gx_F := gx_F_in (tb_1 (List.mem_of_getElem? (i := 65) (by decide +kernel))) rfl
theorem fd_Te_61 : gx_fd "WeighedMachines$Text" 61 4 3 := ⟨_, _, _, rfl, (by decide), ly_Ma, Or.inl fk_Te_61⟩
theorem fk_Te_67 : Cond.fieldLink "WeighedMachines$Text" 67 (TX_Ma 4).1 (TX_Ma 4).2.1 (TX_Ma 4).2.2.1 ∈ gx_F := gx_F_in (tb_1 (List.mem_of_getElem? (i := 72) (by decide +kernel))) rfl
theorem fd_Te_67 : gx_fd "WeighedMachines$Text" 67 4 4 := ⟨_, _, _, rfl, (by decide), ly_Ma, Or.inl fk_Te_67⟩
theorem fk_Te_70 : Cond.fieldLink "WeighedMachines$Text" 70 (TX_Ma 5).1 (TX_Ma 5).2.1 (TX_Ma 5).2.2.1 ∈ gx_F := gx_F_in (tb_1 (List.mem_of_getElem? (i := 80) (by decide +kernel))) rfl
theorem fd_Te_70 : gx_fd "WeighedMachines$Text" 70 4 5 := ⟨_, _, _, rfl, (by decide), ly_Ma, Or.inl fk_Te_70⟩
theorem fk_Te_74 : Cond.fieldLink "WeighedMachines$Text" 74 (TX_Ma 6).1 (TX_Ma 6).2.1 (TX_Ma 6).2.2.1 ∈ gx_F := gx_F_in (tb_1 (List.mem_of_getElem? (i := 89) (by decide +kernel))) rfl
theorem fd_Te_74 : gx_fd "WeighedMachines$Text" 74 4 6 := ⟨_, _, _, rfl, (by decide), ly_Ma, Or.inl fk_Te_74⟩
theorem fk_We_12 : Cond.fieldLink "WeighedMachines$Weighing" 12 (TX_We 0).1 (TX_We 0).2.1 (TX_We 0).2.2.1 ∈ gx_F := gx_F_in (tb_1 (List.mem_of_getElem? (i := 186) (by decide +kernel))) rfl
theorem fd_We_12 : gx_fd "WeighedMachines$Weighing" 12 9 0 := ⟨_, _, _, rfl, (by decide), ly_We, Or.inl fk_We_12⟩
theorem ff_We_12 : gx_ff "WeighedMachines$Weighing" 12 9 0 (.object "WeighedMachines$Row") := ⟨_, _, _, ty_We, rfl, (by decide), ly_We, fk_We_12, tk_We, nm_We, rfl, rfl, rfl⟩
theorem fk_We_18 : Cond.fieldLink "WeighedMachines$Weighing" 18 (TX_We 1).1 (TX_We 1).2.1 (TX_We 1).2.2.1 ∈ gx_F := gx_F_in (tb_1 (List.mem_of_getElem? (i := 187) (by decide +kernel))) rfl
theorem fd_We_18 : gx_fd "WeighedMachines$Weighing" 18 9 1 := ⟨_, _, _, rfl, (by decide), ly_We, Or.inl fk_We_18⟩
theorem ff_We_18 : gx_ff "WeighedMachines$Weighing" 18 9 1 (.object "WeighedMachines$Row") := ⟨_, _, _, ty_We, rfl, (by decide), ly_We, fk_We_18, tk_We, nm_We, rfl, rfl, rfl⟩
theorem fk_We_21 : Cond.fieldLink "WeighedMachines$Weighing" 21 (TX_We 2).1 (TX_We 2).2.1 (TX_We 2).2.2.1 ∈ gx_F := gx_F_in (tb_1 (List.mem_of_getElem? (i := 188) (by decide +kernel))) rfl
theorem fd_We_21 : gx_fd "WeighedMachines$Weighing" 21 9 2 := ⟨_, _, _, rfl, (by decide), ly_We, Or.inl fk_We_21⟩
theorem ff_We_21 : gx_ff "WeighedMachines$Weighing" 21 9 2 (.array .long) := ⟨_, _, _, ty_We, rfl, (by decide), ly_We, fk_We_21, tk_We, nm_We, rfl, rfl, rfl⟩
theorem fk_We_29 : Cond.fieldLink "WeighedMachines$Weighing" 29 (TX_Ma 1).1 (TX_Ma 1).2.1 (TX_Ma 1).2.2.1 ∈ gx_F := gx_F_in (tb_1 (List.mem_of_getElem? (i := 50) (by decide +kernel))) rfl
theorem fd_We_29 : gx_fd "WeighedMachines$Weighing" 29 4 1 := ⟨_, _, _, rfl, (by decide), ly_Ma, Or.inl fk_We_29⟩
theorem fk_We_45 : Cond.fieldLink "WeighedMachines$Weighing" 45 (TX_Ma 2).1 (TX_Ma 2).2.1 (TX_Ma 2).2.2.1 ∈ gx_F := gx_F_in (tb_1 (List.mem_of_getElem? (i := 58) (by decide +kernel))) rfl
theorem fd_We_45 : gx_fd "WeighedMachines$Weighing" 45 4 2 := ⟨_, _, _, rfl, (by decide), ly_Ma, Or.inl fk_We_45⟩
theorem fk_We_49 : Cond.fieldLink "WeighedMachines$Weighing" 49 (TX_Ro 0).1 (TX_Ro 0).2.1 (TX_Ro 0).2.2.1 ∈ gx_F := gx_F_in (tb_1 (List.mem_of_getElem? (i := 179) (by decide +kernel))) rfl
theorem fd_We_49 : gx_fd "WeighedMachines$Weighing" 49 7 0 := ⟨_, _, _, rfl, (by decide), ly_Ro, Or.inl fk_We_49⟩
theorem fk_We_68 : Cond.fieldLink "WeighedMachines$Weighing" 68 (TX_Ma 4).1 (TX_Ma 4).2.1 (TX_Ma 4).2.2.1 ∈ gx_F := gx_F_in (tb_1 (List.mem_of_getElem? (i := 69) (by decide +kernel))) rfl
theorem fd_We_68 : gx_fd "WeighedMachines$Weighing" 68 4 4 := ⟨_, _, _, rfl, (by decide), ly_Ma, Or.inl fk_We_68⟩
theorem fk_We_71 : Cond.fieldLink "WeighedMachines$Weighing" 71 (TX_Ma 5).1 (TX_Ma 5).2.1 (TX_Ma 5).2.2.1 ∈ gx_F := gx_F_in (tb_1 (List.mem_of_getElem? (i := 77) (by decide +kernel))) rfl
theorem fd_We_71 : gx_fd "WeighedMachines$Weighing" 71 4 5 := ⟨_, _, _, rfl, (by decide), ly_Ma, Or.inl fk_We_71⟩
theorem fk_We_94 : Cond.fieldLink "WeighedMachines$Weighing" 94 (TX_Ma 6).1 (TX_Ma 6).2.1 (TX_Ma 6).2.2.1 ∈ gx_F := gx_F_in (tb_1 (List.mem_of_getElem? (i := 86) (by decide +kernel))) rfl
theorem fd_We_94 : gx_fd "WeighedMachines$Weighing" 94 4 6 := ⟨_, _, _, rfl, (by decide), ly_Ma, Or.inl fk_We_94⟩
theorem fk_We_103 : Cond.fieldLink "WeighedMachines$Weighing" 103 (TX_Ma 0).1 (TX_Ma 0).2.1 (TX_Ma 0).2.2.1 ∈ gx_F := gx_F_in (tb_1 (List.mem_of_getElem? (i := 41) (by decide +kernel))) rfl
theorem fd_We_103 : gx_fd "WeighedMachines$Weighing" 103 4 0 := ⟨_, _, _, rfl, (by decide), ly_Ma, Or.inl fk_We_103⟩
theorem fk_Mo_7 : Cond.fieldLink "WeighedMachinesModel" 7 (TX_Mo 0).1 (TX_Mo 0).2.1 (TX_Mo 0).2.2.1 ∈ gx_F := gx_F_in (tb_4 (List.mem_of_getElem? (i := 48) (by decide +kernel))) rfl
theorem fd_Mo_7 : gx_fd "WeighedMachinesModel" 7 11 0 := ⟨_, _, _, rfl, (by decide), ly_Mo, Or.inl fk_Mo_7⟩
theorem ff_Mo_7 : gx_ff "WeighedMachinesModel" 7 11 0 (.array .int) := ⟨_, _, _, ty_Mo, rfl, (by decide), ly_Mo, fk_Mo_7, tk_Mo, nm_Mo, rfl, rfl, rfl⟩
theorem fk_Mo_13 : Cond.fieldLink "WeighedMachinesModel" 13 (TX_Mo 1).1 (TX_Mo 1).2.1 (TX_Mo 1).2.2.1 ∈ gx_F := gx_F_in (tb_4 (List.mem_of_getElem? (i := 49) (by decide +kernel))) rfl
theorem fd_Mo_13 : gx_fd "WeighedMachinesModel" 13 11 1 := ⟨_, _, _, rfl, (by decide), ly_Mo, Or.inl fk_Mo_13⟩
theorem ff_Mo_13 : gx_ff "WeighedMachinesModel" 13 11 1 (.array .int) := ⟨_, _, _, ty_Mo, rfl, (by decide), ly_Mo, fk_Mo_13, tk_Mo, nm_Mo, rfl, rfl, rfl⟩
theorem fk_Mo_16 : Cond.fieldLink "WeighedMachinesModel" 16 (TX_Mo 2).1 (TX_Mo 2).2.1 (TX_Mo 2).2.2.1 ∈ gx_F := gx_F_in (tb_4 (List.mem_of_getElem? (i := 50) (by decide +kernel))) rfl
theorem fd_Mo_16 : gx_fd "WeighedMachinesModel" 16 11 2 := ⟨_, _, _, rfl, (by decide), ly_Mo, Or.inl fk_Mo_16⟩
theorem ff_Mo_16 : gx_ff "WeighedMachinesModel" 16 11 2 (.array .long) := ⟨_, _, _, ty_Mo, rfl, (by decide), ly_Mo, fk_Mo_16, tk_Mo, nm_Mo, rfl, rfl, rfl⟩
theorem fk_Mo_20 : Cond.fieldLink "WeighedMachinesModel" 20 (TX_Mo 3).1 (TX_Mo 3).2.1 (TX_Mo 3).2.2.1 ∈ gx_F := gx_F_in (tb_4 (List.mem_of_getElem? (i := 51) (by decide +kernel))) rfl
theorem fd_Mo_20 : gx_fd "WeighedMachinesModel" 20 11 3 := ⟨_, _, _, rfl, (by decide), ly_Mo, Or.inl fk_Mo_20⟩
theorem ff_Mo_20 : gx_ff "WeighedMachinesModel" 20 11 3 (.array .long) := ⟨_, _, _, ty_Mo, rfl, (by decide), ly_Mo, fk_Mo_20, tk_Mo, nm_Mo, rfl, rfl, rfl⟩
theorem fk_Mo_23 : Cond.fieldLink "WeighedMachinesModel" 23 (TX_Mo 4).1 (TX_Mo 4).2.1 (TX_Mo 4).2.2.1 ∈ gx_F := gx_F_in (tb_4 (List.mem_of_getElem? (i := 52) (by decide +kernel))) rfl
theorem fd_Mo_23 : gx_fd "WeighedMachinesModel" 23 11 4 := ⟨_, _, _, rfl, (by decide), ly_Mo, Or.inl fk_Mo_23⟩
theorem ff_Mo_23 : gx_ff "WeighedMachinesModel" 23 11 4 (.array .int) := ⟨_, _, _, ty_Mo, rfl, (by decide), ly_Mo, fk_Mo_23, tk_Mo, nm_Mo, rfl, rfl, rfl⟩
theorem fk_Mo_26 : Cond.fieldLink "WeighedMachinesModel" 26 (TX_Mo 5).1 (TX_Mo 5).2.1 (TX_Mo 5).2.2.1 ∈ gx_F := gx_F_in (tb_4 (List.mem_of_getElem? (i := 53) (by decide +kernel))) rfl
theorem fd_Mo_26 : gx_fd "WeighedMachinesModel" 26 11 5 := ⟨_, _, _, rfl, (by decide), ly_Mo, Or.inl fk_Mo_26⟩
theorem ff_Mo_26 : gx_ff "WeighedMachinesModel" 26 11 5 (.array .int) := ⟨_, _, _, ty_Mo, rfl, (by decide), ly_Mo, fk_Mo_26, tk_Mo, nm_Mo, rfl, rfl, rfl⟩
theorem fk_Mo_29 : Cond.fieldLink "WeighedMachinesModel" 29 (TX_Mo 6).1 (TX_Mo 6).2.1 (TX_Mo 6).2.2.1 ∈ gx_F := gx_F_in (tb_4 (List.mem_of_getElem? (i := 54) (by decide +kernel))) rfl
theorem fd_Mo_29 : gx_fd "WeighedMachinesModel" 29 11 6 := ⟨_, _, _, rfl, (by decide), ly_Mo, Or.inl fk_Mo_29⟩
theorem ff_Mo_29 : gx_ff "WeighedMachinesModel" 29 11 6 (.array .int) := ⟨_, _, _, ty_Mo, rfl, (by decide), ly_Mo, fk_Mo_29, tk_Mo, nm_Mo, rfl, rfl, rfl⟩
theorem fk_Mo_32 : Cond.fieldLink "WeighedMachinesModel" 32 (TX_Mo 7).1 (TX_Mo 7).2.1 (TX_Mo 7).2.2.1 ∈ gx_F := gx_F_in (tb_4 (List.mem_of_getElem? (i := 55) (by decide +kernel))) rfl
theorem fd_Mo_32 : gx_fd "WeighedMachinesModel" 32 11 7 := ⟨_, _, _, rfl, (by decide), ly_Mo, Or.inl fk_Mo_32⟩
theorem ff_Mo_32 : gx_ff "WeighedMachinesModel" 32 11 7 (.array .int) := ⟨_, _, _, ty_Mo, rfl, (by decide), ly_Mo, fk_Mo_32, tk_Mo, nm_Mo, rfl, rfl, rfl⟩
theorem fk_Mo_35 : Cond.fieldLink "WeighedMachinesModel" 35 (TX_Mo 8).1 (TX_Mo 8).2.1 (TX_Mo 8).2.2.1 ∈ gx_F := gx_F_in (tb_4 (List.mem_of_getElem? (i := 56) (by decide +kernel))) rfl
theorem fd_Mo_35 : gx_fd "WeighedMachinesModel" 35 11 8 := ⟨_, _, _, rfl, (by decide), ly_Mo, Or.inl fk_Mo_35⟩
theorem ff_Mo_35 : gx_ff "WeighedMachinesModel" 35 11 8 (.array .int) := ⟨_, _, _, ty_Mo, rfl, (by decide), ly_Mo, fk_Mo_35, tk_Mo, nm_Mo, rfl, rfl, rfl⟩
theorem fk_Mo_38 : Cond.fieldLink "WeighedMachinesModel" 38 (TX_Mo 9).1 (TX_Mo 9).2.1 (TX_Mo 9).2.2.1 ∈ gx_F := gx_F_in (tb_4 (List.mem_of_getElem? (i := 57) (by decide +kernel))) rfl
theorem fd_Mo_38 : gx_fd "WeighedMachinesModel" 38 11 9 := ⟨_, _, _, rfl, (by decide), ly_Mo, Or.inl fk_Mo_38⟩
theorem ff_Mo_38 : gx_ff "WeighedMachinesModel" 38 11 9 (.array .long) := ⟨_, _, _, ty_Mo, rfl, (by decide), ly_Mo, fk_Mo_38, tk_Mo, nm_Mo, rfl, rfl, rfl⟩
theorem fk_Mo_41 : Cond.fieldLink "WeighedMachinesModel" 41 (TX_Mo 11).1 (TX_Mo 11).2.1 (TX_Mo 11).2.2.1 ∈ gx_F := gx_F_in (tb_4 (List.mem_of_getElem? (i := 59) (by decide +kernel))) rfl
theorem fd_Mo_41 : gx_fd "WeighedMachinesModel" 41 11 11 := ⟨_, _, _, rfl, (by decide), ly_Mo, Or.inl fk_Mo_41⟩
theorem ff_Mo_41 : gx_ff "WeighedMachinesModel" 41 11 11 (.array .int) := ⟨_, _, _, ty_Mo, rfl, (by decide), ly_Mo, fk_Mo_41, tk_Mo, nm_Mo, rfl, rfl, rfl⟩
theorem fk_Mo_44 : Cond.fieldLink "WeighedMachinesModel" 44 (TX_Mo 12).1 (TX_Mo 12).2.1 (TX_Mo 12).2.2.1 ∈ gx_F := gx_F_in (tb_4 (List.mem_of_getElem? (i := 60) (by decide +kernel))) rfl
theorem fd_Mo_44 : gx_fd "WeighedMachinesModel" 44 11 12 := ⟨_, _, _, rfl, (by decide), ly_Mo, Or.inl fk_Mo_44⟩
theorem ff_Mo_44 : gx_ff "WeighedMachinesModel" 44 11 12 (.array .long) := ⟨_, _, _, ty_Mo, rfl, (by decide), ly_Mo, fk_Mo_44, tk_Mo, nm_Mo, rfl, rfl, rfl⟩
theorem fk_Mo_47 : Cond.fieldLink "WeighedMachinesModel" 47 (TX_Mo 13).1 (TX_Mo 13).2.1 (TX_Mo 13).2.2.1 ∈ gx_F := gx_F_in (tb_4 (List.mem_of_getElem? (i := 61) (by decide +kernel))) rfl
theorem fd_Mo_47 : gx_fd "WeighedMachinesModel" 47 11 13 := ⟨_, _, _, rfl, (by decide), ly_Mo, Or.inl fk_Mo_47⟩
theorem ff_Mo_47 : gx_ff "WeighedMachinesModel" 47 11 13 (.array .int) := ⟨_, _, _, ty_Mo, rfl, (by decide), ly_Mo, fk_Mo_47, tk_Mo, nm_Mo, rfl, rfl, rfl⟩
theorem fk_Mo_50 : Cond.fieldLink "WeighedMachinesModel" 50 (TX_Mo 17).1 (TX_Mo 17).2.1 (TX_Mo 17).2.2.1 ∈ gx_F := gx_F_in (tb_4 (List.mem_of_getElem? (i := 65) (by decide +kernel))) rfl
theorem fd_Mo_50 : gx_fd "WeighedMachinesModel" 50 11 17 := ⟨_, _, _, rfl, (by decide), ly_Mo, Or.inl fk_Mo_50⟩
theorem ff_Mo_50 : gx_ff "WeighedMachinesModel" 50 11 17 (.array .long) := ⟨_, _, _, ty_Mo, rfl, (by decide), ly_Mo, fk_Mo_50, tk_Mo, nm_Mo, rfl, rfl, rfl⟩
theorem fk_Mo_53 : Cond.fieldLink "WeighedMachinesModel" 53 (TX_Mo 18).1 (TX_Mo 18).2.1 (TX_Mo 18).2.2.1 ∈ gx_F := gx_F_in (tb_4 (List.mem_of_getElem? (i := 66) (by decide +kernel))) rfl
theorem fd_Mo_53 : gx_fd "WeighedMachinesModel" 53 11 18 := ⟨_, _, _, rfl, (by decide), ly_Mo, Or.inl fk_Mo_53⟩
theorem ff_Mo_53 : gx_ff "WeighedMachinesModel" 53 11 18 (.array .int) := ⟨_, _, _, ty_Mo, rfl, (by decide), ly_Mo, fk_Mo_53, tk_Mo, nm_Mo, rfl, rfl, rfl⟩
theorem fk_Mo_56 : Cond.fieldLink "WeighedMachinesModel" 56 (TX_Mo 19).1 (TX_Mo 19).2.1 (TX_Mo 19).2.2.1 ∈ gx_F := gx_F_in (tb_4 (List.mem_of_getElem? (i := 67) (by decide +kernel))) rfl
theorem fd_Mo_56 : gx_fd "WeighedMachinesModel" 56 11 19 := ⟨_, _, _, rfl, (by decide), ly_Mo, Or.inl fk_Mo_56⟩
theorem ff_Mo_56 : gx_ff "WeighedMachinesModel" 56 11 19 (.array .boolean) := ⟨_, _, _, ty_Mo, rfl, (by decide), ly_Mo, fk_Mo_56, tk_Mo, nm_Mo, rfl, rfl, rfl⟩
theorem fk_Mo_60 : Cond.fieldLink "WeighedMachinesModel" 60 (TX_Mo 20).1 (TX_Mo 20).2.1 (TX_Mo 20).2.2.1 ∈ gx_F := gx_F_in (tb_4 (List.mem_of_getElem? (i := 68) (by decide +kernel))) rfl
theorem fd_Mo_60 : gx_fd "WeighedMachinesModel" 60 11 20 := ⟨_, _, _, rfl, (by decide), ly_Mo, Or.inl fk_Mo_60⟩
theorem ff_Mo_60 : gx_ff "WeighedMachinesModel" 60 11 20 (.array .long) := ⟨_, _, _, ty_Mo, rfl, (by decide), ly_Mo, fk_Mo_60, tk_Mo, nm_Mo, rfl, rfl, rfl⟩
theorem fk_Mo_63 : Cond.fieldLink "WeighedMachinesModel" 63 (TX_Mo 21).1 (TX_Mo 21).2.1 (TX_Mo 21).2.2.1 ∈ gx_F := gx_F_in (tb_4 (List.mem_of_getElem? (i := 69) (by decide +kernel))) rfl
theorem fd_Mo_63 : gx_fd "WeighedMachinesModel" 63 11 21 := ⟨_, _, _, rfl, (by decide), ly_Mo, Or.inl fk_Mo_63⟩
theorem ff_Mo_63 : gx_ff "WeighedMachinesModel" 63 11 21 (.array .int) := ⟨_, _, _, ty_Mo, rfl, (by decide), ly_Mo, fk_Mo_63, tk_Mo, nm_Mo, rfl, rfl, rfl⟩
theorem fk_Mo_66 : Cond.fieldLink "WeighedMachinesModel" 66 (TX_Mo 22).1 (TX_Mo 22).2.1 (TX_Mo 22).2.2.1 ∈ gx_F := gx_F_in (tb_4 (List.mem_of_getElem? (i := 70) (by decide +kernel))) rfl
theorem fd_Mo_66 : gx_fd "WeighedMachinesModel" 66 11 22 := ⟨_, _, _, rfl, (by decide), ly_Mo, Or.inl fk_Mo_66⟩
theorem ff_Mo_66 : gx_ff "WeighedMachinesModel" 66 11 22 (.array .int) := ⟨_, _, _, ty_Mo, rfl, (by decide), ly_Mo, fk_Mo_66, tk_Mo, nm_Mo, rfl, rfl, rfl⟩
theorem fk_Mo_69 : Cond.fieldLink "WeighedMachinesModel" 69 (TX_Mo 25).1 (TX_Mo 25).2.1 (TX_Mo 25).2.2.1 ∈ gx_F := gx_F_in (tb_4 (List.mem_of_getElem? (i := 73) (by decide +kernel))) rfl
theorem fd_Mo_69 : gx_fd "WeighedMachinesModel" 69 11 25 := ⟨_, _, _, rfl, (by decide), ly_Mo, Or.inl fk_Mo_69⟩
theorem ff_Mo_69 : gx_ff "WeighedMachinesModel" 69 11 25 (.array .int) := ⟨_, _, _, ty_Mo, rfl, (by decide), ly_Mo, fk_Mo_69, tk_Mo, nm_Mo, rfl, rfl, rfl⟩
theorem fk_Mo_72 : Cond.fieldLink "WeighedMachinesModel" 72 (TX_Mo 26).1 (TX_Mo 26).2.1 (TX_Mo 26).2.2.1 ∈ gx_F := gx_F_in (tb_4 (List.mem_of_getElem? (i := 74) (by decide +kernel))) rfl
theorem fd_Mo_72 : gx_fd "WeighedMachinesModel" 72 11 26 := ⟨_, _, _, rfl, (by decide), ly_Mo, Or.inl fk_Mo_72⟩
theorem ff_Mo_72 : gx_ff "WeighedMachinesModel" 72 11 26 (.array .long) := ⟨_, _, _, ty_Mo, rfl, (by decide), ly_Mo, fk_Mo_72, tk_Mo, nm_Mo, rfl, rfl, rfl⟩
theorem fk_Mo_103 : Cond.fieldLink "WeighedMachinesModel" 103 (TX_Mo 27).1 (TX_Mo 27).2.1 (TX_Mo 27).2.2.1 ∈ gx_F := gx_F_in (tb_4 (List.mem_of_getElem? (i := 75) (by decide +kernel))) rfl
theorem fd_Mo_103 : gx_fd "WeighedMachinesModel" 103 11 27 := ⟨_, _, _, rfl, (by decide), ly_Mo, Or.inl fk_Mo_103⟩
theorem fw_Mo_103 : gx_fw "WeighedMachinesModel" 103 11 27 .int := ⟨_, _, _, ty_Mo, rfl, (by decide), ly_Mo, Or.inl fk_Mo_103, tk_Mo, nm_Mo, rfl, rfl⟩
theorem fk_Mo_162 : Cond.fieldLink "WeighedMachinesModel" 162 (TX_Mo 23).1 (TX_Mo 23).2.1 (TX_Mo 23).2.2.1 ∈ gx_F := gx_F_in (tb_4 (List.mem_of_getElem? (i := 71) (by decide +kernel))) rfl
theorem fd_Mo_162 : gx_fd "WeighedMachinesModel" 162 11 23 := ⟨_, _, _, rfl, (by decide), ly_Mo, Or.inl fk_Mo_162⟩
theorem fw_Mo_162 : gx_fw "WeighedMachinesModel" 162 11 23 .int := ⟨_, _, _, ty_Mo, rfl, (by decide), ly_Mo, Or.inl fk_Mo_162, tk_Mo, nm_Mo, rfl, rfl⟩
theorem fk_Mo_165 : Cond.fieldLink "WeighedMachinesModel" 165 (TX_Mo 24).1 (TX_Mo 24).2.1 (TX_Mo 24).2.2.1 ∈ gx_F := gx_F_in (tb_4 (List.mem_of_getElem? (i := 72) (by decide +kernel))) rfl
theorem fd_Mo_165 : gx_fd "WeighedMachinesModel" 165 11 24 := ⟨_, _, _, rfl, (by decide), ly_Mo, Or.inl fk_Mo_165⟩
theorem fw_Mo_165 : gx_fw "WeighedMachinesModel" 165 11 24 .int := ⟨_, _, _, ty_Mo, rfl, (by decide), ly_Mo, Or.inl fk_Mo_165, tk_Mo, nm_Mo, rfl, rfl⟩
theorem fk_Mo_177 : Cond.fieldLink "WeighedMachinesModel" 177 (TX_Mo 10).1 (TX_Mo 10).2.1 (TX_Mo 10).2.2.1 ∈ gx_F := gx_F_in (tb_4 (List.mem_of_getElem? (i := 58) (by decide +kernel))) rfl
theorem fd_Mo_177 : gx_fd "WeighedMachinesModel" 177 11 10 := ⟨_, _, _, rfl, (by decide), ly_Mo, Or.inl fk_Mo_177⟩
theorem fw_Mo_177 : gx_fw "WeighedMachinesModel" 177 11 10 .int := ⟨_, _, _, ty_Mo, rfl, (by decide), ly_Mo, Or.inl fk_Mo_177, tk_Mo, nm_Mo, rfl, rfl⟩
theorem fk_Mo_180 : Cond.fieldLink "WeighedMachinesModel" 180 (TX_Mo 14).1 (TX_Mo 14).2.1 (TX_Mo 14).2.2.1 ∈ gx_F := gx_F_in (tb_4 (List.mem_of_getElem? (i := 62) (by decide +kernel))) rfl
theorem fd_Mo_180 : gx_fd "WeighedMachinesModel" 180 11 14 := ⟨_, _, _, rfl, (by decide), ly_Mo, Or.inl fk_Mo_180⟩
theorem fw_Mo_180 : gx_fw "WeighedMachinesModel" 180 11 14 .int := ⟨_, _, _, ty_Mo, rfl, (by decide), ly_Mo, Or.inl fk_Mo_180, tk_Mo, nm_Mo, rfl, rfl⟩
theorem fk_Mo_197 : Cond.fieldLink "WeighedMachinesModel" 197 (TX_Mo 15).1 (TX_Mo 15).2.1 (TX_Mo 15).2.2.1 ∈ gx_F := gx_F_in (tb_4 (List.mem_of_getElem? (i := 63) (by decide +kernel))) rfl
theorem fd_Mo_197 : gx_fd "WeighedMachinesModel" 197 11 15 := ⟨_, _, _, rfl, (by decide), ly_Mo, Or.inl fk_Mo_197⟩
theorem fw_Mo_197 : gx_fw "WeighedMachinesModel" 197 11 15 .int := ⟨_, _, _, ty_Mo, rfl, (by decide), ly_Mo, Or.inl fk_Mo_197, tk_Mo, nm_Mo, rfl, rfl⟩
theorem fk_Mo_203 : Cond.fieldLink "WeighedMachinesModel" 203 (TX_Mo 16).1 (TX_Mo 16).2.1 (TX_Mo 16).2.2.1 ∈ gx_F := gx_F_in (tb_4 (List.mem_of_getElem? (i := 64) (by decide +kernel))) rfl
theorem fd_Mo_203 : gx_fd "WeighedMachinesModel" 203 11 16 := ⟨_, _, _, rfl, (by decide), ly_Mo, Or.inl fk_Mo_203⟩
theorem fw_Mo_203 : gx_fw "WeighedMachinesModel" 203 11 16 .int := ⟨_, _, _, ty_Mo, rfl, (by decide), ly_Mo, Or.inl fk_Mo_203, tk_Mo, nm_Mo, rfl, rfl⟩
theorem iz_WM : Cond.initialized "WeighedMachines" ∈ gx_F := gx_F_in (tb_1 (List.mem_of_getElem? (i := 1) (by decide +kernel))) rfl
set_option maxRecDepth 20000 in
theorem mc_WM_init : Cond.code yy_WM_init cc_WM_init 2 none ∈ gx_F := gx_F_in (tb_1 (List.mem_of_getElem? (i := 21) rfl)) rfl
theorem me_WM_init : gx_me yy_WM_init cc_WM_init 2 none 0 := ⟨mc_WM_init, iz_WM, ⟨by decide, by decide, by decide +kernel⟩, by decide⟩
theorem mn_WM_init : Cond.instanceMethod yy_WM_init ∈ gx_F := gx_F_in (tb_1 (List.mem_of_getElem? (i := 20) (by decide +kernel))) rfl
theorem iz_Ma : Cond.initialized "WeighedMachines$Machine" ∈ gx_F := gx_F_in (tb_1 (List.mem_of_getElem? (i := 2) (by decide +kernel))) rfl
set_option maxRecDepth 20000 in
theorem mc_Ma_init : Cond.code yy_Ma_init cc_Ma_init 1 none ∈ gx_F := gx_F_in (tb_1 (List.mem_of_getElem? (i := 30) rfl)) rfl
theorem me_Ma_init : gx_me yy_Ma_init cc_Ma_init 1 none 0 := ⟨mc_Ma_init, iz_Ma, ⟨by decide, by decide, by decide +kernel⟩, by decide⟩
theorem mn_Ma_init : Cond.instanceMethod yy_Ma_init ∈ gx_F := gx_F_in (tb_1 (List.mem_of_getElem? (i := 29) (by decide +kernel))) rfl
theorem iz_JA : Cond.initialized "java/util/Arrays" ∈ gx_F := gx_F_in (tb_1 (List.mem_of_getElem? (i := 3) (by decide +kernel))) rfl
set_option maxRecDepth 20000 in
theorem mc_JA_fill : Cond.code yy_JA_fill cc_JA_fill 5 none ∈ gx_F := gx_F_in (tb_1 (List.mem_of_getElem? (i := 35) rfl)) rfl
theorem me_JA_fill : gx_me yy_JA_fill cc_JA_fill 5 none 2 := ⟨mc_JA_fill, iz_JA, ⟨by decide, by decide, by decide +kernel⟩, by decide⟩
theorem ms_JA_fill : Cond.static yy_JA_fill ∈ gx_F := gx_F_in (tb_1 (List.mem_of_getElem? (i := 34) (by decide +kernel))) rfl
theorem iz_Co : Cond.initialized "WeighedMachines$Composing" ∈ gx_F := gx_F_in (tb_1 (List.mem_of_getElem? (i := 4) (by decide +kernel))) rfl
set_option maxRecDepth 20000 in
theorem mc_Co_init : Cond.code yy_Co_init cc_Co_init 1 none ∈ gx_F := gx_F_in (tb_1 (List.mem_of_getElem? (i := 112) rfl)) rfl
theorem me_Co_init : gx_me yy_Co_init cc_Co_init 1 none 0 := ⟨mc_Co_init, iz_Co, ⟨by decide, by decide, by decide +kernel⟩, by decide⟩
theorem mn_Co_init : Cond.instanceMethod yy_Co_init ∈ gx_F := gx_F_in (tb_1 (List.mem_of_getElem? (i := 111) (by decide +kernel))) rfl
theorem iz_Ba : Cond.initialized "WeighedMachines$Baring" ∈ gx_F := gx_F_in (tb_1 (List.mem_of_getElem? (i := 5) (by decide +kernel))) rfl
set_option maxRecDepth 20000 in
theorem mc_Ba_init : Cond.code yy_Ba_init cc_Ba_init 1 none ∈ gx_F := gx_F_in (tb_1 (List.mem_of_getElem? (i := 131) rfl)) rfl
theorem me_Ba_init : gx_me yy_Ba_init cc_Ba_init 1 none 0 := ⟨mc_Ba_init, iz_Ba, ⟨by decide, by decide, by decide +kernel⟩, by decide⟩
theorem mn_Ba_init : Cond.instanceMethod yy_Ba_init ∈ gx_F := gx_F_in (tb_1 (List.mem_of_getElem? (i := 130) (by decide +kernel))) rfl
theorem iz_De : Cond.initialized "WeighedMachines$Determining" ∈ gx_F := gx_F_in (tb_1 (List.mem_of_getElem? (i := 6) (by decide +kernel))) rfl
set_option maxRecDepth 20000 in
theorem mc_De_init : Cond.code yy_De_init cc_De_init 1 none ∈ gx_F := gx_F_in (tb_1 (List.mem_of_getElem? (i := 141) rfl)) rfl
theorem me_De_init : gx_me yy_De_init cc_De_init 1 none 0 := ⟨mc_De_init, iz_De, ⟨by decide, by decide, by decide +kernel⟩, by decide⟩
theorem mn_De_init : Cond.instanceMethod yy_De_init ∈ gx_F := gx_F_in (tb_1 (List.mem_of_getElem? (i := 140) (by decide +kernel))) rfl
theorem iz_On : Cond.initialized "WeighedMachines$Onward" ∈ gx_F := gx_F_in (tb_1 (List.mem_of_getElem? (i := 7) (by decide +kernel))) rfl
set_option maxRecDepth 20000 in
theorem mc_On_init : Cond.code yy_On_init cc_On_init 1 none ∈ gx_F := gx_F_in (tb_1 (List.mem_of_getElem? (i := 160) rfl)) rfl
theorem me_On_init : gx_me yy_On_init cc_On_init 1 none 0 := ⟨mc_On_init, iz_On, ⟨by decide, by decide, by decide +kernel⟩, by decide⟩
theorem mn_On_init : Cond.instanceMethod yy_On_init ∈ gx_F := gx_F_in (tb_1 (List.mem_of_getElem? (i := 159) (by decide +kernel))) rfl
theorem iz_We : Cond.initialized "WeighedMachines$Weighing" ∈ gx_F := gx_F_in (tb_1 (List.mem_of_getElem? (i := 8) (by decide +kernel))) rfl
set_option maxRecDepth 20000 in
theorem mc_We_init : Cond.code yy_We_init cc_We_init 1 none ∈ gx_F := gx_F_in (tb_1 (List.mem_of_getElem? (i := 170) rfl)) rfl
theorem me_We_init : gx_me yy_We_init cc_We_init 1 none 0 := ⟨mc_We_init, iz_We, ⟨by decide, by decide, by decide +kernel⟩, by decide⟩
theorem mn_We_init : Cond.instanceMethod yy_We_init ∈ gx_F := gx_F_in (tb_1 (List.mem_of_getElem? (i := 169) (by decide +kernel))) rfl
theorem iz_Ro : Cond.initialized "WeighedMachines$Row" ∈ gx_F := gx_F_in (tb_1 (List.mem_of_getElem? (i := 9) (by decide +kernel))) rfl
set_option maxRecDepth 20000 in
theorem mc_Ro_init : Cond.code yy_Ro_init cc_Ro_init 1 none ∈ gx_F := gx_F_in (tb_1 (List.mem_of_getElem? (i := 176) rfl)) rfl
theorem me_Ro_init : gx_me yy_Ro_init cc_Ro_init 1 none 0 := ⟨mc_Ro_init, iz_Ro, ⟨by decide, by decide, by decide +kernel⟩, by decide⟩
theorem mn_Ro_init : Cond.instanceMethod yy_Ro_init ∈ gx_F := gx_F_in (tb_1 (List.mem_of_getElem? (i := 175) (by decide +kernel))) rfl
theorem iz_BP : Cond.initialized "WeighedMachines$BestPath" ∈ gx_F := gx_F_in (tb_1 (List.mem_of_getElem? (i := 10) (by decide +kernel))) rfl
set_option maxRecDepth 20000 in
theorem mc_BP_init : Cond.code yy_BP_init cc_BP_init 1 none ∈ gx_F := gx_F_in (tb_1 (List.mem_of_getElem? (i := 200) rfl)) rfl
theorem me_BP_init : gx_me yy_BP_init cc_BP_init 1 none 0 := ⟨mc_BP_init, iz_BP, ⟨by decide, by decide, by decide +kernel⟩, by decide⟩
theorem mn_BP_init : Cond.instanceMethod yy_BP_init ∈ gx_F := gx_F_in (tb_1 (List.mem_of_getElem? (i := 199) (by decide +kernel))) rfl
theorem iz_Te : Cond.initialized "WeighedMachines$Text" ∈ gx_F := gx_F_in (tb_1 (List.mem_of_getElem? (i := 11) (by decide +kernel))) rfl
set_option maxRecDepth 20000 in
theorem mc_Te_init : Cond.code yy_Te_init cc_Te_init 1 none ∈ gx_F := gx_F_in (tb_1 (List.mem_of_getElem? (i := 219) rfl)) rfl
theorem me_Te_init : gx_me yy_Te_init cc_Te_init 1 none 0 := ⟨mc_Te_init, iz_Te, ⟨by decide, by decide, by decide +kernel⟩, by decide⟩
theorem mn_Te_init : Cond.instanceMethod yy_Te_init ∈ gx_F := gx_F_in (tb_1 (List.mem_of_getElem? (i := 218) (by decide +kernel))) rfl
theorem iz_Pa : Cond.initialized "WeighedMachines$Parsing" ∈ gx_F := gx_F_in (tb_1 (List.mem_of_getElem? (i := 12) (by decide +kernel))) rfl
set_option maxRecDepth 20000 in
theorem mc_Pa_init : Cond.code yy_Pa_init cc_Pa_init 1 none ∈ gx_F := gx_F_in (tb_1 (List.mem_of_getElem? (i := 235) rfl)) rfl
theorem me_Pa_init : gx_me yy_Pa_init cc_Pa_init 1 none 0 := ⟨mc_Pa_init, iz_Pa, ⟨by decide, by decide, by decide +kernel⟩, by decide⟩
theorem mn_Pa_init : Cond.instanceMethod yy_Pa_init ∈ gx_F := gx_F_in (tb_1 (List.mem_of_getElem? (i := 234) (by decide +kernel))) rfl
set_option maxRecDepth 20000 in
theorem mc_WM_fresh : Cond.code yy_WM_fresh cc_WM_fresh 3 (some .boolean) ∈ gx_F := gx_F_in (tb_2 (List.mem_of_getElem? (i := 44) rfl)) rfl
theorem me_WM_fresh : gx_me yy_WM_fresh cc_WM_fresh 3 (some .boolean) 2 := ⟨mc_WM_fresh, iz_WM, ⟨by decide, by decide, by decide +kernel⟩, by decide⟩
theorem mn_WM_fresh : gx_in yy_WM_fresh := ⟨gx_F_in (tb_2 (List.mem_of_getElem? (i := 42) (by decide +kernel))) rfl, gx_F_in (tb_2 (List.mem_of_getElem? (i := 43) (by decide +kernel))) rfl⟩
set_option maxRecDepth 20000 in
theorem mc_WM_isSlot : Cond.code yy_WM_isSlot cc_WM_isSlot 1 (some .boolean) ∈ gx_F := gx_F_in (tb_2 (List.mem_of_getElem? (i := 47) rfl)) rfl
theorem me_WM_isSlot : gx_me yy_WM_isSlot cc_WM_isSlot 1 (some .boolean) 1 := ⟨mc_WM_isSlot, iz_WM, ⟨by decide, by decide, by decide +kernel⟩, by decide⟩
theorem ms_WM_isSlot : Cond.static yy_WM_isSlot ∈ gx_F := gx_F_in (tb_2 (List.mem_of_getElem? (i := 46) (by decide +kernel))) rfl
set_option maxRecDepth 20000 in
theorem mc_Ma_clear : Cond.code yy_Ma_clear cc_Ma_clear 2 none ∈ gx_F := gx_F_in (tb_2 (List.mem_of_getElem? (i := 51) rfl)) rfl
theorem me_Ma_clear : gx_me yy_Ma_clear cc_Ma_clear 2 none 1 := ⟨mc_Ma_clear, iz_Ma, ⟨by decide, by decide, by decide +kernel⟩, by decide⟩
theorem mn_Ma_clear : gx_in yy_Ma_clear := ⟨gx_F_in (tb_2 (List.mem_of_getElem? (i := 49) (by decide +kernel))) rfl, gx_F_in (tb_2 (List.mem_of_getElem? (i := 50) (by decide +kernel))) rfl⟩
set_option maxRecDepth 20000 in
theorem mc_WM_start : Cond.code yy_WM_start cc_WM_start 4 (some .boolean) ∈ gx_F := gx_F_in (tb_2 (List.mem_of_getElem? (i := 55) rfl)) rfl
theorem me_WM_start : gx_me yy_WM_start cc_WM_start 4 (some .boolean) 3 := ⟨mc_WM_start, iz_WM, ⟨by decide, by decide, by decide +kernel⟩, by decide⟩
theorem mn_WM_start : gx_in yy_WM_start := ⟨gx_F_in (tb_2 (List.mem_of_getElem? (i := 53) (by decide +kernel))) rfl, gx_F_in (tb_2 (List.mem_of_getElem? (i := 54) (by decide +kernel))) rfl⟩
set_option maxRecDepth 20000 in
theorem mc_WM_isState : Cond.code yy_WM_isState cc_WM_isState 3 (some .boolean) ∈ gx_F := gx_F_in (tb_2 (List.mem_of_getElem? (i := 59) rfl)) rfl
theorem me_WM_isState : gx_me yy_WM_isState cc_WM_isState 3 (some .boolean) 2 := ⟨mc_WM_isState, iz_WM, ⟨by decide, by decide, by decide +kernel⟩, by decide⟩
theorem mn_WM_isState : gx_in yy_WM_isState := ⟨gx_F_in (tb_2 (List.mem_of_getElem? (i := 58) (by decide +kernel))) rfl, gx_F_in (List.mem_append_left _ (List.mem_of_getElem? (i := 0) (by decide +kernel))) rfl⟩
set_option maxRecDepth 20000 in
theorem mc_WM_isWeight : Cond.code yy_WM_isWeight cc_WM_isWeight 2 (some .boolean) ∈ gx_F := gx_F_in (tb_2 (List.mem_of_getElem? (i := 62) rfl)) rfl
theorem me_WM_isWeight : gx_me yy_WM_isWeight cc_WM_isWeight 2 (some .boolean) 1 := ⟨mc_WM_isWeight, iz_WM, ⟨by decide, by decide, by decide +kernel⟩, by decide⟩
theorem ms_WM_isWeight : Cond.static yy_WM_isWeight ∈ gx_F := gx_F_in (tb_2 (List.mem_of_getElem? (i := 61) (by decide +kernel))) rfl
set_option maxRecDepth 20000 in
theorem mc_Ma_setStart : Cond.code yy_Ma_setStart cc_Ma_setStart 4 none ∈ gx_F := gx_F_in (tb_2 (List.mem_of_getElem? (i := 67) rfl)) rfl
theorem me_Ma_setStart : gx_me yy_Ma_setStart cc_Ma_setStart 4 none 2 := ⟨mc_Ma_setStart, iz_Ma, ⟨by decide, by decide, by decide +kernel⟩, by decide⟩
theorem mn_Ma_setStart : gx_in yy_Ma_setStart := ⟨gx_F_in (tb_2 (List.mem_of_getElem? (i := 65) (by decide +kernel))) rfl, gx_F_in (tb_2 (List.mem_of_getElem? (i := 66) (by decide +kernel))) rfl⟩
set_option maxRecDepth 20000 in
theorem mc_WM_end : Cond.code yy_WM_end cc_WM_end 4 (some .boolean) ∈ gx_F := gx_F_in (tb_2 (List.mem_of_getElem? (i := 71) rfl)) rfl
theorem me_WM_end : gx_me yy_WM_end cc_WM_end 4 (some .boolean) 3 := ⟨mc_WM_end, iz_WM, ⟨by decide, by decide, by decide +kernel⟩, by decide⟩
theorem mn_WM_end : gx_in yy_WM_end := ⟨gx_F_in (tb_2 (List.mem_of_getElem? (i := 69) (by decide +kernel))) rfl, gx_F_in (tb_2 (List.mem_of_getElem? (i := 70) (by decide +kernel))) rfl⟩
set_option maxRecDepth 20000 in
theorem mc_WM_arc : Cond.code yy_WM_arc cc_WM_arc 7 (some .int) ∈ gx_F := gx_F_in (tb_2 (List.mem_of_getElem? (i := 75) rfl)) rfl
theorem me_WM_arc : gx_me yy_WM_arc cc_WM_arc 7 (some .int) 5 := ⟨mc_WM_arc, iz_WM, ⟨by decide, by decide, by decide +kernel⟩, by decide⟩
theorem mn_WM_arc : gx_in yy_WM_arc := ⟨gx_F_in (tb_2 (List.mem_of_getElem? (i := 73) (by decide +kernel))) rfl, gx_F_in (tb_2 (List.mem_of_getElem? (i := 74) (by decide +kernel))) rfl⟩
set_option maxRecDepth 20000 in
theorem mc_WM_keyOf : Cond.code yy_WM_keyOf cc_WM_keyOf 3 (some .int) ∈ gx_F := gx_F_in (tb_2 (List.mem_of_getElem? (i := 78) rfl)) rfl
theorem me_WM_keyOf : gx_me yy_WM_keyOf cc_WM_keyOf 3 (some .int) 3 := ⟨mc_WM_keyOf, iz_WM, ⟨by decide, by decide, by decide +kernel⟩, by decide⟩
theorem ms_WM_keyOf : Cond.static yy_WM_keyOf ∈ gx_F := gx_F_in (tb_2 (List.mem_of_getElem? (i := 77) (by decide +kernel))) rfl
set_option maxRecDepth 20000 in
theorem mc_Ma_bring : Cond.code yy_Ma_bring cc_Ma_bring 5 (some .boolean) ∈ gx_F := gx_F_in (tb_2 (List.mem_of_getElem? (i := 82) rfl)) rfl
theorem me_Ma_bring : gx_me yy_Ma_bring cc_Ma_bring 5 (some .boolean) 2 := ⟨mc_Ma_bring, iz_Ma, ⟨by decide, by decide, by decide +kernel⟩, by decide⟩
theorem mn_Ma_bring : gx_in yy_Ma_bring := ⟨gx_F_in (tb_2 (List.mem_of_getElem? (i := 80) (by decide +kernel))) rfl, gx_F_in (tb_2 (List.mem_of_getElem? (i := 81) (by decide +kernel))) rfl⟩
set_option maxRecDepth 20000 in
theorem mc_Ma_placeOf : Cond.code yy_Ma_placeOf cc_Ma_placeOf 4 (some .int) ∈ gx_F := gx_F_in (tb_2 (List.mem_of_getElem? (i := 86) rfl)) rfl
theorem me_Ma_placeOf : gx_me yy_Ma_placeOf cc_Ma_placeOf 4 (some .int) 1 := ⟨mc_Ma_placeOf, iz_Ma, ⟨by decide, by decide, by decide +kernel⟩, by decide⟩
theorem mn_Ma_placeOf : gx_in yy_Ma_placeOf := ⟨gx_F_in (tb_2 (List.mem_of_getElem? (i := 84) (by decide +kernel))) rfl, gx_F_in (tb_2 (List.mem_of_getElem? (i := 85) (by decide +kernel))) rfl⟩
theorem iz_JM : Cond.initialized "java/lang/Math" ∈ gx_F := gx_F_in (tb_1 (List.mem_of_getElem? (i := 14) (by decide +kernel))) rfl
set_option maxRecDepth 20000 in
theorem mc_JM_min : Cond.code yy_JM_min cc_JM_min 4 (some .long) ∈ gx_F := gx_F_in (tb_2 (List.mem_of_getElem? (i := 89) rfl)) rfl
theorem me_JM_min : gx_me yy_JM_min cc_JM_min 4 (some .long) 2 := ⟨mc_JM_min, iz_JM, ⟨by decide, by decide, by decide +kernel⟩, by decide⟩
theorem ms_JM_min : Cond.static yy_JM_min ∈ gx_F := gx_F_in (tb_2 (List.mem_of_getElem? (i := 88) (by decide +kernel))) rfl
set_option maxRecDepth 20000 in
theorem mc_WM_compose : Cond.code yy_WM_compose cc_WM_compose 5 (some .int) ∈ gx_F := gx_F_in (tb_2 (List.mem_of_getElem? (i := 96) rfl)) rfl
theorem me_WM_compose : gx_me yy_WM_compose cc_WM_compose 5 (some .int) 3 := ⟨mc_WM_compose, iz_WM, ⟨by decide, by decide, by decide +kernel⟩, by decide⟩
theorem mn_WM_compose : gx_in yy_WM_compose := ⟨gx_F_in (tb_2 (List.mem_of_getElem? (i := 94) (by decide +kernel))) rfl, gx_F_in (tb_2 (List.mem_of_getElem? (i := 95) (by decide +kernel))) rfl⟩
set_option maxRecDepth 20000 in
theorem mc_Co_build : Cond.code yy_Co_build cc_Co_build 7 (some .boolean) ∈ gx_F := gx_F_in (tb_2 (List.mem_of_getElem? (i := 100) rfl)) rfl
theorem me_Co_build : gx_me yy_Co_build cc_Co_build 7 (some .boolean) 3 := ⟨mc_Co_build, iz_Co, ⟨by decide, by decide, by decide +kernel⟩, by decide⟩
theorem mn_Co_build : gx_in yy_Co_build := ⟨gx_F_in (tb_2 (List.mem_of_getElem? (i := 98) (by decide +kernel))) rfl, gx_F_in (tb_2 (List.mem_of_getElem? (i := 99) (by decide +kernel))) rfl⟩
set_option maxRecDepth 20000 in
theorem mc_Co_tripleOf : Cond.code yy_Co_tripleOf cc_Co_tripleOf 3 (some .int) ∈ gx_F := gx_F_in (tb_2 (List.mem_of_getElem? (i := 104) rfl)) rfl
theorem me_Co_tripleOf : gx_me yy_Co_tripleOf cc_Co_tripleOf 3 (some .int) 3 := ⟨mc_Co_tripleOf, iz_Co, ⟨by decide, by decide, by decide +kernel⟩, by decide⟩
theorem ms_Co_tripleOf : Cond.static yy_Co_tripleOf ∈ gx_F := gx_F_in (tb_2 (List.mem_of_getElem? (i := 103) (by decide +kernel))) rfl
set_option maxRecDepth 20000 in
theorem mc_Co_find : Cond.code yy_Co_find cc_Co_find 3 (some .int) ∈ gx_F := gx_F_in (tb_2 (List.mem_of_getElem? (i := 108) rfl)) rfl
theorem me_Co_find : gx_me yy_Co_find cc_Co_find 3 (some .int) 1 := ⟨mc_Co_find, iz_Co, ⟨by decide, by decide, by decide +kernel⟩, by decide⟩
theorem mn_Co_find : gx_in yy_Co_find := ⟨gx_F_in (tb_2 (List.mem_of_getElem? (i := 107) (by decide +kernel))) rfl, gx_F_in (List.mem_append_left _ (List.mem_of_getElem? (i := 1) (by decide +kernel))) rfl⟩
set_option maxRecDepth 20000 in
theorem mc_Co_leave : Cond.code yy_Co_leave cc_Co_leave 5 (some .boolean) ∈ gx_F := gx_F_in (tb_2 (List.mem_of_getElem? (i := 113) rfl)) rfl
theorem me_Co_leave : gx_me yy_Co_leave cc_Co_leave 5 (some .boolean) 1 := ⟨mc_Co_leave, iz_Co, ⟨by decide, by decide, by decide +kernel⟩, by decide⟩
theorem mn_Co_leave : gx_in yy_Co_leave := ⟨gx_F_in (tb_2 (List.mem_of_getElem? (i := 112) (by decide +kernel))) rfl, gx_F_in (List.mem_append_left _ (List.mem_of_getElem? (i := 2) (by decide +kernel))) rfl⟩
set_option maxRecDepth 20000 in
theorem mc_Ma_endOrFar : Cond.code yy_Ma_endOrFar cc_Ma_endOrFar 2 (some .long) ∈ gx_F := gx_F_in (tb_2 (List.mem_of_getElem? (i := 117) rfl)) rfl
theorem me_Ma_endOrFar : gx_me yy_Ma_endOrFar cc_Ma_endOrFar 2 (some .long) 1 := ⟨mc_Ma_endOrFar, iz_Ma, ⟨by decide, by decide, by decide +kernel⟩, by decide⟩
theorem mn_Ma_endOrFar : gx_in yy_Ma_endOrFar := ⟨gx_F_in (tb_2 (List.mem_of_getElem? (i := 115) (by decide +kernel))) rfl, gx_F_in (tb_2 (List.mem_of_getElem? (i := 116) (by decide +kernel))) rfl⟩
set_option maxRecDepth 20000 in
theorem mc_Ma_setEndUnlessFar : Cond.code yy_Ma_setEndUnlessFar cc_Ma_setEndUnlessFar 4 none ∈ gx_F := gx_F_in (tb_2 (List.mem_of_getElem? (i := 122) rfl)) rfl
theorem me_Ma_setEndUnlessFar : gx_me yy_Ma_setEndUnlessFar cc_Ma_setEndUnlessFar 4 none 2 := ⟨mc_Ma_setEndUnlessFar, iz_Ma, ⟨by decide, by decide, by decide +kernel⟩, by decide⟩
theorem mn_Ma_setEndUnlessFar : gx_in yy_Ma_setEndUnlessFar := ⟨gx_F_in (tb_2 (List.mem_of_getElem? (i := 120) (by decide +kernel))) rfl, gx_F_in (tb_2 (List.mem_of_getElem? (i := 121) (by decide +kernel))) rfl⟩
set_option maxRecDepth 20000 in
theorem mc_Co_bringBoth : Cond.code yy_Co_bringBoth cc_Co_bringBoth 13 (some .boolean) ∈ gx_F := gx_F_in (tb_2 (List.mem_of_getElem? (i := 126) rfl)) rfl
theorem me_Co_bringBoth : gx_me yy_Co_bringBoth cc_Co_bringBoth 13 (some .boolean) 4 := ⟨mc_Co_bringBoth, iz_Co, ⟨by decide, by decide, by decide +kernel⟩, by decide⟩
theorem mn_Co_bringBoth : gx_in yy_Co_bringBoth := ⟨gx_F_in (tb_2 (List.mem_of_getElem? (i := 125) (by decide +kernel))) rfl, gx_F_in (List.mem_append_left _ (List.mem_of_getElem? (i := 3) (by decide +kernel))) rfl⟩
set_option maxRecDepth 20000 in
theorem mc_WM_outOf : Cond.code yy_WM_outOf cc_WM_outOf 1 (some .int) ∈ gx_F := gx_F_in (tb_2 (List.mem_of_getElem? (i := 131) rfl)) rfl
theorem me_WM_outOf : gx_me yy_WM_outOf cc_WM_outOf 1 (some .int) 1 := ⟨mc_WM_outOf, iz_WM, ⟨by decide, by decide, by decide +kernel⟩, by decide⟩
theorem ms_WM_outOf : Cond.static yy_WM_outOf ∈ gx_F := gx_F_in (tb_2 (List.mem_of_getElem? (i := 130) (by decide +kernel))) rfl
set_option maxRecDepth 20000 in
theorem mc_WM_labelPair : Cond.code yy_WM_labelPair cc_WM_labelPair 2 (some .int) ∈ gx_F := gx_F_in (tb_2 (List.mem_of_getElem? (i := 134) rfl)) rfl
theorem me_WM_labelPair : gx_me yy_WM_labelPair cc_WM_labelPair 2 (some .int) 2 := ⟨mc_WM_labelPair, iz_WM, ⟨by decide, by decide, by decide +kernel⟩, by decide⟩
theorem ms_WM_labelPair : Cond.static yy_WM_labelPair ∈ gx_F := gx_F_in (tb_2 (List.mem_of_getElem? (i := 133) (by decide +kernel))) rfl
set_option maxRecDepth 20000 in
theorem mc_WM_toOf : Cond.code yy_WM_toOf cc_WM_toOf 1 (some .int) ∈ gx_F := gx_F_in (tb_2 (List.mem_of_getElem? (i := 137) rfl)) rfl
theorem me_WM_toOf : gx_me yy_WM_toOf cc_WM_toOf 1 (some .int) 1 := ⟨mc_WM_toOf, iz_WM, ⟨by decide, by decide, by decide +kernel⟩, by decide⟩
theorem ms_WM_toOf : Cond.static yy_WM_toOf ∈ gx_F := gx_F_in (tb_2 (List.mem_of_getElem? (i := 136) (by decide +kernel))) rfl
set_option maxRecDepth 20000 in
theorem mc_WM_inOf : Cond.code yy_WM_inOf cc_WM_inOf 1 (some .int) ∈ gx_F := gx_F_in (tb_2 (List.mem_of_getElem? (i := 140) rfl)) rfl
theorem me_WM_inOf : gx_me yy_WM_inOf cc_WM_inOf 1 (some .int) 1 := ⟨mc_WM_inOf, iz_WM, ⟨by decide, by decide, by decide +kernel⟩, by decide⟩
theorem ms_WM_inOf : Cond.static yy_WM_inOf ∈ gx_F := gx_F_in (tb_2 (List.mem_of_getElem? (i := 139) (by decide +kernel))) rfl
set_option maxRecDepth 20000 in
theorem mc_Co_bring : Cond.code yy_Co_bring cc_Co_bring 7 (some .boolean) ∈ gx_F := gx_F_in (tb_2 (List.mem_of_getElem? (i := 144) rfl)) rfl
theorem me_Co_bring : gx_me yy_Co_bring cc_Co_bring 7 (some .boolean) 4 := ⟨mc_Co_bring, iz_Co, ⟨by decide, by decide, by decide +kernel⟩, by decide⟩
theorem mn_Co_bring : gx_in yy_Co_bring := ⟨gx_F_in (tb_2 (List.mem_of_getElem? (i := 143) (by decide +kernel))) rfl, gx_F_in (List.mem_append_left _ (List.mem_of_getElem? (i := 4) (by decide +kernel))) rfl⟩
set_option maxRecDepth 20000 in
theorem mc_Co_bringFirst : Cond.code yy_Co_bringFirst cc_Co_bringFirst 9 (some .boolean) ∈ gx_F := gx_F_in (tb_2 (List.mem_of_getElem? (i := 149) rfl)) rfl
theorem me_Co_bringFirst : gx_me yy_Co_bringFirst cc_Co_bringFirst 9 (some .boolean) 3 := ⟨mc_Co_bringFirst, iz_Co, ⟨by decide, by decide, by decide +kernel⟩, by decide⟩
theorem mn_Co_bringFirst : gx_in yy_Co_bringFirst := ⟨gx_F_in (tb_2 (List.mem_of_getElem? (i := 148) (by decide +kernel))) rfl, gx_F_in (List.mem_append_left _ (List.mem_of_getElem? (i := 5) (by decide +kernel))) rfl⟩
set_option maxRecDepth 20000 in
theorem mc_Co_bringSecond : Cond.code yy_Co_bringSecond cc_Co_bringSecond 8 (some .boolean) ∈ gx_F := gx_F_in (tb_2 (List.mem_of_getElem? (i := 153) rfl)) rfl
theorem me_Co_bringSecond : gx_me yy_Co_bringSecond cc_Co_bringSecond 8 (some .boolean) 3 := ⟨mc_Co_bringSecond, iz_Co, ⟨by decide, by decide, by decide +kernel⟩, by decide⟩
theorem mn_Co_bringSecond : gx_in yy_Co_bringSecond := ⟨gx_F_in (tb_2 (List.mem_of_getElem? (i := 152) (by decide +kernel))) rfl, gx_F_in (List.mem_append_left _ (List.mem_of_getElem? (i := 6) (by decide +kernel))) rfl⟩
set_option maxRecDepth 20000 in
theorem mc_WM_take : Cond.code yy_WM_take cc_WM_take 4 (some .boolean) ∈ gx_F := gx_F_in (tb_2 (List.mem_of_getElem? (i := 157) rfl)) rfl
theorem me_WM_take : gx_me yy_WM_take cc_WM_take 4 (some .boolean) 2 := ⟨mc_WM_take, iz_WM, ⟨by decide, by decide, by decide +kernel⟩, by decide⟩
theorem mn_WM_take : gx_in yy_WM_take := ⟨gx_F_in (tb_2 (List.mem_of_getElem? (i := 156) (by decide +kernel))) rfl, gx_F_in (List.mem_append_left _ (List.mem_of_getElem? (i := 7) (by decide +kernel))) rfl⟩
set_option maxRecDepth 20000 in
theorem mc_Ma_weightsFit : Cond.code yy_Ma_weightsFit cc_Ma_weightsFit 3 (some .boolean) ∈ gx_F := gx_F_in (tb_2 (List.mem_of_getElem? (i := 161) rfl)) rfl
theorem me_Ma_weightsFit : gx_me yy_Ma_weightsFit cc_Ma_weightsFit 3 (some .boolean) 0 := ⟨mc_Ma_weightsFit, iz_Ma, ⟨by decide, by decide, by decide +kernel⟩, by decide⟩
theorem mn_Ma_weightsFit : gx_in yy_Ma_weightsFit := ⟨gx_F_in (tb_2 (List.mem_of_getElem? (i := 159) (by decide +kernel))) rfl, gx_F_in (tb_2 (List.mem_of_getElem? (i := 160) (by decide +kernel))) rfl⟩
set_option maxRecDepth 20000 in
theorem mc_WM_bare : Cond.code yy_WM_bare cc_WM_bare 4 (some .int) ∈ gx_F := gx_F_in (tb_2 (List.mem_of_getElem? (i := 166) rfl)) rfl
theorem me_WM_bare : gx_me yy_WM_bare cc_WM_bare 4 (some .int) 2 := ⟨mc_WM_bare, iz_WM, ⟨by decide, by decide, by decide +kernel⟩, by decide⟩
theorem mn_WM_bare : gx_in yy_WM_bare := ⟨gx_F_in (tb_2 (List.mem_of_getElem? (i := 164) (by decide +kernel))) rfl, gx_F_in (tb_2 (List.mem_of_getElem? (i := 165) (by decide +kernel))) rfl⟩
set_option maxRecDepth 20000 in
theorem mc_Ba_build : Cond.code yy_Ba_build cc_Ba_build 5 (some .boolean) ∈ gx_F := gx_F_in (tb_2 (List.mem_of_getElem? (i := 170) rfl)) rfl
theorem me_Ba_build : gx_me yy_Ba_build cc_Ba_build 5 (some .boolean) 2 := ⟨mc_Ba_build, iz_Ba, ⟨by decide, by decide, by decide +kernel⟩, by decide⟩
theorem mn_Ba_build : gx_in yy_Ba_build := ⟨gx_F_in (tb_2 (List.mem_of_getElem? (i := 168) (by decide +kernel))) rfl, gx_F_in (tb_2 (List.mem_of_getElem? (i := 169) (by decide +kernel))) rfl⟩
set_option maxRecDepth 20000 in
theorem mc_Ma_spread : Cond.code yy_Ma_spread cc_Ma_spread 9 none ∈ gx_F := gx_F_in (tb_2 (List.mem_of_getElem? (i := 178) rfl)) rfl
theorem me_Ma_spread : gx_me yy_Ma_spread cc_Ma_spread 9 none 2 := ⟨mc_Ma_spread, iz_Ma, ⟨by decide, by decide, by decide +kernel⟩, by decide⟩
theorem mn_Ma_spread : gx_in yy_Ma_spread := ⟨gx_F_in (tb_2 (List.mem_of_getElem? (i := 176) (by decide +kernel))) rfl, gx_F_in (tb_2 (List.mem_of_getElem? (i := 177) (by decide +kernel))) rfl⟩
set_option maxRecDepth 20000 in
theorem mc_WM_fromOf : Cond.code yy_WM_fromOf cc_WM_fromOf 1 (some .int) ∈ gx_F := gx_F_in (tb_2 (List.mem_of_getElem? (i := 181) rfl)) rfl
theorem me_WM_fromOf : gx_me yy_WM_fromOf cc_WM_fromOf 1 (some .int) 1 := ⟨mc_WM_fromOf, iz_WM, ⟨by decide, by decide, by decide +kernel⟩, by decide⟩
theorem ms_WM_fromOf : Cond.static yy_WM_fromOf ∈ gx_F := gx_F_in (tb_2 (List.mem_of_getElem? (i := 180) (by decide +kernel))) rfl
set_option maxRecDepth 20000 in
theorem mc_WM_labelsOf : Cond.code yy_WM_labelsOf cc_WM_labelsOf 1 (some .int) ∈ gx_F := gx_F_in (tb_2 (List.mem_of_getElem? (i := 185) rfl)) rfl
theorem me_WM_labelsOf : gx_me yy_WM_labelsOf cc_WM_labelsOf 1 (some .int) 1 := ⟨mc_WM_labelsOf, iz_WM, ⟨by decide, by decide, by decide +kernel⟩, by decide⟩
theorem ms_WM_labelsOf : Cond.static yy_WM_labelsOf ∈ gx_F := gx_F_in (tb_2 (List.mem_of_getElem? (i := 184) (by decide +kernel))) rfl
set_option maxRecDepth 20000 in
theorem mc_Ba_leastEnd : Cond.code yy_Ba_leastEnd cc_Ba_leastEnd 5 (some .long) ∈ gx_F := gx_F_in (tb_2 (List.mem_of_getElem? (i := 189) rfl)) rfl
theorem me_Ba_leastEnd : gx_me yy_Ba_leastEnd cc_Ba_leastEnd 5 (some .long) 1 := ⟨mc_Ba_leastEnd, iz_Ba, ⟨by decide, by decide, by decide +kernel⟩, by decide⟩
theorem mn_Ba_leastEnd : gx_in yy_Ba_leastEnd := ⟨gx_F_in (tb_2 (List.mem_of_getElem? (i := 188) (by decide +kernel))) rfl, gx_F_in (List.mem_append_left _ (List.mem_of_getElem? (i := 8) (by decide +kernel))) rfl⟩
set_option maxRecDepth 20000 in
theorem mc_Ba_bringOthers : Cond.code yy_Ba_bringOthers cc_Ba_bringOthers 9 (some .boolean) ∈ gx_F := gx_F_in (tb_2 (List.mem_of_getElem? (i := 196) rfl)) rfl
theorem me_Ba_bringOthers : gx_me yy_Ba_bringOthers cc_Ba_bringOthers 9 (some .boolean) 3 := ⟨mc_Ba_bringOthers, iz_Ba, ⟨by decide, by decide, by decide +kernel⟩, by decide⟩
theorem mn_Ba_bringOthers : gx_in yy_Ba_bringOthers := ⟨gx_F_in (tb_2 (List.mem_of_getElem? (i := 195) (by decide +kernel))) rfl, gx_F_in (List.mem_append_left _ (List.mem_of_getElem? (i := 9) (by decide +kernel))) rfl⟩
set_option maxRecDepth 20000 in
theorem mc_WM_determine : Cond.code yy_WM_determine cc_WM_determine 4 (some .int) ∈ gx_F := gx_F_in (tb_2 (List.mem_of_getElem? (i := 205) rfl)) rfl
theorem me_WM_determine : gx_me yy_WM_determine cc_WM_determine 4 (some .int) 2 := ⟨mc_WM_determine, iz_WM, ⟨by decide, by decide, by decide +kernel⟩, by decide⟩
theorem mn_WM_determine : gx_in yy_WM_determine := ⟨gx_F_in (tb_2 (List.mem_of_getElem? (i := 203) (by decide +kernel))) rfl, gx_F_in (tb_2 (List.mem_of_getElem? (i := 204) (by decide +kernel))) rfl⟩
set_option maxRecDepth 20000 in
theorem mc_Ma_copiesLabels : Cond.code yy_Ma_copiesLabels cc_Ma_copiesLabels 2 (some .boolean) ∈ gx_F := gx_F_in (tb_2 (List.mem_of_getElem? (i := 209) rfl)) rfl
theorem me_Ma_copiesLabels : gx_me yy_Ma_copiesLabels cc_Ma_copiesLabels 2 (some .boolean) 0 := ⟨mc_Ma_copiesLabels, iz_Ma, ⟨by decide, by decide, by decide +kernel⟩, by decide⟩
theorem mn_Ma_copiesLabels : gx_in yy_Ma_copiesLabels := ⟨gx_F_in (tb_2 (List.mem_of_getElem? (i := 207) (by decide +kernel))) rfl, gx_F_in (tb_2 (List.mem_of_getElem? (i := 208) (by decide +kernel))) rfl⟩
set_option maxRecDepth 20000 in
theorem mc_Ma_hasCycle : Cond.code yy_Ma_hasCycle cc_Ma_hasCycle 5 (some .boolean) ∈ gx_F := gx_F_in (tb_2 (List.mem_of_getElem? (i := 215) rfl)) rfl
theorem me_Ma_hasCycle : gx_me yy_Ma_hasCycle cc_Ma_hasCycle 5 (some .boolean) 0 := ⟨mc_Ma_hasCycle, iz_Ma, ⟨by decide, by decide, by decide +kernel⟩, by decide⟩
theorem mn_Ma_hasCycle : gx_in yy_Ma_hasCycle := ⟨gx_F_in (tb_2 (List.mem_of_getElem? (i := 213) (by decide +kernel))) rfl, gx_F_in (tb_2 (List.mem_of_getElem? (i := 214) (by decide +kernel))) rfl⟩
set_option maxRecDepth 20000 in
theorem mc_WM_isIn : Cond.code yy_WM_isIn cc_WM_isIn 2 (some .boolean) ∈ gx_F := gx_F_in (tb_2 (List.mem_of_getElem? (i := 218) rfl)) rfl
theorem me_WM_isIn : gx_me yy_WM_isIn cc_WM_isIn 2 (some .boolean) 2 := ⟨mc_WM_isIn, iz_WM, ⟨by decide, by decide, by decide +kernel⟩, by decide⟩
theorem ms_WM_isIn : Cond.static yy_WM_isIn ∈ gx_F := gx_F_in (tb_2 (List.mem_of_getElem? (i := 217) (by decide +kernel))) rfl
set_option maxRecDepth 20000 in
theorem mc_De_build : Cond.code yy_De_build cc_De_build 6 (some .boolean) ∈ gx_F := gx_F_in (tb_2 (List.mem_of_getElem? (i := 222) rfl)) rfl
theorem me_De_build : gx_me yy_De_build cc_De_build 6 (some .boolean) 2 := ⟨mc_De_build, iz_De, ⟨by decide, by decide, by decide +kernel⟩, by decide⟩
theorem mn_De_build : gx_in yy_De_build := ⟨gx_F_in (tb_2 (List.mem_of_getElem? (i := 220) (by decide +kernel))) rfl, gx_F_in (tb_2 (List.mem_of_getElem? (i := 221) (by decide +kernel))) rfl⟩
set_option maxRecDepth 20000 in
theorem mc_De_findNext : Cond.code yy_De_findNext cc_De_findNext 2 (some .int) ∈ gx_F := gx_F_in (tb_2 (List.mem_of_getElem? (i := 229) rfl)) rfl
theorem me_De_findNext : gx_me yy_De_findNext cc_De_findNext 2 (some .int) 0 := ⟨mc_De_findNext, iz_De, ⟨by decide, by decide, by decide +kernel⟩, by decide⟩
theorem mn_De_findNext : gx_in yy_De_findNext := ⟨gx_F_in (tb_2 (List.mem_of_getElem? (i := 228) (by decide +kernel))) rfl, gx_F_in (List.mem_append_left _ (List.mem_of_getElem? (i := 10) (by decide +kernel))) rfl⟩
set_option maxRecDepth 20000 in
theorem mc_De_isNext : Cond.code yy_De_isNext cc_De_isNext 3 (some .boolean) ∈ gx_F := gx_F_in (tb_2 (List.mem_of_getElem? (i := 233) rfl)) rfl
theorem me_De_isNext : gx_me yy_De_isNext cc_De_isNext 3 (some .boolean) 1 := ⟨mc_De_isNext, iz_De, ⟨by decide, by decide, by decide +kernel⟩, by decide⟩
theorem mn_De_isNext : gx_in yy_De_isNext := ⟨gx_F_in (tb_2 (List.mem_of_getElem? (i := 232) (by decide +kernel))) rfl, gx_F_in (List.mem_append_left _ (List.mem_of_getElem? (i := 11) (by decide +kernel))) rfl⟩
set_option maxRecDepth 20000 in
theorem mc_De_leastEnd : Cond.code yy_De_leastEnd cc_De_leastEnd 5 (some .long) ∈ gx_F := gx_F_in (tb_2 (List.mem_of_getElem? (i := 239) rfl)) rfl
theorem me_De_leastEnd : gx_me yy_De_leastEnd cc_De_leastEnd 5 (some .long) 1 := ⟨mc_De_leastEnd, iz_De, ⟨by decide, by decide, by decide +kernel⟩, by decide⟩
theorem mn_De_leastEnd : gx_in yy_De_leastEnd := ⟨gx_F_in (tb_2 (List.mem_of_getElem? (i := 238) (by decide +kernel))) rfl, gx_F_in (List.mem_append_left _ (List.mem_of_getElem? (i := 12) (by decide +kernel))) rfl⟩
set_option maxRecDepth 20000 in
theorem mc_De_leave : Cond.code yy_De_leave cc_De_leave 6 (some .boolean) ∈ gx_F := gx_F_in (tb_3 (List.mem_of_getElem? (i := 6) rfl)) rfl
theorem me_De_leave : gx_me yy_De_leave cc_De_leave 6 (some .boolean) 2 := ⟨mc_De_leave, iz_De, ⟨by decide, by decide, by decide +kernel⟩, by decide⟩
theorem mn_De_leave : gx_in yy_De_leave := ⟨gx_F_in (tb_3 (List.mem_of_getElem? (i := 5) (by decide +kernel))) rfl, gx_F_in (List.mem_append_left _ (List.mem_of_getElem? (i := 13) (by decide +kernel))) rfl⟩
set_option maxRecDepth 20000 in
theorem mc_De_sumUp : Cond.code yy_De_sumUp cc_De_sumUp 9 (some .long) ∈ gx_F := gx_F_in (tb_3 (List.mem_of_getElem? (i := 10) rfl)) rfl
theorem me_De_sumUp : gx_me yy_De_sumUp cc_De_sumUp 9 (some .long) 2 := ⟨mc_De_sumUp, iz_De, ⟨by decide, by decide, by decide +kernel⟩, by decide⟩
theorem mn_De_sumUp : gx_in yy_De_sumUp := ⟨gx_F_in (tb_3 (List.mem_of_getElem? (i := 9) (by decide +kernel))) rfl, gx_F_in (List.mem_append_left _ (List.mem_of_getElem? (i := 14) (by decide +kernel))) rfl⟩
set_option maxRecDepth 20000 in
theorem mc_WM_push : Cond.code yy_WM_push cc_WM_push 3 (some .int) ∈ gx_F := gx_F_in (tb_3 (List.mem_of_getElem? (i := 20) rfl)) rfl
theorem me_WM_push : gx_me yy_WM_push cc_WM_push 3 (some .int) 2 := ⟨mc_WM_push, iz_WM, ⟨by decide, by decide, by decide +kernel⟩, by decide⟩
theorem mn_WM_push : gx_in yy_WM_push := ⟨gx_F_in (tb_3 (List.mem_of_getElem? (i := 18) (by decide +kernel))) rfl, gx_F_in (tb_3 (List.mem_of_getElem? (i := 19) (by decide +kernel))) rfl⟩
set_option maxRecDepth 20000 in
theorem mc_On_look : Cond.code yy_On_look cc_On_look 7 none ∈ gx_F := gx_F_in (tb_3 (List.mem_of_getElem? (i := 24) rfl)) rfl
theorem me_On_look : gx_me yy_On_look cc_On_look 7 none 1 := ⟨mc_On_look, iz_On, ⟨by decide, by decide, by decide +kernel⟩, by decide⟩
theorem mn_On_look : gx_in yy_On_look := ⟨gx_F_in (tb_3 (List.mem_of_getElem? (i := 22) (by decide +kernel))) rfl, gx_F_in (tb_3 (List.mem_of_getElem? (i := 23) (by decide +kernel))) rfl⟩
set_option maxRecDepth 20000 in
theorem mc_On_costAlong : Cond.code yy_On_costAlong cc_On_costAlong 3 (some .long) ∈ gx_F := gx_F_in (tb_3 (List.mem_of_getElem? (i := 31) rfl)) rfl
theorem me_On_costAlong : gx_me yy_On_costAlong cc_On_costAlong 3 (some .long) 2 := ⟨mc_On_costAlong, iz_On, ⟨by decide, by decide, by decide +kernel⟩, by decide⟩
theorem mn_On_costAlong : gx_in yy_On_costAlong := ⟨gx_F_in (tb_3 (List.mem_of_getElem? (i := 30) (by decide +kernel))) rfl, gx_F_in (List.mem_append_left _ (List.mem_of_getElem? (i := 15) (by decide +kernel))) rfl⟩
set_option maxRecDepth 20000 in
theorem mc_WM_buildPushed : Cond.code yy_WM_buildPushed cc_WM_buildPushed 5 none ∈ gx_F := gx_F_in (tb_3 (List.mem_of_getElem? (i := 37) rfl)) rfl
theorem me_WM_buildPushed : gx_me yy_WM_buildPushed cc_WM_buildPushed 5 none 1 := ⟨mc_WM_buildPushed, iz_WM, ⟨by decide, by decide, by decide +kernel⟩, by decide⟩
theorem mn_WM_buildPushed : gx_in yy_WM_buildPushed := ⟨gx_F_in (tb_3 (List.mem_of_getElem? (i := 36) (by decide +kernel))) rfl, gx_F_in (List.mem_append_left _ (List.mem_of_getElem? (i := 16) (by decide +kernel))) rfl⟩
set_option maxRecDepth 20000 in
theorem mc_On_weightOf : Cond.code yy_On_weightOf cc_On_weightOf 2 (some .long) ∈ gx_F := gx_F_in (tb_3 (List.mem_of_getElem? (i := 42) rfl)) rfl
theorem me_On_weightOf : gx_me yy_On_weightOf cc_On_weightOf 2 (some .long) 1 := ⟨mc_On_weightOf, iz_On, ⟨by decide, by decide, by decide +kernel⟩, by decide⟩
theorem mn_On_weightOf : gx_in yy_On_weightOf := ⟨gx_F_in (tb_3 (List.mem_of_getElem? (i := 40) (by decide +kernel))) rfl, gx_F_in (tb_3 (List.mem_of_getElem? (i := 41) (by decide +kernel))) rfl⟩
set_option maxRecDepth 20000 in
theorem mc_On_isThere : Cond.code yy_On_isThere cc_On_isThere 2 (some .boolean) ∈ gx_F := gx_F_in (tb_3 (List.mem_of_getElem? (i := 46) rfl)) rfl
theorem me_On_isThere : gx_me yy_On_isThere cc_On_isThere 2 (some .boolean) 1 := ⟨mc_On_isThere, iz_On, ⟨by decide, by decide, by decide +kernel⟩, by decide⟩
theorem mn_On_isThere : gx_in yy_On_isThere := ⟨gx_F_in (tb_3 (List.mem_of_getElem? (i := 44) (by decide +kernel))) rfl, gx_F_in (tb_3 (List.mem_of_getElem? (i := 45) (by decide +kernel))) rfl⟩
set_option maxRecDepth 20000 in
theorem mc_WM_trim : Cond.code yy_WM_trim cc_WM_trim 3 (some .int) ∈ gx_F := gx_F_in (tb_3 (List.mem_of_getElem? (i := 52) rfl)) rfl
theorem me_WM_trim : gx_me yy_WM_trim cc_WM_trim 3 (some .int) 2 := ⟨mc_WM_trim, iz_WM, ⟨by decide, by decide, by decide +kernel⟩, by decide⟩
theorem mn_WM_trim : gx_in yy_WM_trim := ⟨gx_F_in (tb_3 (List.mem_of_getElem? (i := 50) (by decide +kernel))) rfl, gx_F_in (tb_3 (List.mem_of_getElem? (i := 51) (by decide +kernel))) rfl⟩
set_option maxRecDepth 20000 in
theorem mc_WM_buildTrimmed : Cond.code yy_WM_buildTrimmed cc_WM_buildTrimmed 7 none ∈ gx_F := gx_F_in (tb_3 (List.mem_of_getElem? (i := 56) rfl)) rfl
theorem me_WM_buildTrimmed : gx_me yy_WM_buildTrimmed cc_WM_buildTrimmed 7 none 1 := ⟨mc_WM_buildTrimmed, iz_WM, ⟨by decide, by decide, by decide +kernel⟩, by decide⟩
theorem mn_WM_buildTrimmed : gx_in yy_WM_buildTrimmed := ⟨gx_F_in (tb_3 (List.mem_of_getElem? (i := 55) (by decide +kernel))) rfl, gx_F_in (List.mem_append_left _ (List.mem_of_getElem? (i := 17) (by decide +kernel))) rfl⟩
set_option maxRecDepth 20000 in
theorem mc_Ma_statesAhead : Cond.code yy_Ma_statesAhead cc_Ma_statesAhead 4 (some .int) ∈ gx_F := gx_F_in (tb_3 (List.mem_of_getElem? (i := 60) rfl)) rfl
theorem me_Ma_statesAhead : gx_me yy_Ma_statesAhead cc_Ma_statesAhead 4 (some .int) 0 := ⟨mc_Ma_statesAhead, iz_Ma, ⟨by decide, by decide, by decide +kernel⟩, by decide⟩
theorem mn_Ma_statesAhead : gx_in yy_Ma_statesAhead := ⟨gx_F_in (tb_3 (List.mem_of_getElem? (i := 58) (by decide +kernel))) rfl, gx_F_in (tb_3 (List.mem_of_getElem? (i := 59) (by decide +kernel))) rfl⟩
set_option maxRecDepth 20000 in
theorem mc_Ma_statesBehind : Cond.code yy_Ma_statesBehind cc_Ma_statesBehind 4 (some .int) ∈ gx_F := gx_F_in (tb_3 (List.mem_of_getElem? (i := 64) rfl)) rfl
theorem me_Ma_statesBehind : gx_me yy_Ma_statesBehind cc_Ma_statesBehind 4 (some .int) 0 := ⟨mc_Ma_statesBehind, iz_Ma, ⟨by decide, by decide, by decide +kernel⟩, by decide⟩
theorem mn_Ma_statesBehind : gx_in yy_Ma_statesBehind := ⟨gx_F_in (tb_3 (List.mem_of_getElem? (i := 62) (by decide +kernel))) rfl, gx_F_in (tb_3 (List.mem_of_getElem? (i := 63) (by decide +kernel))) rfl⟩
theorem iz_JI : Cond.initialized "java/lang/Integer" ∈ gx_F := gx_F_in (tb_1 (List.mem_of_getElem? (i := 16) (by decide +kernel))) rfl
set_option maxRecDepth 20000 in
theorem mc_JI_bitCount : Cond.code yy_JI_bitCount cc_JI_bitCount 1 (some .int) ∈ gx_F := gx_F_in (tb_3 (List.mem_of_getElem? (i := 67) rfl)) rfl
theorem me_JI_bitCount : gx_me yy_JI_bitCount cc_JI_bitCount 1 (some .int) 1 := ⟨mc_JI_bitCount, iz_JI, ⟨by decide, by decide, by decide +kernel⟩, by decide⟩
theorem ms_JI_bitCount : Cond.static yy_JI_bitCount ∈ gx_F := gx_F_in (tb_3 (List.mem_of_getElem? (i := 66) (by decide +kernel))) rfl
set_option maxRecDepth 20000 in
theorem mc_WM_rankIn : Cond.code yy_WM_rankIn cc_WM_rankIn 2 (some .int) ∈ gx_F := gx_F_in (tb_3 (List.mem_of_getElem? (i := 74) rfl)) rfl
theorem me_WM_rankIn : gx_me yy_WM_rankIn cc_WM_rankIn 2 (some .int) 2 := ⟨mc_WM_rankIn, iz_WM, ⟨by decide, by decide, by decide +kernel⟩, by decide⟩
theorem ms_WM_rankIn : Cond.static yy_WM_rankIn ∈ gx_F := gx_F_in (tb_3 (List.mem_of_getElem? (i := 73) (by decide +kernel))) rfl
set_option maxRecDepth 20000 in
theorem mc_WM_weigh : Cond.code yy_WM_weigh cc_WM_weigh 4 (some .long) ∈ gx_F := gx_F_in (tb_3 (List.mem_of_getElem? (i := 79) rfl)) rfl
theorem me_WM_weigh : gx_me yy_WM_weigh cc_WM_weigh 4 (some .long) 3 := ⟨mc_WM_weigh, iz_WM, ⟨by decide, by decide, by decide +kernel⟩, by decide⟩
theorem mn_WM_weigh : gx_in yy_WM_weigh := ⟨gx_F_in (tb_3 (List.mem_of_getElem? (i := 77) (by decide +kernel))) rfl, gx_F_in (tb_3 (List.mem_of_getElem? (i := 78) (by decide +kernel))) rfl⟩
set_option maxRecDepth 20000 in
theorem mc_We_leastWeight : Cond.code yy_We_leastWeight cc_We_leastWeight 6 (some .long) ∈ gx_F := gx_F_in (tb_3 (List.mem_of_getElem? (i := 83) rfl)) rfl
theorem me_We_leastWeight : gx_me yy_We_leastWeight cc_We_leastWeight 6 (some .long) 3 := ⟨mc_We_leastWeight, iz_We, ⟨by decide, by decide, by decide +kernel⟩, by decide⟩
theorem mn_We_leastWeight : gx_in yy_We_leastWeight := ⟨gx_F_in (tb_3 (List.mem_of_getElem? (i := 81) (by decide +kernel))) rfl, gx_F_in (tb_3 (List.mem_of_getElem? (i := 82) (by decide +kernel))) rfl⟩
set_option maxRecDepth 20000 in
theorem mc_Ro_take : Cond.code yy_Ro_take cc_Ro_take 5 (some .boolean) ∈ gx_F := gx_F_in (tb_3 (List.mem_of_getElem? (i := 87) rfl)) rfl
theorem me_Ro_take : gx_me yy_Ro_take cc_Ro_take 5 (some .boolean) 1 := ⟨mc_Ro_take, iz_Ro, ⟨by decide, by decide, by decide +kernel⟩, by decide⟩
theorem mn_Ro_take : gx_in yy_Ro_take := ⟨gx_F_in (tb_3 (List.mem_of_getElem? (i := 85) (by decide +kernel))) rfl, gx_F_in (tb_3 (List.mem_of_getElem? (i := 86) (by decide +kernel))) rfl⟩
set_option maxRecDepth 20000 in
theorem mc_We_baseOf : Cond.code yy_We_baseOf cc_We_baseOf 2 (some .int) ∈ gx_F := gx_F_in (tb_3 (List.mem_of_getElem? (i := 93) rfl)) rfl
theorem me_We_baseOf : gx_me yy_We_baseOf cc_We_baseOf 2 (some .int) 2 := ⟨mc_We_baseOf, iz_We, ⟨by decide, by decide, by decide +kernel⟩, by decide⟩
theorem ms_We_baseOf : Cond.static yy_We_baseOf ∈ gx_F := gx_F_in (tb_3 (List.mem_of_getElem? (i := 92) (by decide +kernel))) rfl
set_option maxRecDepth 20000 in
theorem mc_We_leave : Cond.code yy_We_leave cc_We_leave 11 none ∈ gx_F := gx_F_in (tb_3 (List.mem_of_getElem? (i := 98) rfl)) rfl
theorem me_We_leave : gx_me yy_We_leave cc_We_leave 11 none 3 := ⟨mc_We_leave, iz_We, ⟨by decide, by decide, by decide +kernel⟩, by decide⟩
theorem mn_We_leave : gx_in yy_We_leave := ⟨gx_F_in (tb_3 (List.mem_of_getElem? (i := 97) (by decide +kernel))) rfl, gx_F_in (List.mem_append_left _ (List.mem_of_getElem? (i := 18) (by decide +kernel))) rfl⟩
set_option maxRecDepth 20000 in
theorem mc_Ro_doneAfter : Cond.code yy_Ro_doneAfter cc_Ro_doneAfter 4 (some .int) ∈ gx_F := gx_F_in (tb_3 (List.mem_of_getElem? (i := 103) rfl)) rfl
theorem me_Ro_doneAfter : gx_me yy_Ro_doneAfter cc_Ro_doneAfter 4 (some .int) 2 := ⟨mc_Ro_doneAfter, iz_Ro, ⟨by decide, by decide, by decide +kernel⟩, by decide⟩
theorem mn_Ro_doneAfter : gx_in yy_Ro_doneAfter := ⟨gx_F_in (tb_3 (List.mem_of_getElem? (i := 101) (by decide +kernel))) rfl, gx_F_in (tb_3 (List.mem_of_getElem? (i := 102) (by decide +kernel))) rfl⟩
set_option maxRecDepth 20000 in
theorem mc_We_leastEnd : Cond.code yy_We_leastEnd cc_We_leastEnd 6 (some .long) ∈ gx_F := gx_F_in (tb_3 (List.mem_of_getElem? (i := 112) rfl)) rfl
theorem me_We_leastEnd : gx_me yy_We_leastEnd cc_We_leastEnd 6 (some .long) 2 := ⟨mc_We_leastEnd, iz_We, ⟨by decide, by decide, by decide +kernel⟩, by decide⟩
theorem mn_We_leastEnd : gx_in yy_We_leastEnd := ⟨gx_F_in (tb_3 (List.mem_of_getElem? (i := 111) (by decide +kernel))) rfl, gx_F_in (List.mem_append_left _ (List.mem_of_getElem? (i := 19) (by decide +kernel))) rfl⟩
set_option maxRecDepth 20000 in
theorem mc_WM_best : Cond.code yy_WM_best cc_WM_best 3 (some .long) ∈ gx_F := gx_F_in (tb_3 (List.mem_of_getElem? (i := 117) rfl)) rfl
theorem me_WM_best : gx_me yy_WM_best cc_WM_best 3 (some .long) 1 := ⟨mc_WM_best, iz_WM, ⟨by decide, by decide, by decide +kernel⟩, by decide⟩
theorem mn_WM_best : gx_in yy_WM_best := ⟨gx_F_in (tb_3 (List.mem_of_getElem? (i := 115) (by decide +kernel))) rfl, gx_F_in (tb_3 (List.mem_of_getElem? (i := 116) (by decide +kernel))) rfl⟩
set_option maxRecDepth 20000 in
theorem mc_BP_keep : Cond.code yy_BP_keep cc_BP_keep 7 none ∈ gx_F := gx_F_in (tb_3 (List.mem_of_getElem? (i := 121) rfl)) rfl
theorem me_BP_keep : gx_me yy_BP_keep cc_BP_keep 7 none 2 := ⟨mc_BP_keep, iz_BP, ⟨by decide, by decide, by decide +kernel⟩, by decide⟩
theorem mn_BP_keep : gx_in yy_BP_keep := ⟨gx_F_in (tb_3 (List.mem_of_getElem? (i := 119) (by decide +kernel))) rfl, gx_F_in (tb_3 (List.mem_of_getElem? (i := 120) (by decide +kernel))) rfl⟩
set_option maxRecDepth 20000 in
theorem mc_On_arcsOf : Cond.code yy_On_arcsOf cc_On_arcsOf 2 (some .int) ∈ gx_F := gx_F_in (tb_3 (List.mem_of_getElem? (i := 125) rfl)) rfl
theorem me_On_arcsOf : gx_me yy_On_arcsOf cc_On_arcsOf 2 (some .int) 1 := ⟨mc_On_arcsOf, iz_On, ⟨by decide, by decide, by decide +kernel⟩, by decide⟩
theorem mn_On_arcsOf : gx_in yy_On_arcsOf := ⟨gx_F_in (tb_3 (List.mem_of_getElem? (i := 123) (by decide +kernel))) rfl, gx_F_in (tb_3 (List.mem_of_getElem? (i := 124) (by decide +kernel))) rfl⟩
set_option maxRecDepth 20000 in
theorem mc_JM_minX : Cond.code yy_JM_minX cc_JM_minX 2 (some .int) ∈ gx_F := gx_F_in (tb_3 (List.mem_of_getElem? (i := 128) rfl)) rfl
theorem me_JM_minX : gx_me yy_JM_minX cc_JM_minX 2 (some .int) 2 := ⟨mc_JM_minX, iz_JM, ⟨by decide, by decide, by decide +kernel⟩, by decide⟩
theorem ms_JM_minX : Cond.static yy_JM_minX ∈ gx_F := gx_F_in (tb_3 (List.mem_of_getElem? (i := 127) (by decide +kernel))) rfl
set_option maxRecDepth 20000 in
theorem mc_On_bestArc : Cond.code yy_On_bestArc cc_On_bestArc 4 (some .int) ∈ gx_F := gx_F_in (tb_3 (List.mem_of_getElem? (i := 132) rfl)) rfl
theorem me_On_bestArc : gx_me yy_On_bestArc cc_On_bestArc 4 (some .int) 2 := ⟨mc_On_bestArc, iz_On, ⟨by decide, by decide, by decide +kernel⟩, by decide⟩
theorem mn_On_bestArc : gx_in yy_On_bestArc := ⟨gx_F_in (tb_3 (List.mem_of_getElem? (i := 130) (by decide +kernel))) rfl, gx_F_in (tb_3 (List.mem_of_getElem? (i := 131) (by decide +kernel))) rfl⟩
set_option maxRecDepth 20000 in
theorem mc_WM_step : Cond.code yy_WM_step cc_WM_step 3 (some .int) ∈ gx_F := gx_F_in (tb_3 (List.mem_of_getElem? (i := 139) rfl)) rfl
theorem me_WM_step : gx_me yy_WM_step cc_WM_step 3 (some .int) 2 := ⟨mc_WM_step, iz_WM, ⟨by decide, by decide, by decide +kernel⟩, by decide⟩
theorem mn_WM_step : gx_in yy_WM_step := ⟨gx_F_in (tb_3 (List.mem_of_getElem? (i := 137) (by decide +kernel))) rfl, gx_F_in (tb_3 (List.mem_of_getElem? (i := 138) (by decide +kernel))) rfl⟩
set_option maxRecDepth 20000 in
theorem mc_WM_arcPart : Cond.code yy_WM_arcPart cc_WM_arcPart 4 (some .int) ∈ gx_F := gx_F_in (tb_3 (List.mem_of_getElem? (i := 142) rfl)) rfl
theorem me_WM_arcPart : gx_me yy_WM_arcPart cc_WM_arcPart 4 (some .int) 3 := ⟨mc_WM_arcPart, iz_WM, ⟨by decide, by decide, by decide +kernel⟩, by decide⟩
theorem ms_WM_arcPart : Cond.static yy_WM_arcPart ∈ gx_F := gx_F_in (tb_3 (List.mem_of_getElem? (i := 141) (by decide +kernel))) rfl
set_option maxRecDepth 20000 in
theorem mc_WM_count : Cond.code yy_WM_count cc_WM_count 4 (some .int) ∈ gx_F := gx_F_in (tb_3 (List.mem_of_getElem? (i := 148) rfl)) rfl
theorem me_WM_count : gx_me yy_WM_count cc_WM_count 4 (some .int) 2 := ⟨mc_WM_count, iz_WM, ⟨by decide, by decide, by decide +kernel⟩, by decide⟩
theorem mn_WM_count : gx_in yy_WM_count := ⟨gx_F_in (tb_3 (List.mem_of_getElem? (i := 146) (by decide +kernel))) rfl, gx_F_in (tb_3 (List.mem_of_getElem? (i := 147) (by decide +kernel))) rfl⟩
set_option maxRecDepth 20000 in
theorem mc_Ma_countEnds : Cond.code yy_Ma_countEnds cc_Ma_countEnds 3 (some .int) ∈ gx_F := gx_F_in (tb_3 (List.mem_of_getElem? (i := 152) rfl)) rfl
theorem me_Ma_countEnds : gx_me yy_Ma_countEnds cc_Ma_countEnds 3 (some .int) 0 := ⟨mc_Ma_countEnds, iz_Ma, ⟨by decide, by decide, by decide +kernel⟩, by decide⟩
theorem mn_Ma_countEnds : gx_in yy_Ma_countEnds := ⟨gx_F_in (tb_3 (List.mem_of_getElem? (i := 150) (by decide +kernel))) rfl, gx_F_in (tb_3 (List.mem_of_getElem? (i := 151) (by decide +kernel))) rfl⟩
set_option maxRecDepth 20000 in
theorem mc_WM_part : Cond.code yy_WM_part cc_WM_part 4 (some .int) ∈ gx_F := gx_F_in (tb_3 (List.mem_of_getElem? (i := 156) rfl)) rfl
theorem me_WM_part : gx_me yy_WM_part cc_WM_part 4 (some .int) 3 := ⟨mc_WM_part, iz_WM, ⟨by decide, by decide, by decide +kernel⟩, by decide⟩
theorem mn_WM_part : gx_in yy_WM_part := ⟨gx_F_in (tb_3 (List.mem_of_getElem? (i := 154) (by decide +kernel))) rfl, gx_F_in (tb_3 (List.mem_of_getElem? (i := 155) (by decide +kernel))) rfl⟩
set_option maxRecDepth 20000 in
theorem mc_WM_endOf : Cond.code yy_WM_endOf cc_WM_endOf 3 (some .int) ∈ gx_F := gx_F_in (tb_3 (List.mem_of_getElem? (i := 160) rfl)) rfl
theorem me_WM_endOf : gx_me yy_WM_endOf cc_WM_endOf 3 (some .int) 2 := ⟨mc_WM_endOf, iz_WM, ⟨by decide, by decide, by decide +kernel⟩, by decide⟩
theorem mn_WM_endOf : gx_in yy_WM_endOf := ⟨gx_F_in (tb_3 (List.mem_of_getElem? (i := 158) (by decide +kernel))) rfl, gx_F_in (tb_3 (List.mem_of_getElem? (i := 159) (by decide +kernel))) rfl⟩
set_option maxRecDepth 20000 in
theorem mc_WM_print : Cond.code yy_WM_print cc_WM_print 2 (some .int) ∈ gx_F := gx_F_in (tb_3 (List.mem_of_getElem? (i := 164) rfl)) rfl
theorem me_WM_print : gx_me yy_WM_print cc_WM_print 2 (some .int) 1 := ⟨mc_WM_print, iz_WM, ⟨by decide, by decide, by decide +kernel⟩, by decide⟩
theorem mn_WM_print : gx_in yy_WM_print := ⟨gx_F_in (tb_3 (List.mem_of_getElem? (i := 162) (by decide +kernel))) rfl, gx_F_in (tb_3 (List.mem_of_getElem? (i := 163) (by decide +kernel))) rfl⟩
set_option maxRecDepth 20000 in
theorem mc_Te_tell : Cond.code yy_Te_tell cc_Te_tell 3 none ∈ gx_F := gx_F_in (tb_3 (List.mem_of_getElem? (i := 168) rfl)) rfl
theorem me_Te_tell : gx_me yy_Te_tell cc_Te_tell 3 none 1 := ⟨mc_Te_tell, iz_Te, ⟨by decide, by decide, by decide +kernel⟩, by decide⟩
theorem mn_Te_tell : gx_in yy_Te_tell := ⟨gx_F_in (tb_3 (List.mem_of_getElem? (i := 166) (by decide +kernel))) rfl, gx_F_in (tb_3 (List.mem_of_getElem? (i := 167) (by decide +kernel))) rfl⟩
set_option maxRecDepth 20000 in
theorem mc_Te_put : Cond.code yy_Te_put cc_Te_put 2 none ∈ gx_F := gx_F_in (tb_3 (List.mem_of_getElem? (i := 172) rfl)) rfl
theorem me_Te_put : gx_me yy_Te_put cc_Te_put 2 none 1 := ⟨mc_Te_put, iz_Te, ⟨by decide, by decide, by decide +kernel⟩, by decide⟩
theorem mn_Te_put : gx_in yy_Te_put := ⟨gx_F_in (tb_3 (List.mem_of_getElem? (i := 170) (by decide +kernel))) rfl, gx_F_in (tb_3 (List.mem_of_getElem? (i := 171) (by decide +kernel))) rfl⟩
set_option maxRecDepth 20000 in
theorem mc_Te_putNumber : Cond.code yy_Te_putNumber cc_Te_putNumber 6 none ∈ gx_F := gx_F_in (tb_3 (List.mem_of_getElem? (i := 176) rfl)) rfl
theorem me_Te_putNumber : gx_me yy_Te_putNumber cc_Te_putNumber 6 none 1 := ⟨mc_Te_putNumber, iz_Te, ⟨by decide, by decide, by decide +kernel⟩, by decide⟩
theorem mn_Te_putNumber : gx_in yy_Te_putNumber := ⟨gx_F_in (tb_3 (List.mem_of_getElem? (i := 175) (by decide +kernel))) rfl, gx_F_in (List.mem_append_left _ (List.mem_of_getElem? (i := 20) (by decide +kernel))) rfl⟩
set_option maxRecDepth 20000 in
theorem mc_Te_putStateWeight : Cond.code yy_Te_putStateWeight cc_Te_putStateWeight 5 none ∈ gx_F := gx_F_in (tb_3 (List.mem_of_getElem? (i := 181) rfl)) rfl
theorem me_Te_putStateWeight : gx_me yy_Te_putStateWeight cc_Te_putStateWeight 5 none 3 := ⟨mc_Te_putStateWeight, iz_Te, ⟨by decide, by decide, by decide +kernel⟩, by decide⟩
theorem mn_Te_putStateWeight : gx_in yy_Te_putStateWeight := ⟨gx_F_in (tb_3 (List.mem_of_getElem? (i := 180) (by decide +kernel))) rfl, gx_F_in (List.mem_append_left _ (List.mem_of_getElem? (i := 21) (by decide +kernel))) rfl⟩
set_option maxRecDepth 20000 in
theorem mc_Te_putWeight : Cond.code yy_Te_putWeight cc_Te_putWeight 3 none ∈ gx_F := gx_F_in (tb_3 (List.mem_of_getElem? (i := 185) rfl)) rfl
theorem me_Te_putWeight : gx_me yy_Te_putWeight cc_Te_putWeight 3 none 1 := ⟨mc_Te_putWeight, iz_Te, ⟨by decide, by decide, by decide +kernel⟩, by decide⟩
theorem mn_Te_putWeight : gx_in yy_Te_putWeight := ⟨gx_F_in (tb_3 (List.mem_of_getElem? (i := 184) (by decide +kernel))) rfl, gx_F_in (List.mem_append_left _ (List.mem_of_getElem? (i := 22) (by decide +kernel))) rfl⟩
set_option maxRecDepth 20000 in
theorem mc_Te_putArc : Cond.code yy_Te_putArc cc_Te_putArc 4 none ∈ gx_F := gx_F_in (tb_3 (List.mem_of_getElem? (i := 190) rfl)) rfl
theorem me_Te_putArc : gx_me yy_Te_putArc cc_Te_putArc 4 none 2 := ⟨mc_Te_putArc, iz_Te, ⟨by decide, by decide, by decide +kernel⟩, by decide⟩
theorem mn_Te_putArc : gx_in yy_Te_putArc := ⟨gx_F_in (tb_3 (List.mem_of_getElem? (i := 189) (by decide +kernel))) rfl, gx_F_in (List.mem_append_left _ (List.mem_of_getElem? (i := 23) (by decide +kernel))) rfl⟩
set_option maxRecDepth 20000 in
theorem mc_WM_parse : Cond.code yy_WM_parse cc_WM_parse 3 (some .int) ∈ gx_F := gx_F_in (tb_3 (List.mem_of_getElem? (i := 198) rfl)) rfl
theorem me_WM_parse : gx_me yy_WM_parse cc_WM_parse 3 (some .int) 1 := ⟨mc_WM_parse, iz_WM, ⟨by decide, by decide, by decide +kernel⟩, by decide⟩
theorem mn_WM_parse : gx_in yy_WM_parse := ⟨gx_F_in (tb_3 (List.mem_of_getElem? (i := 196) (by decide +kernel))) rfl, gx_F_in (tb_3 (List.mem_of_getElem? (i := 197) (by decide +kernel))) rfl⟩
set_option maxRecDepth 20000 in
theorem mc_Pa_build : Cond.code yy_Pa_build cc_Pa_build 5 (some .int) ∈ gx_F := gx_F_in (tb_3 (List.mem_of_getElem? (i := 202) rfl)) rfl
theorem me_Pa_build : gx_me yy_Pa_build cc_Pa_build 5 (some .int) 2 := ⟨mc_Pa_build, iz_Pa, ⟨by decide, by decide, by decide +kernel⟩, by decide⟩
theorem mn_Pa_build : gx_in yy_Pa_build := ⟨gx_F_in (tb_3 (List.mem_of_getElem? (i := 200) (by decide +kernel))) rfl, gx_F_in (tb_3 (List.mem_of_getElem? (i := 201) (by decide +kernel))) rfl⟩
set_option maxRecDepth 20000 in
theorem mc_Pa_readSize : Cond.code yy_Pa_readSize cc_Pa_readSize 2 (some .int) ∈ gx_F := gx_F_in (tb_3 (List.mem_of_getElem? (i := 206) rfl)) rfl
theorem me_Pa_readSize : gx_me yy_Pa_readSize cc_Pa_readSize 2 (some .int) 0 := ⟨mc_Pa_readSize, iz_Pa, ⟨by decide, by decide, by decide +kernel⟩, by decide⟩
theorem mn_Pa_readSize : gx_in yy_Pa_readSize := ⟨gx_F_in (tb_3 (List.mem_of_getElem? (i := 205) (by decide +kernel))) rfl, gx_F_in (List.mem_append_left _ (List.mem_of_getElem? (i := 24) (by decide +kernel))) rfl⟩
set_option maxRecDepth 20000 in
theorem mc_Pa_readSign : Cond.code yy_Pa_readSign cc_Pa_readSign 2 (some .int) ∈ gx_F := gx_F_in (tb_3 (List.mem_of_getElem? (i := 210) rfl)) rfl
theorem me_Pa_readSign : gx_me yy_Pa_readSign cc_Pa_readSign 2 (some .int) 1 := ⟨mc_Pa_readSign, iz_Pa, ⟨by decide, by decide, by decide +kernel⟩, by decide⟩
theorem mn_Pa_readSign : gx_in yy_Pa_readSign := ⟨gx_F_in (tb_3 (List.mem_of_getElem? (i := 209) (by decide +kernel))) rfl, gx_F_in (List.mem_append_left _ (List.mem_of_getElem? (i := 25) (by decide +kernel))) rfl⟩
set_option maxRecDepth 20000 in
theorem mc_Te_codeAt : Cond.code yy_Te_codeAt cc_Te_codeAt 2 (some .int) ∈ gx_F := gx_F_in (tb_3 (List.mem_of_getElem? (i := 214) rfl)) rfl
theorem me_Te_codeAt : gx_me yy_Te_codeAt cc_Te_codeAt 2 (some .int) 1 := ⟨mc_Te_codeAt, iz_Te, ⟨by decide, by decide, by decide +kernel⟩, by decide⟩
theorem mn_Te_codeAt : gx_in yy_Te_codeAt := ⟨gx_F_in (tb_3 (List.mem_of_getElem? (i := 212) (by decide +kernel))) rfl, gx_F_in (tb_3 (List.mem_of_getElem? (i := 213) (by decide +kernel))) rfl⟩
set_option maxRecDepth 20000 in
theorem mc_Pa_readNumber : Cond.code yy_Pa_readNumber cc_Pa_readNumber 4 (some .int) ∈ gx_F := gx_F_in (tb_3 (List.mem_of_getElem? (i := 219) rfl)) rfl
theorem me_Pa_readNumber : gx_me yy_Pa_readNumber cc_Pa_readNumber 4 (some .int) 1 := ⟨mc_Pa_readNumber, iz_Pa, ⟨by decide, by decide, by decide +kernel⟩, by decide⟩
theorem mn_Pa_readNumber : gx_in yy_Pa_readNumber := ⟨gx_F_in (tb_3 (List.mem_of_getElem? (i := 218) (by decide +kernel))) rfl, gx_F_in (List.mem_append_left _ (List.mem_of_getElem? (i := 26) (by decide +kernel))) rfl⟩
set_option maxRecDepth 20000 in
theorem mc_Pa_isDigit : Cond.code yy_Pa_isDigit cc_Pa_isDigit 1 (some .boolean) ∈ gx_F := gx_F_in (tb_3 (List.mem_of_getElem? (i := 222) rfl)) rfl
theorem me_Pa_isDigit : gx_me yy_Pa_isDigit cc_Pa_isDigit 1 (some .boolean) 1 := ⟨mc_Pa_isDigit, iz_Pa, ⟨by decide, by decide, by decide +kernel⟩, by decide⟩
theorem ms_Pa_isDigit : Cond.static yy_Pa_isDigit ∈ gx_F := gx_F_in (tb_3 (List.mem_of_getElem? (i := 221) (by decide +kernel))) rfl
set_option maxRecDepth 20000 in
theorem mc_Pa_readItem : Cond.code yy_Pa_readItem cc_Pa_readItem 1 (some .int) ∈ gx_F := gx_F_in (tb_3 (List.mem_of_getElem? (i := 229) rfl)) rfl
theorem me_Pa_readItem : gx_me yy_Pa_readItem cc_Pa_readItem 1 (some .int) 0 := ⟨mc_Pa_readItem, iz_Pa, ⟨by decide, by decide, by decide +kernel⟩, by decide⟩
theorem mn_Pa_readItem : gx_in yy_Pa_readItem := ⟨gx_F_in (tb_3 (List.mem_of_getElem? (i := 228) (by decide +kernel))) rfl, gx_F_in (List.mem_append_left _ (List.mem_of_getElem? (i := 27) (by decide +kernel))) rfl⟩
set_option maxRecDepth 20000 in
theorem mc_Pa_readStart : Cond.code yy_Pa_readStart cc_Pa_readStart 3 (some .int) ∈ gx_F := gx_F_in (tb_3 (List.mem_of_getElem? (i := 233) rfl)) rfl
theorem me_Pa_readStart : gx_me yy_Pa_readStart cc_Pa_readStart 3 (some .int) 0 := ⟨mc_Pa_readStart, iz_Pa, ⟨by decide, by decide, by decide +kernel⟩, by decide⟩
theorem mn_Pa_readStart : gx_in yy_Pa_readStart := ⟨gx_F_in (tb_3 (List.mem_of_getElem? (i := 232) (by decide +kernel))) rfl, gx_F_in (List.mem_append_left _ (List.mem_of_getElem? (i := 28) (by decide +kernel))) rfl⟩
set_option maxRecDepth 20000 in
theorem mc_Pa_readState : Cond.code yy_Pa_readState cc_Pa_readState 1 (some .int) ∈ gx_F := gx_F_in (tb_3 (List.mem_of_getElem? (i := 237) rfl)) rfl
theorem me_Pa_readState : gx_me yy_Pa_readState cc_Pa_readState 1 (some .int) 0 := ⟨mc_Pa_readState, iz_Pa, ⟨by decide, by decide, by decide +kernel⟩, by decide⟩
theorem mn_Pa_readState : gx_in yy_Pa_readState := ⟨gx_F_in (tb_3 (List.mem_of_getElem? (i := 236) (by decide +kernel))) rfl, gx_F_in (List.mem_append_left _ (List.mem_of_getElem? (i := 29) (by decide +kernel))) rfl⟩
set_option maxRecDepth 20000 in
theorem mc_Pa_readWeight : Cond.code yy_Pa_readWeight cc_Pa_readWeight 2 (some .int) ∈ gx_F := gx_F_in (tb_4 (List.mem_of_getElem? (i := 1) rfl)) rfl
theorem me_Pa_readWeight : gx_me yy_Pa_readWeight cc_Pa_readWeight 2 (some .int) 0 := ⟨mc_Pa_readWeight, iz_Pa, ⟨by decide, by decide, by decide +kernel⟩, by decide⟩
theorem mn_Pa_readWeight : gx_in yy_Pa_readWeight := ⟨gx_F_in (tb_4 (List.mem_of_getElem? (i := 0) (by decide +kernel))) rfl, gx_F_in (List.mem_append_left _ (List.mem_of_getElem? (i := 30) (by decide +kernel))) rfl⟩
set_option maxRecDepth 20000 in
theorem mc_Pa_readEnd : Cond.code yy_Pa_readEnd cc_Pa_readEnd 3 (some .int) ∈ gx_F := gx_F_in (tb_4 (List.mem_of_getElem? (i := 7) rfl)) rfl
theorem me_Pa_readEnd : gx_me yy_Pa_readEnd cc_Pa_readEnd 3 (some .int) 0 := ⟨mc_Pa_readEnd, iz_Pa, ⟨by decide, by decide, by decide +kernel⟩, by decide⟩
theorem mn_Pa_readEnd : gx_in yy_Pa_readEnd := ⟨gx_F_in (tb_4 (List.mem_of_getElem? (i := 6) (by decide +kernel))) rfl, gx_F_in (List.mem_append_left _ (List.mem_of_getElem? (i := 31) (by decide +kernel))) rfl⟩
set_option maxRecDepth 20000 in
theorem mc_Pa_readArc : Cond.code yy_Pa_readArc cc_Pa_readArc 6 (some .int) ∈ gx_F := gx_F_in (tb_4 (List.mem_of_getElem? (i := 12) rfl)) rfl
theorem me_Pa_readArc : gx_me yy_Pa_readArc cc_Pa_readArc 6 (some .int) 0 := ⟨mc_Pa_readArc, iz_Pa, ⟨by decide, by decide, by decide +kernel⟩, by decide⟩
theorem mn_Pa_readArc : gx_in yy_Pa_readArc := ⟨gx_F_in (tb_4 (List.mem_of_getElem? (i := 11) (by decide +kernel))) rfl, gx_F_in (List.mem_append_left _ (List.mem_of_getElem? (i := 32) (by decide +kernel))) rfl⟩
set_option maxRecDepth 20000 in
theorem mc_Pa_readLabel : Cond.code yy_Pa_readLabel cc_Pa_readLabel 1 (some .int) ∈ gx_F := gx_F_in (tb_4 (List.mem_of_getElem? (i := 16) rfl)) rfl
theorem me_Pa_readLabel : gx_me yy_Pa_readLabel cc_Pa_readLabel 1 (some .int) 0 := ⟨mc_Pa_readLabel, iz_Pa, ⟨by decide, by decide, by decide +kernel⟩, by decide⟩
theorem mn_Pa_readLabel : gx_in yy_Pa_readLabel := ⟨gx_F_in (tb_4 (List.mem_of_getElem? (i := 15) (by decide +kernel))) rfl, gx_F_in (List.mem_append_left _ (List.mem_of_getElem? (i := 33) (by decide +kernel))) rfl⟩
set_option maxRecDepth 20000 in
theorem mc_WM_feed : Cond.code yy_WM_feed cc_WM_feed 5 (some .int) ∈ gx_F := gx_F_in (tb_4 (List.mem_of_getElem? (i := 24) rfl)) rfl
theorem me_WM_feed : gx_me yy_WM_feed cc_WM_feed 5 (some .int) 2 := ⟨mc_WM_feed, iz_WM, ⟨by decide, by decide, by decide +kernel⟩, by decide⟩
theorem mn_WM_feed : gx_in yy_WM_feed := ⟨gx_F_in (tb_4 (List.mem_of_getElem? (i := 22) (by decide +kernel))) rfl, gx_F_in (tb_4 (List.mem_of_getElem? (i := 23) (by decide +kernel))) rfl⟩
set_option maxRecDepth 20000 in
theorem mc_WM_areLetters : Cond.code yy_WM_areLetters cc_WM_areLetters 6 (some .boolean) ∈ gx_F := gx_F_in (tb_4 (List.mem_of_getElem? (i := 27) rfl)) rfl
theorem me_WM_areLetters : gx_me yy_WM_areLetters cc_WM_areLetters 6 (some .boolean) 2 := ⟨mc_WM_areLetters, iz_WM, ⟨by decide, by decide, by decide +kernel⟩, by decide⟩
theorem ms_WM_areLetters : Cond.static yy_WM_areLetters ∈ gx_F := gx_F_in (tb_4 (List.mem_of_getElem? (i := 26) (by decide +kernel))) rfl
set_option maxRecDepth 20000 in
theorem mc_WM_letter : Cond.code yy_WM_letter cc_WM_letter 2 (some .int) ∈ gx_F := gx_F_in (tb_4 (List.mem_of_getElem? (i := 35) rfl)) rfl
theorem me_WM_letter : gx_me yy_WM_letter cc_WM_letter 2 (some .int) 1 := ⟨mc_WM_letter, iz_WM, ⟨by decide, by decide, by decide +kernel⟩, by decide⟩
theorem mn_WM_letter : gx_in yy_WM_letter := ⟨gx_F_in (tb_4 (List.mem_of_getElem? (i := 33) (by decide +kernel))) rfl, gx_F_in (tb_4 (List.mem_of_getElem? (i := 34) (by decide +kernel))) rfl⟩
theorem iz_Mo : Cond.initialized "WeighedMachinesModel" ∈ gx_F := gx_F_in (tb_1 (List.mem_of_getElem? (i := 13) (by decide +kernel))) rfl
set_option maxRecDepth 20000 in
theorem mc_Mo_init : Cond.code yy_Mo_init cc_Mo_init 2 none ∈ gx_F := gx_F_in (tb_4 (List.mem_of_getElem? (i := 41) rfl)) rfl
theorem me_Mo_init : gx_me yy_Mo_init cc_Mo_init 2 none 0 := ⟨mc_Mo_init, iz_Mo, ⟨by decide, by decide, by decide +kernel⟩, by decide⟩
theorem mn_Mo_init : Cond.instanceMethod yy_Mo_init ∈ gx_F := gx_F_in (tb_4 (List.mem_of_getElem? (i := 40) (by decide +kernel))) rfl
set_option maxRecDepth 20000 in
theorem mc_Mo_blank : Cond.code yy_Mo_blank cc_Mo_blank 4 none ∈ gx_F := gx_F_in (tb_4 (List.mem_of_getElem? (i := 46) rfl)) rfl
theorem me_Mo_blank : gx_me yy_Mo_blank cc_Mo_blank 4 none 2 := ⟨mc_Mo_blank, iz_Mo, ⟨by decide, by decide, by decide +kernel⟩, by decide⟩
theorem mn_Mo_blank : gx_in yy_Mo_blank := ⟨gx_F_in (tb_4 (List.mem_of_getElem? (i := 45) (by decide +kernel))) rfl, gx_F_in (List.mem_append_left _ (List.mem_of_getElem? (i := 34) (by decide +kernel))) rfl⟩
set_option maxRecDepth 20000 in
theorem mc_Mo_fresh : Cond.code yy_Mo_fresh cc_Mo_fresh 3 (some .boolean) ∈ gx_F := gx_F_in (tb_4 (List.mem_of_getElem? (i := 137) rfl)) rfl
theorem me_Mo_fresh : gx_me yy_Mo_fresh cc_Mo_fresh 3 (some .boolean) 2 := ⟨mc_Mo_fresh, iz_Mo, ⟨by decide, by decide, by decide +kernel⟩, by decide⟩
theorem mn_Mo_fresh : gx_in yy_Mo_fresh := ⟨gx_F_in (tb_4 (List.mem_of_getElem? (i := 135) (by decide +kernel))) rfl, gx_F_in (tb_4 (List.mem_of_getElem? (i := 136) (by decide +kernel))) rfl⟩
set_option maxRecDepth 20000 in
theorem mc_Mo_isSlot : Cond.code yy_Mo_isSlot cc_Mo_isSlot 1 (some .boolean) ∈ gx_F := gx_F_in (tb_4 (List.mem_of_getElem? (i := 140) rfl)) rfl
theorem me_Mo_isSlot : gx_me yy_Mo_isSlot cc_Mo_isSlot 1 (some .boolean) 1 := ⟨mc_Mo_isSlot, iz_Mo, ⟨by decide, by decide, by decide +kernel⟩, by decide⟩
theorem ms_Mo_isSlot : Cond.static yy_Mo_isSlot ∈ gx_F := gx_F_in (tb_4 (List.mem_of_getElem? (i := 139) (by decide +kernel))) rfl
set_option maxRecDepth 20000 in
theorem mc_Mo_start : Cond.code yy_Mo_start cc_Mo_start 4 (some .boolean) ∈ gx_F := gx_F_in (tb_4 (List.mem_of_getElem? (i := 144) rfl)) rfl
theorem me_Mo_start : gx_me yy_Mo_start cc_Mo_start 4 (some .boolean) 3 := ⟨mc_Mo_start, iz_Mo, ⟨by decide, by decide, by decide +kernel⟩, by decide⟩
theorem mn_Mo_start : gx_in yy_Mo_start := ⟨gx_F_in (tb_4 (List.mem_of_getElem? (i := 142) (by decide +kernel))) rfl, gx_F_in (tb_4 (List.mem_of_getElem? (i := 143) (by decide +kernel))) rfl⟩
set_option maxRecDepth 20000 in
theorem mc_Mo_isState : Cond.code yy_Mo_isState cc_Mo_isState 3 (some .boolean) ∈ gx_F := gx_F_in (tb_4 (List.mem_of_getElem? (i := 148) rfl)) rfl
theorem me_Mo_isState : gx_me yy_Mo_isState cc_Mo_isState 3 (some .boolean) 2 := ⟨mc_Mo_isState, iz_Mo, ⟨by decide, by decide, by decide +kernel⟩, by decide⟩
theorem mn_Mo_isState : gx_in yy_Mo_isState := ⟨gx_F_in (tb_4 (List.mem_of_getElem? (i := 147) (by decide +kernel))) rfl, gx_F_in (List.mem_append_left _ (List.mem_of_getElem? (i := 35) (by decide +kernel))) rfl⟩
set_option maxRecDepth 20000 in
theorem mc_Mo_isWeight : Cond.code yy_Mo_isWeight cc_Mo_isWeight 2 (some .boolean) ∈ gx_F := gx_F_in (tb_4 (List.mem_of_getElem? (i := 151) rfl)) rfl
theorem me_Mo_isWeight : gx_me yy_Mo_isWeight cc_Mo_isWeight 2 (some .boolean) 1 := ⟨mc_Mo_isWeight, iz_Mo, ⟨by decide, by decide, by decide +kernel⟩, by decide⟩
theorem ms_Mo_isWeight : Cond.static yy_Mo_isWeight ∈ gx_F := gx_F_in (tb_4 (List.mem_of_getElem? (i := 150) (by decide +kernel))) rfl
set_option maxRecDepth 20000 in
theorem mc_Mo_end : Cond.code yy_Mo_end cc_Mo_end 4 (some .boolean) ∈ gx_F := gx_F_in (tb_4 (List.mem_of_getElem? (i := 156) rfl)) rfl
theorem me_Mo_end : gx_me yy_Mo_end cc_Mo_end 4 (some .boolean) 3 := ⟨mc_Mo_end, iz_Mo, ⟨by decide, by decide, by decide +kernel⟩, by decide⟩
theorem mn_Mo_end : gx_in yy_Mo_end := ⟨gx_F_in (tb_4 (List.mem_of_getElem? (i := 154) (by decide +kernel))) rfl, gx_F_in (tb_4 (List.mem_of_getElem? (i := 155) (by decide +kernel))) rfl⟩
set_option maxRecDepth 20000 in
theorem mc_Mo_arc : Cond.code yy_Mo_arc cc_Mo_arc 6 (some .int) ∈ gx_F := gx_F_in (tb_4 (List.mem_of_getElem? (i := 160) rfl)) rfl
theorem me_Mo_arc : gx_me yy_Mo_arc cc_Mo_arc 6 (some .int) 5 := ⟨mc_Mo_arc, iz_Mo, ⟨by decide, by decide, by decide +kernel⟩, by decide⟩
theorem mn_Mo_arc : gx_in yy_Mo_arc := ⟨gx_F_in (tb_4 (List.mem_of_getElem? (i := 158) (by decide +kernel))) rfl, gx_F_in (tb_4 (List.mem_of_getElem? (i := 159) (by decide +kernel))) rfl⟩
set_option maxRecDepth 20000 in
theorem mc_Mo_put : Cond.code yy_Mo_put cc_Mo_put 11 (some .boolean) ∈ gx_F := gx_F_in (tb_4 (List.mem_of_getElem? (i := 164) rfl)) rfl
theorem me_Mo_put : gx_me yy_Mo_put cc_Mo_put 11 (some .boolean) 6 := ⟨mc_Mo_put, iz_Mo, ⟨by decide, by decide, by decide +kernel⟩, by decide⟩
theorem mn_Mo_put : gx_in yy_Mo_put := ⟨gx_F_in (tb_4 (List.mem_of_getElem? (i := 163) (by decide +kernel))) rfl, gx_F_in (List.mem_append_left _ (List.mem_of_getElem? (i := 36) (by decide +kernel))) rfl⟩
set_option maxRecDepth 20000 in
theorem mc_Mo_against : Cond.code yy_Mo_against cc_Mo_against 7 (some .int) ∈ gx_F := gx_F_in (tb_4 (List.mem_of_getElem? (i := 168) rfl)) rfl
theorem me_Mo_against : gx_me yy_Mo_against cc_Mo_against 7 (some .int) 5 := ⟨mc_Mo_against, iz_Mo, ⟨by decide, by decide, by decide +kernel⟩, by decide⟩
theorem mn_Mo_against : gx_in yy_Mo_against := ⟨gx_F_in (tb_4 (List.mem_of_getElem? (i := 167) (by decide +kernel))) rfl, gx_F_in (List.mem_append_left _ (List.mem_of_getElem? (i := 37) (by decide +kernel))) rfl⟩
set_option maxRecDepth 20000 in
theorem mc_Mo_compose : Cond.code yy_Mo_compose cc_Mo_compose 9 (some .int) ∈ gx_F := gx_F_in (tb_4 (List.mem_of_getElem? (i := 172) rfl)) rfl
theorem me_Mo_compose : gx_me yy_Mo_compose cc_Mo_compose 9 (some .int) 3 := ⟨mc_Mo_compose, iz_Mo, ⟨by decide, by decide, by decide +kernel⟩, by decide⟩
theorem mn_Mo_compose : gx_in yy_Mo_compose := ⟨gx_F_in (tb_4 (List.mem_of_getElem? (i := 170) (by decide +kernel))) rfl, gx_F_in (tb_4 (List.mem_of_getElem? (i := 171) (by decide +kernel))) rfl⟩
set_option maxRecDepth 20000 in
theorem mc_Mo_reach : Cond.code yy_Mo_reach cc_Mo_reach 6 (some .int) ∈ gx_F := gx_F_in (tb_4 (List.mem_of_getElem? (i := 176) rfl)) rfl
theorem me_Mo_reach : gx_me yy_Mo_reach cc_Mo_reach 6 (some .int) 3 := ⟨mc_Mo_reach, iz_Mo, ⟨by decide, by decide, by decide +kernel⟩, by decide⟩
theorem mn_Mo_reach : gx_in yy_Mo_reach := ⟨gx_F_in (tb_4 (List.mem_of_getElem? (i := 175) (by decide +kernel))) rfl, gx_F_in (List.mem_append_left _ (List.mem_of_getElem? (i := 38) (by decide +kernel))) rfl⟩
set_option maxRecDepth 20000 in
theorem mc_Mo_explore : Cond.code yy_Mo_explore cc_Mo_explore 6 (some .boolean) ∈ gx_F := gx_F_in (tb_4 (List.mem_of_getElem? (i := 180) rfl)) rfl
theorem me_Mo_explore : gx_me yy_Mo_explore cc_Mo_explore 6 (some .boolean) 2 := ⟨mc_Mo_explore, iz_Mo, ⟨by decide, by decide, by decide +kernel⟩, by decide⟩
theorem mn_Mo_explore : gx_in yy_Mo_explore := ⟨gx_F_in (tb_4 (List.mem_of_getElem? (i := 179) (by decide +kernel))) rfl, gx_F_in (List.mem_append_left _ (List.mem_of_getElem? (i := 39) (by decide +kernel))) rfl⟩
set_option maxRecDepth 20000 in
theorem mc_Mo_meet : Cond.code yy_Mo_meet cc_Mo_meet 10 (some .boolean) ∈ gx_F := gx_F_in (tb_4 (List.mem_of_getElem? (i := 184) rfl)) rfl
theorem me_Mo_meet : gx_me yy_Mo_meet cc_Mo_meet 10 (some .boolean) 4 := ⟨mc_Mo_meet, iz_Mo, ⟨by decide, by decide, by decide +kernel⟩, by decide⟩
theorem mn_Mo_meet : gx_in yy_Mo_meet := ⟨gx_F_in (tb_4 (List.mem_of_getElem? (i := 183) (by decide +kernel))) rfl, gx_F_in (List.mem_append_left _ (List.mem_of_getElem? (i := 40) (by decide +kernel))) rfl⟩
set_option maxRecDepth 20000 in
theorem mc_Mo_link : Cond.code yy_Mo_link cc_Mo_link 7 (some .boolean) ∈ gx_F := gx_F_in (tb_4 (List.mem_of_getElem? (i := 188) rfl)) rfl
theorem me_Mo_link : gx_me yy_Mo_link cc_Mo_link 7 (some .boolean) 5 := ⟨mc_Mo_link, iz_Mo, ⟨by decide, by decide, by decide +kernel⟩, by decide⟩
theorem mn_Mo_link : gx_in yy_Mo_link := ⟨gx_F_in (tb_4 (List.mem_of_getElem? (i := 187) (by decide +kernel))) rfl, gx_F_in (List.mem_append_left _ (List.mem_of_getElem? (i := 41) (by decide +kernel))) rfl⟩
set_option maxRecDepth 20000 in
theorem mc_Mo_alone : Cond.code yy_Mo_alone cc_Mo_alone 9 (some .boolean) ∈ gx_F := gx_F_in (tb_4 (List.mem_of_getElem? (i := 192) rfl)) rfl
theorem me_Mo_alone : gx_me yy_Mo_alone cc_Mo_alone 9 (some .boolean) 3 := ⟨mc_Mo_alone, iz_Mo, ⟨by decide, by decide, by decide +kernel⟩, by decide⟩
theorem mn_Mo_alone : gx_in yy_Mo_alone := ⟨gx_F_in (tb_4 (List.mem_of_getElem? (i := 191) (by decide +kernel))) rfl, gx_F_in (List.mem_append_left _ (List.mem_of_getElem? (i := 42) (by decide +kernel))) rfl⟩
set_option maxRecDepth 20000 in
theorem mc_Mo_keep : Cond.code yy_Mo_keep cc_Mo_keep 4 (some .boolean) ∈ gx_F := gx_F_in (tb_4 (List.mem_of_getElem? (i := 196) rfl)) rfl
theorem me_Mo_keep : gx_me yy_Mo_keep cc_Mo_keep 4 (some .boolean) 1 := ⟨mc_Mo_keep, iz_Mo, ⟨by decide, by decide, by decide +kernel⟩, by decide⟩
theorem mn_Mo_keep : gx_in yy_Mo_keep := ⟨gx_F_in (tb_4 (List.mem_of_getElem? (i := 195) (by decide +kernel))) rfl, gx_F_in (List.mem_append_left _ (List.mem_of_getElem? (i := 43) (by decide +kernel))) rfl⟩
set_option maxRecDepth 20000 in
theorem mc_Mo_bare : Cond.code yy_Mo_bare cc_Mo_bare 9 (some .int) ∈ gx_F := gx_F_in (tb_4 (List.mem_of_getElem? (i := 200) rfl)) rfl
theorem me_Mo_bare : gx_me yy_Mo_bare cc_Mo_bare 9 (some .int) 2 := ⟨mc_Mo_bare, iz_Mo, ⟨by decide, by decide, by decide +kernel⟩, by decide⟩
theorem mn_Mo_bare : gx_in yy_Mo_bare := ⟨gx_F_in (tb_4 (List.mem_of_getElem? (i := 198) (by decide +kernel))) rfl, gx_F_in (tb_4 (List.mem_of_getElem? (i := 199) (by decide +kernel))) rfl⟩
set_option maxRecDepth 20000 in
theorem mc_Mo_spread : Cond.code yy_Mo_spread cc_Mo_spread 8 none ∈ gx_F := gx_F_in (tb_4 (List.mem_of_getElem? (i := 204) rfl)) rfl
theorem me_Mo_spread : gx_me yy_Mo_spread cc_Mo_spread 8 none 2 := ⟨mc_Mo_spread, iz_Mo, ⟨by decide, by decide, by decide +kernel⟩, by decide⟩
theorem mn_Mo_spread : gx_in yy_Mo_spread := ⟨gx_F_in (tb_4 (List.mem_of_getElem? (i := 203) (by decide +kernel))) rfl, gx_F_in (List.mem_append_left _ (List.mem_of_getElem? (i := 44) (by decide +kernel))) rfl⟩
set_option maxRecDepth 20000 in
theorem mc_Mo_determine : Cond.code yy_Mo_determine cc_Mo_determine 11 (some .int) ∈ gx_F := gx_F_in (tb_4 (List.mem_of_getElem? (i := 209) rfl)) rfl
theorem me_Mo_determine : gx_me yy_Mo_determine cc_Mo_determine 11 (some .int) 2 := ⟨mc_Mo_determine, iz_Mo, ⟨by decide, by decide, by decide +kernel⟩, by decide⟩
theorem mn_Mo_determine : gx_in yy_Mo_determine := ⟨gx_F_in (tb_4 (List.mem_of_getElem? (i := 207) (by decide +kernel))) rfl, gx_F_in (tb_4 (List.mem_of_getElem? (i := 208) (by decide +kernel))) rfl⟩
set_option maxRecDepth 20000 in
theorem mc_Mo_isFit : Cond.code yy_Mo_isFit cc_Mo_isFit 5 (some .boolean) ∈ gx_F := gx_F_in (tb_4 (List.mem_of_getElem? (i := 213) rfl)) rfl
theorem me_Mo_isFit : gx_me yy_Mo_isFit cc_Mo_isFit 5 (some .boolean) 1 := ⟨mc_Mo_isFit, iz_Mo, ⟨by decide, by decide, by decide +kernel⟩, by decide⟩
theorem mn_Mo_isFit : gx_in yy_Mo_isFit := ⟨gx_F_in (tb_4 (List.mem_of_getElem? (i := 212) (by decide +kernel))) rfl, gx_F_in (List.mem_append_left _ (List.mem_of_getElem? (i := 45) (by decide +kernel))) rfl⟩
set_option maxRecDepth 20000 in
theorem mc_Mo_gather : Cond.code yy_Mo_gather cc_Mo_gather 7 (some .boolean) ∈ gx_F := gx_F_in (tb_4 (List.mem_of_getElem? (i := 217) rfl)) rfl
theorem me_Mo_gather : gx_me yy_Mo_gather cc_Mo_gather 7 (some .boolean) 1 := ⟨mc_Mo_gather, iz_Mo, ⟨by decide, by decide, by decide +kernel⟩, by decide⟩
theorem mn_Mo_gather : gx_in yy_Mo_gather := ⟨gx_F_in (tb_4 (List.mem_of_getElem? (i := 216) (by decide +kernel))) rfl, gx_F_in (List.mem_append_left _ (List.mem_of_getElem? (i := 46) (by decide +kernel))) rfl⟩
set_option maxRecDepth 20000 in
theorem mc_Mo_follow : Cond.code yy_Mo_follow cc_Mo_follow 12 (some .long) ∈ gx_F := gx_F_in (tb_4 (List.mem_of_getElem? (i := 221) rfl)) rfl
theorem me_Mo_follow : gx_me yy_Mo_follow cc_Mo_follow 12 (some .long) 3 := ⟨mc_Mo_follow, iz_Mo, ⟨by decide, by decide, by decide +kernel⟩, by decide⟩
theorem mn_Mo_follow : gx_in yy_Mo_follow := ⟨gx_F_in (tb_4 (List.mem_of_getElem? (i := 220) (by decide +kernel))) rfl, gx_F_in (List.mem_append_left _ (List.mem_of_getElem? (i := 47) (by decide +kernel))) rfl⟩
set_option maxRecDepth 20000 in
theorem mc_Mo_settle : Cond.code yy_Mo_settle cc_Mo_settle 4 (some .int) ∈ gx_F := gx_F_in (tb_4 (List.mem_of_getElem? (i := 225) rfl)) rfl
theorem me_Mo_settle : gx_me yy_Mo_settle cc_Mo_settle 4 (some .int) 0 := ⟨mc_Mo_settle, iz_Mo, ⟨by decide, by decide, by decide +kernel⟩, by decide⟩
theorem mn_Mo_settle : gx_in yy_Mo_settle := ⟨gx_F_in (tb_4 (List.mem_of_getElem? (i := 224) (by decide +kernel))) rfl, gx_F_in (List.mem_append_left _ (List.mem_of_getElem? (i := 48) (by decide +kernel))) rfl⟩
set_option maxRecDepth 20000 in
theorem mc_Mo_push : Cond.code yy_Mo_push cc_Mo_push 6 (some .int) ∈ gx_F := gx_F_in (tb_4 (List.mem_of_getElem? (i := 229) rfl)) rfl
theorem me_Mo_push : gx_me yy_Mo_push cc_Mo_push 6 (some .int) 2 := ⟨mc_Mo_push, iz_Mo, ⟨by decide, by decide, by decide +kernel⟩, by decide⟩
theorem mn_Mo_push : gx_in yy_Mo_push := ⟨gx_F_in (tb_4 (List.mem_of_getElem? (i := 227) (by decide +kernel))) rfl, gx_F_in (tb_4 (List.mem_of_getElem? (i := 228) (by decide +kernel))) rfl⟩
set_option maxRecDepth 20000 in
theorem mc_Mo_findOnward : Cond.code yy_Mo_findOnward cc_Mo_findOnward 8 none ∈ gx_F := gx_F_in (tb_4 (List.mem_of_getElem? (i := 233) rfl)) rfl
theorem me_Mo_findOnward : gx_me yy_Mo_findOnward cc_Mo_findOnward 8 none 1 := ⟨mc_Mo_findOnward, iz_Mo, ⟨by decide, by decide, by decide +kernel⟩, by decide⟩
theorem mn_Mo_findOnward : gx_in yy_Mo_findOnward := ⟨gx_F_in (tb_4 (List.mem_of_getElem? (i := 232) (by decide +kernel))) rfl, gx_F_in (List.mem_append_left _ (List.mem_of_getElem? (i := 49) (by decide +kernel))) rfl⟩
set_option maxRecDepth 20000 in
theorem mc_Mo_trim : Cond.code yy_Mo_trim cc_Mo_trim 5 (some .int) ∈ gx_F := gx_F_in (tb_4 (List.mem_of_getElem? (i := 237) rfl)) rfl
theorem me_Mo_trim : gx_me yy_Mo_trim cc_Mo_trim 5 (some .int) 2 := ⟨mc_Mo_trim, iz_Mo, ⟨by decide, by decide, by decide +kernel⟩, by decide⟩
theorem mn_Mo_trim : gx_in yy_Mo_trim := ⟨gx_F_in (tb_4 (List.mem_of_getElem? (i := 235) (by decide +kernel))) rfl, gx_F_in (tb_4 (List.mem_of_getElem? (i := 236) (by decide +kernel))) rfl⟩
set_option maxRecDepth 20000 in
theorem mc_Mo_findReached : Cond.code yy_Mo_findReached cc_Mo_findReached 4 none ∈ gx_F := gx_F_in (tb_5 (List.mem_of_getElem? (i := 1) rfl)) rfl
theorem me_Mo_findReached : gx_me yy_Mo_findReached cc_Mo_findReached 4 none 1 := ⟨mc_Mo_findReached, iz_Mo, ⟨by decide, by decide, by decide +kernel⟩, by decide⟩
theorem mn_Mo_findReached : gx_in yy_Mo_findReached := ⟨gx_F_in (tb_5 (List.mem_of_getElem? (i := 0) (by decide +kernel))) rfl, gx_F_in (List.mem_append_left _ (List.mem_of_getElem? (i := 50) (by decide +kernel))) rfl⟩
set_option maxRecDepth 20000 in
theorem mc_Mo_rank : Cond.code yy_Mo_rank cc_Mo_rank 4 (some .int) ∈ gx_F := gx_F_in (tb_5 (List.mem_of_getElem? (i := 5) rfl)) rfl
theorem me_Mo_rank : gx_me yy_Mo_rank cc_Mo_rank 4 (some .int) 1 := ⟨mc_Mo_rank, iz_Mo, ⟨by decide, by decide, by decide +kernel⟩, by decide⟩
theorem mn_Mo_rank : gx_in yy_Mo_rank := ⟨gx_F_in (tb_5 (List.mem_of_getElem? (i := 4) (by decide +kernel))) rfl, gx_F_in (List.mem_append_left _ (List.mem_of_getElem? (i := 51) (by decide +kernel))) rfl⟩
set_option maxRecDepth 20000 in
theorem mc_Mo_isOnPath : Cond.code yy_Mo_isOnPath cc_Mo_isOnPath 2 (some .boolean) ∈ gx_F := gx_F_in (tb_5 (List.mem_of_getElem? (i := 9) rfl)) rfl
theorem me_Mo_isOnPath : gx_me yy_Mo_isOnPath cc_Mo_isOnPath 2 (some .boolean) 1 := ⟨mc_Mo_isOnPath, iz_Mo, ⟨by decide, by decide, by decide +kernel⟩, by decide⟩
theorem mn_Mo_isOnPath : gx_in yy_Mo_isOnPath := ⟨gx_F_in (tb_5 (List.mem_of_getElem? (i := 8) (by decide +kernel))) rfl, gx_F_in (List.mem_append_left _ (List.mem_of_getElem? (i := 52) (by decide +kernel))) rfl⟩
set_option maxRecDepth 20000 in
theorem mc_Mo_weigh : Cond.code yy_Mo_weigh cc_Mo_weigh 12 (some .long) ∈ gx_F := gx_F_in (tb_5 (List.mem_of_getElem? (i := 13) rfl)) rfl
theorem me_Mo_weigh : gx_me yy_Mo_weigh cc_Mo_weigh 12 (some .long) 3 := ⟨mc_Mo_weigh, iz_Mo, ⟨by decide, by decide, by decide +kernel⟩, by decide⟩
theorem mn_Mo_weigh : gx_in yy_Mo_weigh := ⟨gx_F_in (tb_5 (List.mem_of_getElem? (i := 11) (by decide +kernel))) rfl, gx_F_in (tb_5 (List.mem_of_getElem? (i := 12) (by decide +kernel))) rfl⟩
set_option maxRecDepth 20000 in
theorem mc_Mo_sizeOf : Cond.code yy_Mo_sizeOf cc_Mo_sizeOf 3 (some .int) ∈ gx_F := gx_F_in (tb_5 (List.mem_of_getElem? (i := 16) rfl)) rfl
theorem me_Mo_sizeOf : gx_me yy_Mo_sizeOf cc_Mo_sizeOf 3 (some .int) 1 := ⟨mc_Mo_sizeOf, iz_Mo, ⟨by decide, by decide, by decide +kernel⟩, by decide⟩
theorem ms_Mo_sizeOf : Cond.static yy_Mo_sizeOf ∈ gx_F := gx_F_in (tb_5 (List.mem_of_getElem? (i := 15) (by decide +kernel))) rfl
set_option maxRecDepth 20000 in
theorem mc_Mo_labelAt : Cond.code yy_Mo_labelAt cc_Mo_labelAt 5 (some .int) ∈ gx_F := gx_F_in (tb_5 (List.mem_of_getElem? (i := 19) rfl)) rfl
theorem me_Mo_labelAt : gx_me yy_Mo_labelAt cc_Mo_labelAt 5 (some .int) 3 := ⟨mc_Mo_labelAt, iz_Mo, ⟨by decide, by decide, by decide +kernel⟩, by decide⟩
theorem ms_Mo_labelAt : Cond.static yy_Mo_labelAt ∈ gx_F := gx_F_in (tb_5 (List.mem_of_getElem? (i := 18) (by decide +kernel))) rfl
set_option maxRecDepth 20000 in
theorem mc_Mo_relax : Cond.code yy_Mo_relax cc_Mo_relax 11 (some .boolean) ∈ gx_F := gx_F_in (tb_5 (List.mem_of_getElem? (i := 23) rfl)) rfl
theorem me_Mo_relax : gx_me yy_Mo_relax cc_Mo_relax 11 (some .boolean) 1 := ⟨mc_Mo_relax, iz_Mo, ⟨by decide, by decide, by decide +kernel⟩, by decide⟩
theorem mn_Mo_relax : gx_in yy_Mo_relax := ⟨gx_F_in (tb_5 (List.mem_of_getElem? (i := 22) (by decide +kernel))) rfl, gx_F_in (List.mem_append_left _ (List.mem_of_getElem? (i := 53) (by decide +kernel))) rfl⟩
set_option maxRecDepth 20000 in
theorem mc_Mo_best : Cond.code yy_Mo_best cc_Mo_best 6 (some .long) ∈ gx_F := gx_F_in (tb_5 (List.mem_of_getElem? (i := 27) rfl)) rfl
theorem me_Mo_best : gx_me yy_Mo_best cc_Mo_best 6 (some .long) 1 := ⟨mc_Mo_best, iz_Mo, ⟨by decide, by decide, by decide +kernel⟩, by decide⟩
theorem mn_Mo_best : gx_in yy_Mo_best := ⟨gx_F_in (tb_5 (List.mem_of_getElem? (i := 25) (by decide +kernel))) rfl, gx_F_in (tb_5 (List.mem_of_getElem? (i := 26) (by decide +kernel))) rfl⟩
set_option maxRecDepth 20000 in
theorem mc_Mo_step : Cond.code yy_Mo_step cc_Mo_step 3 (some .int) ∈ gx_F := gx_F_in (tb_5 (List.mem_of_getElem? (i := 31) rfl)) rfl
theorem me_Mo_step : gx_me yy_Mo_step cc_Mo_step 3 (some .int) 2 := ⟨mc_Mo_step, iz_Mo, ⟨by decide, by decide, by decide +kernel⟩, by decide⟩
theorem mn_Mo_step : gx_in yy_Mo_step := ⟨gx_F_in (tb_5 (List.mem_of_getElem? (i := 29) (by decide +kernel))) rfl, gx_F_in (tb_5 (List.mem_of_getElem? (i := 30) (by decide +kernel))) rfl⟩
set_option maxRecDepth 20000 in
theorem mc_Mo_count : Cond.code yy_Mo_count cc_Mo_count 5 (some .int) ∈ gx_F := gx_F_in (tb_5 (List.mem_of_getElem? (i := 35) rfl)) rfl
theorem me_Mo_count : gx_me yy_Mo_count cc_Mo_count 5 (some .int) 2 := ⟨mc_Mo_count, iz_Mo, ⟨by decide, by decide, by decide +kernel⟩, by decide⟩
theorem mn_Mo_count : gx_in yy_Mo_count := ⟨gx_F_in (tb_5 (List.mem_of_getElem? (i := 33) (by decide +kernel))) rfl, gx_F_in (tb_5 (List.mem_of_getElem? (i := 34) (by decide +kernel))) rfl⟩
set_option maxRecDepth 20000 in
theorem mc_Mo_part : Cond.code yy_Mo_part cc_Mo_part 5 (some .int) ∈ gx_F := gx_F_in (tb_5 (List.mem_of_getElem? (i := 39) rfl)) rfl
theorem me_Mo_part : gx_me yy_Mo_part cc_Mo_part 5 (some .int) 3 := ⟨mc_Mo_part, iz_Mo, ⟨by decide, by decide, by decide +kernel⟩, by decide⟩
theorem mn_Mo_part : gx_in yy_Mo_part := ⟨gx_F_in (tb_5 (List.mem_of_getElem? (i := 37) (by decide +kernel))) rfl, gx_F_in (tb_5 (List.mem_of_getElem? (i := 38) (by decide +kernel))) rfl⟩
set_option maxRecDepth 20000 in
theorem mc_Mo_endOf : Cond.code yy_Mo_endOf cc_Mo_endOf 3 (some .int) ∈ gx_F := gx_F_in (tb_5 (List.mem_of_getElem? (i := 43) rfl)) rfl
theorem me_Mo_endOf : gx_me yy_Mo_endOf cc_Mo_endOf 3 (some .int) 2 := ⟨mc_Mo_endOf, iz_Mo, ⟨by decide, by decide, by decide +kernel⟩, by decide⟩
theorem mn_Mo_endOf : gx_in yy_Mo_endOf := ⟨gx_F_in (tb_5 (List.mem_of_getElem? (i := 41) (by decide +kernel))) rfl, gx_F_in (tb_5 (List.mem_of_getElem? (i := 42) (by decide +kernel))) rfl⟩
set_option maxRecDepth 20000 in
theorem mc_Mo_print : Cond.code yy_Mo_print cc_Mo_print 3 (some .int) ∈ gx_F := gx_F_in (tb_5 (List.mem_of_getElem? (i := 47) rfl)) rfl
theorem me_Mo_print : gx_me yy_Mo_print cc_Mo_print 3 (some .int) 1 := ⟨mc_Mo_print, iz_Mo, ⟨by decide, by decide, by decide +kernel⟩, by decide⟩
theorem mn_Mo_print : gx_in yy_Mo_print := ⟨gx_F_in (tb_5 (List.mem_of_getElem? (i := 45) (by decide +kernel))) rfl, gx_F_in (tb_5 (List.mem_of_getElem? (i := 46) (by decide +kernel))) rfl⟩
set_option maxRecDepth 20000 in
theorem mc_Mo_say : Cond.code yy_Mo_say cc_Mo_say 2 none ∈ gx_F := gx_F_in (tb_5 (List.mem_of_getElem? (i := 51) rfl)) rfl
theorem me_Mo_say : gx_me yy_Mo_say cc_Mo_say 2 none 1 := ⟨mc_Mo_say, iz_Mo, ⟨by decide, by decide, by decide +kernel⟩, by decide⟩
theorem mn_Mo_say : gx_in yy_Mo_say := ⟨gx_F_in (tb_5 (List.mem_of_getElem? (i := 50) (by decide +kernel))) rfl, gx_F_in (List.mem_append_left _ (List.mem_of_getElem? (i := 54) (by decide +kernel))) rfl⟩
set_option maxRecDepth 20000 in
theorem mc_Mo_sayNumber : Cond.code yy_Mo_sayNumber cc_Mo_sayNumber 6 none ∈ gx_F := gx_F_in (tb_5 (List.mem_of_getElem? (i := 55) rfl)) rfl
theorem me_Mo_sayNumber : gx_me yy_Mo_sayNumber cc_Mo_sayNumber 6 none 2 := ⟨mc_Mo_sayNumber, iz_Mo, ⟨by decide, by decide, by decide +kernel⟩, by decide⟩
theorem mn_Mo_sayNumber : gx_in yy_Mo_sayNumber := ⟨gx_F_in (tb_5 (List.mem_of_getElem? (i := 54) (by decide +kernel))) rfl, gx_F_in (List.mem_append_left _ (List.mem_of_getElem? (i := 55) (by decide +kernel))) rfl⟩
set_option maxRecDepth 20000 in
theorem mc_Mo_sayDigit : Cond.code yy_Mo_sayDigit cc_Mo_sayDigit 2 none ∈ gx_F := gx_F_in (tb_5 (List.mem_of_getElem? (i := 60) rfl)) rfl
theorem me_Mo_sayDigit : gx_me yy_Mo_sayDigit cc_Mo_sayDigit 2 none 1 := ⟨mc_Mo_sayDigit, iz_Mo, ⟨by decide, by decide, by decide +kernel⟩, by decide⟩
theorem mn_Mo_sayDigit : gx_in yy_Mo_sayDigit := ⟨gx_F_in (tb_5 (List.mem_of_getElem? (i := 59) (by decide +kernel))) rfl, gx_F_in (List.mem_append_left _ (List.mem_of_getElem? (i := 56) (by decide +kernel))) rfl⟩
set_option maxRecDepth 20000 in
theorem mc_Mo_letter : Cond.code yy_Mo_letter cc_Mo_letter 2 (some .int) ∈ gx_F := gx_F_in (tb_5 (List.mem_of_getElem? (i := 64) rfl)) rfl
theorem me_Mo_letter : gx_me yy_Mo_letter cc_Mo_letter 2 (some .int) 1 := ⟨mc_Mo_letter, iz_Mo, ⟨by decide, by decide, by decide +kernel⟩, by decide⟩
theorem mn_Mo_letter : gx_in yy_Mo_letter := ⟨gx_F_in (tb_5 (List.mem_of_getElem? (i := 62) (by decide +kernel))) rfl, gx_F_in (tb_5 (List.mem_of_getElem? (i := 63) (by decide +kernel))) rfl⟩
set_option maxRecDepth 20000 in
theorem mc_Mo_feed : Cond.code yy_Mo_feed cc_Mo_feed 6 (some .int) ∈ gx_F := gx_F_in (tb_5 (List.mem_of_getElem? (i := 68) rfl)) rfl
theorem me_Mo_feed : gx_me yy_Mo_feed cc_Mo_feed 6 (some .int) 2 := ⟨mc_Mo_feed, iz_Mo, ⟨by decide, by decide, by decide +kernel⟩, by decide⟩
theorem mn_Mo_feed : gx_in yy_Mo_feed := ⟨gx_F_in (tb_5 (List.mem_of_getElem? (i := 66) (by decide +kernel))) rfl, gx_F_in (tb_5 (List.mem_of_getElem? (i := 67) (by decide +kernel))) rfl⟩
set_option maxRecDepth 20000 in
theorem mc_Mo_parse : Cond.code yy_Mo_parse cc_Mo_parse 5 (some .int) ∈ gx_F := gx_F_in (tb_5 (List.mem_of_getElem? (i := 73) rfl)) rfl
theorem me_Mo_parse : gx_me yy_Mo_parse cc_Mo_parse 5 (some .int) 1 := ⟨mc_Mo_parse, iz_Mo, ⟨by decide, by decide, by decide +kernel⟩, by decide⟩
theorem mn_Mo_parse : gx_in yy_Mo_parse := ⟨gx_F_in (tb_5 (List.mem_of_getElem? (i := 71) (by decide +kernel))) rfl, gx_F_in (tb_5 (List.mem_of_getElem? (i := 72) (by decide +kernel))) rfl⟩
set_option maxRecDepth 20000 in
theorem mc_Mo_takeIf : Cond.code yy_Mo_takeIf cc_Mo_takeIf 2 none ∈ gx_F := gx_F_in (tb_5 (List.mem_of_getElem? (i := 77) rfl)) rfl
theorem me_Mo_takeIf : gx_me yy_Mo_takeIf cc_Mo_takeIf 2 none 1 := ⟨mc_Mo_takeIf, iz_Mo, ⟨by decide, by decide, by decide +kernel⟩, by decide⟩
theorem mn_Mo_takeIf : gx_in yy_Mo_takeIf := ⟨gx_F_in (tb_5 (List.mem_of_getElem? (i := 76) (by decide +kernel))) rfl, gx_F_in (List.mem_append_left _ (List.mem_of_getElem? (i := 57) (by decide +kernel))) rfl⟩
set_option maxRecDepth 20000 in
theorem mc_Mo_take : Cond.code yy_Mo_take cc_Mo_take 2 none ∈ gx_F := gx_F_in (tb_5 (List.mem_of_getElem? (i := 81) rfl)) rfl
theorem me_Mo_take : gx_me yy_Mo_take cc_Mo_take 2 none 1 := ⟨mc_Mo_take, iz_Mo, ⟨by decide, by decide, by decide +kernel⟩, by decide⟩
theorem mn_Mo_take : gx_in yy_Mo_take := ⟨gx_F_in (tb_5 (List.mem_of_getElem? (i := 80) (by decide +kernel))) rfl, gx_F_in (List.mem_append_left _ (List.mem_of_getElem? (i := 58) (by decide +kernel))) rfl⟩
set_option maxRecDepth 20000 in
theorem mc_Mo_here : Cond.code yy_Mo_here cc_Mo_here 1 (some .int) ∈ gx_F := gx_F_in (tb_5 (List.mem_of_getElem? (i := 85) rfl)) rfl
theorem me_Mo_here : gx_me yy_Mo_here cc_Mo_here 1 (some .int) 0 := ⟨mc_Mo_here, iz_Mo, ⟨by decide, by decide, by decide +kernel⟩, by decide⟩
theorem mn_Mo_here : gx_in yy_Mo_here := ⟨gx_F_in (tb_5 (List.mem_of_getElem? (i := 84) (by decide +kernel))) rfl, gx_F_in (List.mem_append_left _ (List.mem_of_getElem? (i := 59) (by decide +kernel))) rfl⟩
set_option maxRecDepth 20000 in
theorem mc_Mo_fail : Cond.code yy_Mo_fail cc_Mo_fail 2 none ∈ gx_F := gx_F_in (tb_5 (List.mem_of_getElem? (i := 89) rfl)) rfl
theorem me_Mo_fail : gx_me yy_Mo_fail cc_Mo_fail 2 none 1 := ⟨mc_Mo_fail, iz_Mo, ⟨by decide, by decide, by decide +kernel⟩, by decide⟩
theorem mn_Mo_fail : gx_in yy_Mo_fail := ⟨gx_F_in (tb_5 (List.mem_of_getElem? (i := 88) (by decide +kernel))) rfl, gx_F_in (List.mem_append_left _ (List.mem_of_getElem? (i := 60) (by decide +kernel))) rfl⟩
set_option maxRecDepth 20000 in
theorem mc_Mo_takeNumber : Cond.code yy_Mo_takeNumber cc_Mo_takeNumber 6 (some .long) ∈ gx_F := gx_F_in (tb_5 (List.mem_of_getElem? (i := 94) rfl)) rfl
theorem me_Mo_takeNumber : gx_me yy_Mo_takeNumber cc_Mo_takeNumber 6 (some .long) 1 := ⟨mc_Mo_takeNumber, iz_Mo, ⟨by decide, by decide, by decide +kernel⟩, by decide⟩
theorem mn_Mo_takeNumber : gx_in yy_Mo_takeNumber := ⟨gx_F_in (tb_5 (List.mem_of_getElem? (i := 93) (by decide +kernel))) rfl, gx_F_in (List.mem_append_left _ (List.mem_of_getElem? (i := 61) (by decide +kernel))) rfl⟩
set_option maxRecDepth 20000 in
theorem mc_Mo_isDigit : Cond.code yy_Mo_isDigit cc_Mo_isDigit 1 (some .boolean) ∈ gx_F := gx_F_in (tb_5 (List.mem_of_getElem? (i := 98) rfl)) rfl
theorem me_Mo_isDigit : gx_me yy_Mo_isDigit cc_Mo_isDigit 1 (some .boolean) 0 := ⟨mc_Mo_isDigit, iz_Mo, ⟨by decide, by decide, by decide +kernel⟩, by decide⟩
theorem mn_Mo_isDigit : gx_in yy_Mo_isDigit := ⟨gx_F_in (tb_5 (List.mem_of_getElem? (i := 97) (by decide +kernel))) rfl, gx_F_in (List.mem_append_left _ (List.mem_of_getElem? (i := 62) (by decide +kernel))) rfl⟩
set_option maxRecDepth 20000 in
theorem mc_Mo_parseEnds : Cond.code yy_Mo_parseEnds cc_Mo_parseEnds 5 none ∈ gx_F := gx_F_in (tb_5 (List.mem_of_getElem? (i := 103) rfl)) rfl
theorem me_Mo_parseEnds : gx_me yy_Mo_parseEnds cc_Mo_parseEnds 5 none 1 := ⟨mc_Mo_parseEnds, iz_Mo, ⟨by decide, by decide, by decide +kernel⟩, by decide⟩
theorem mn_Mo_parseEnds : gx_in yy_Mo_parseEnds := ⟨gx_F_in (tb_5 (List.mem_of_getElem? (i := 102) (by decide +kernel))) rfl, gx_F_in (List.mem_append_left _ (List.mem_of_getElem? (i := 63) (by decide +kernel))) rfl⟩
set_option maxRecDepth 20000 in
theorem mc_Mo_takeState : Cond.code yy_Mo_takeState cc_Mo_takeState 1 (some .int) ∈ gx_F := gx_F_in (tb_5 (List.mem_of_getElem? (i := 107) rfl)) rfl
theorem me_Mo_takeState : gx_me yy_Mo_takeState cc_Mo_takeState 1 (some .int) 0 := ⟨mc_Mo_takeState, iz_Mo, ⟨by decide, by decide, by decide +kernel⟩, by decide⟩
theorem mn_Mo_takeState : gx_in yy_Mo_takeState := ⟨gx_F_in (tb_5 (List.mem_of_getElem? (i := 106) (by decide +kernel))) rfl, gx_F_in (List.mem_append_left _ (List.mem_of_getElem? (i := 64) (by decide +kernel))) rfl⟩
set_option maxRecDepth 20000 in
theorem mc_Mo_parseArc : Cond.code yy_Mo_parseArc cc_Mo_parseArc 7 none ∈ gx_F := gx_F_in (tb_5 (List.mem_of_getElem? (i := 111) rfl)) rfl
theorem me_Mo_parseArc : gx_me yy_Mo_parseArc cc_Mo_parseArc 7 none 0 := ⟨mc_Mo_parseArc, iz_Mo, ⟨by decide, by decide, by decide +kernel⟩, by decide⟩
theorem mn_Mo_parseArc : gx_in yy_Mo_parseArc := ⟨gx_F_in (tb_5 (List.mem_of_getElem? (i := 110) (by decide +kernel))) rfl, gx_F_in (List.mem_append_left _ (List.mem_of_getElem? (i := 65) (by decide +kernel))) rfl⟩
set_option maxRecDepth 20000 in
theorem mc_Mo_takeLabel : Cond.code yy_Mo_takeLabel cc_Mo_takeLabel 2 (some .int) ∈ gx_F := gx_F_in (tb_5 (List.mem_of_getElem? (i := 115) rfl)) rfl
theorem me_Mo_takeLabel : gx_me yy_Mo_takeLabel cc_Mo_takeLabel 2 (some .int) 0 := ⟨mc_Mo_takeLabel, iz_Mo, ⟨by decide, by decide, by decide +kernel⟩, by decide⟩
theorem mn_Mo_takeLabel : gx_in yy_Mo_takeLabel := ⟨gx_F_in (tb_5 (List.mem_of_getElem? (i := 114) (by decide +kernel))) rfl, gx_F_in (List.mem_append_left _ (List.mem_of_getElem? (i := 66) (by decide +kernel))) rfl⟩
theorem ml_WM_15 : gx_ml "WeighedMachines" 15 yy_Ma_init := Or.inl (gx_F_in (tb_1 (List.mem_of_getElem? (i := 28) (by decide +kernel))) rfl)
theorem ml_WM_22 : gx_ml "WeighedMachines" 22 yy_Co_init := Or.inl (gx_F_in (tb_1 (List.mem_of_getElem? (i := 110) (by decide +kernel))) rfl)
theorem ml_WM_29 : gx_ml "WeighedMachines" 29 yy_Ba_init := Or.inl (gx_F_in (tb_1 (List.mem_of_getElem? (i := 129) (by decide +kernel))) rfl)
theorem ml_WM_36 : gx_ml "WeighedMachines" 36 yy_De_init := Or.inl (gx_F_in (tb_1 (List.mem_of_getElem? (i := 139) (by decide +kernel))) rfl)
theorem ml_WM_43 : gx_ml "WeighedMachines" 43 yy_On_init := Or.inl (gx_F_in (tb_1 (List.mem_of_getElem? (i := 158) (by decide +kernel))) rfl)
theorem ml_WM_50 : gx_ml "WeighedMachines" 50 yy_We_init := Or.inl (gx_F_in (tb_1 (List.mem_of_getElem? (i := 168) (by decide +kernel))) rfl)
theorem ml_WM_57 : gx_ml "WeighedMachines" 57 yy_BP_init := Or.inl (gx_F_in (tb_1 (List.mem_of_getElem? (i := 198) (by decide +kernel))) rfl)
theorem ml_WM_64 : gx_ml "WeighedMachines" 64 yy_Te_init := Or.inl (gx_F_in (tb_1 (List.mem_of_getElem? (i := 217) (by decide +kernel))) rfl)
theorem ml_WM_76 : gx_ml "WeighedMachines" 76 yy_WM_isSlot := Or.inl (gx_F_in (tb_2 (List.mem_of_getElem? (i := 45) (by decide +kernel))) rfl)
theorem ml_WM_80 : gx_ml "WeighedMachines" 80 yy_Ma_clear := Or.inl (gx_F_in (tb_2 (List.mem_of_getElem? (i := 48) (by decide +kernel))) rfl)
theorem ml_WM_84 : gx_ml "WeighedMachines" 84 yy_WM_isState := Or.inl (gx_F_in (tb_2 (List.mem_of_getElem? (i := 56) (by decide +kernel))) rfl)
theorem ml_WM_88 : gx_ml "WeighedMachines" 88 yy_WM_isWeight := Or.inl (gx_F_in (tb_2 (List.mem_of_getElem? (i := 60) (by decide +kernel))) rfl)
theorem ml_WM_92 : gx_ml "WeighedMachines" 92 yy_Ma_setStart := Or.inl (gx_F_in (tb_2 (List.mem_of_getElem? (i := 64) (by decide +kernel))) rfl)
theorem ml_WM_100 : gx_ml "WeighedMachines" 100 yy_WM_keyOf := Or.inl (gx_F_in (tb_2 (List.mem_of_getElem? (i := 76) (by decide +kernel))) rfl)
theorem ml_WM_104 : gx_ml "WeighedMachines" 104 yy_Ma_bring := Or.inl (gx_F_in (tb_2 (List.mem_of_getElem? (i := 79) (by decide +kernel))) rfl)
theorem ml_WM_112 : gx_ml "WeighedMachines" 112 yy_Co_build := Or.inl (gx_F_in (tb_2 (List.mem_of_getElem? (i := 97) (by decide +kernel))) rfl)
theorem ml_WM_116 : gx_ml "WeighedMachines" 116 yy_WM_take := Or.inl (gx_F_in (tb_2 (List.mem_of_getElem? (i := 154) (by decide +kernel))) rfl)
theorem ml_WM_123 : gx_ml "WeighedMachines" 123 yy_Ba_build := Or.inl (gx_F_in (tb_2 (List.mem_of_getElem? (i := 167) (by decide +kernel))) rfl)
theorem ml_WM_126 : gx_ml "WeighedMachines" 126 yy_Ma_copiesLabels := Or.inl (gx_F_in (tb_2 (List.mem_of_getElem? (i := 206) (by decide +kernel))) rfl)
theorem ml_WM_130 : gx_ml "WeighedMachines" 130 yy_Ma_hasCycle := Or.inl (gx_F_in (tb_2 (List.mem_of_getElem? (i := 212) (by decide +kernel))) rfl)
theorem ml_WM_133 : gx_ml "WeighedMachines" 133 yy_De_build := Or.inl (gx_F_in (tb_2 (List.mem_of_getElem? (i := 219) (by decide +kernel))) rfl)
theorem ml_WM_134 : gx_ml "WeighedMachines" 134 yy_On_look := Or.inl (gx_F_in (tb_3 (List.mem_of_getElem? (i := 21) (by decide +kernel))) rfl)
theorem ml_WM_138 : gx_ml "WeighedMachines" 138 yy_WM_buildPushed := Or.inl (gx_F_in (tb_3 (List.mem_of_getElem? (i := 34) (by decide +kernel))) rfl)
theorem ml_WM_141 : gx_ml "WeighedMachines" 141 yy_WM_buildTrimmed := Or.inl (gx_F_in (tb_3 (List.mem_of_getElem? (i := 53) (by decide +kernel))) rfl)
theorem ml_WM_146 : gx_ml "WeighedMachines" 146 yy_We_leastWeight := Or.inl (gx_F_in (tb_3 (List.mem_of_getElem? (i := 80) (by decide +kernel))) rfl)
theorem ml_WM_153 : gx_ml "WeighedMachines" 153 yy_On_isThere := Or.inl (gx_F_in (tb_3 (List.mem_of_getElem? (i := 43) (by decide +kernel))) rfl)
theorem ml_WM_156 : gx_ml "WeighedMachines" 156 yy_BP_keep := Or.inl (gx_F_in (tb_3 (List.mem_of_getElem? (i := 118) (by decide +kernel))) rfl)
theorem ml_WM_164 : gx_ml "WeighedMachines" 164 yy_On_weightOf := Or.inl (gx_F_in (tb_3 (List.mem_of_getElem? (i := 39) (by decide +kernel))) rfl)
theorem ml_WM_178 : gx_ml "WeighedMachines" 178 yy_WM_arcPart := Or.inl (gx_F_in (tb_3 (List.mem_of_getElem? (i := 140) (by decide +kernel))) rfl)
theorem ml_WM_182 : gx_ml "WeighedMachines" 182 yy_Ma_countEnds := Or.inl (gx_F_in (tb_3 (List.mem_of_getElem? (i := 149) (by decide +kernel))) rfl)
theorem ml_WM_188 : gx_ml "WeighedMachines" 188 yy_Te_tell := Or.inl (gx_F_in (tb_3 (List.mem_of_getElem? (i := 165) (by decide +kernel))) rfl)
theorem ml_WM_192 : gx_ml "WeighedMachines" 192 yy_Pa_build := Or.inl (gx_F_in (tb_3 (List.mem_of_getElem? (i := 199) (by decide +kernel))) rfl)
theorem ml_WM_195 : gx_ml "WeighedMachines" 195 yy_WM_areLetters := Or.inl (gx_F_in (tb_4 (List.mem_of_getElem? (i := 25) (by decide +kernel))) rfl)
theorem ml_WM_201 : gx_ml "WeighedMachines" 201 yy_Te_put := Or.inl (gx_F_in (tb_4 (List.mem_of_getElem? (i := 31) (by decide +kernel))) rfl)
theorem ml_WM_204 : gx_ml "WeighedMachines" 204 yy_Te_codeAt := Or.inl (gx_F_in (tb_4 (List.mem_of_getElem? (i := 36) (by decide +kernel))) rfl)
theorem ml_WM_214 : gx_ml "WeighedMachines" 214 yy_Ma_weightsFit := Or.inl (gx_F_in (tb_2 (List.mem_of_getElem? (i := 158) (by decide +kernel))) rfl)
theorem ml_WM_217 : gx_ml "WeighedMachines" 217 yy_WM_fromOf := Or.inl (gx_F_in (tb_3 (List.mem_of_getElem? (i := 47) (by decide +kernel))) rfl)
theorem ml_WM_220 : gx_ml "WeighedMachines" 220 yy_WM_toOf := Or.inl (gx_F_in (tb_3 (List.mem_of_getElem? (i := 48) (by decide +kernel))) rfl)
theorem ml_WM_223 : gx_ml "WeighedMachines" 223 yy_Ma_statesAhead := Or.inl (gx_F_in (tb_3 (List.mem_of_getElem? (i := 57) (by decide +kernel))) rfl)
theorem ml_WM_226 : gx_ml "WeighedMachines" 226 yy_Ma_statesBehind := Or.inl (gx_F_in (tb_3 (List.mem_of_getElem? (i := 61) (by decide +kernel))) rfl)
theorem ml_WM_229 : gx_ml "WeighedMachines" 229 yy_JI_bitCount := Or.inl (gx_F_in (tb_3 (List.mem_of_getElem? (i := 65) (by decide +kernel))) rfl)
theorem ml_WM_234 : gx_ml "WeighedMachines" 234 yy_WM_isIn := Or.inl (gx_F_in (tb_3 (List.mem_of_getElem? (i := 71) (by decide +kernel))) rfl)
theorem ml_WM_237 : gx_ml "WeighedMachines" 237 yy_WM_rankIn := Or.inl (gx_F_in (tb_3 (List.mem_of_getElem? (i := 72) (by decide +kernel))) rfl)
theorem ml_WM_241 : gx_ml "WeighedMachines" 241 yy_WM_labelsOf := Or.inl (gx_F_in (tb_3 (List.mem_of_getElem? (i := 75) (by decide +kernel))) rfl)
theorem ml_WM_244 : gx_ml "WeighedMachines" 244 yy_WM_inOf := Or.inl (gx_F_in (tb_3 (List.mem_of_getElem? (i := 143) (by decide +kernel))) rfl)
theorem ml_WM_247 : gx_ml "WeighedMachines" 247 yy_WM_outOf := Or.inl (gx_F_in (tb_3 (List.mem_of_getElem? (i := 144) (by decide +kernel))) rfl)
theorem ml_Ba_21 : gx_ml "WeighedMachines$Baring" 21 yy_Ma_clear := Or.inl (gx_F_in (tb_2 (List.mem_of_getElem? (i := 171) (by decide +kernel))) rfl)
theorem ml_Ba_32 : gx_ml "WeighedMachines$Baring" 32 yy_Ma_setStart := Or.inl (gx_F_in (tb_2 (List.mem_of_getElem? (i := 172) (by decide +kernel))) rfl)
theorem ml_Ba_38 : gx_ml "WeighedMachines$Baring" 38 yy_JA_fill := Or.inl (gx_F_in (tb_2 (List.mem_of_getElem? (i := 174) (by decide +kernel))) rfl)
theorem ml_Ba_44 : gx_ml "WeighedMachines$Baring" 44 yy_Ma_spread := Or.inl (gx_F_in (tb_2 (List.mem_of_getElem? (i := 175) (by decide +kernel))) rfl)
theorem ml_Ba_48 : gx_ml "WeighedMachines$Baring" 48 yy_Ba_leastEnd := Or.inl (gx_F_in (tb_2 (List.mem_of_getElem? (i := 186) (by decide +kernel))) rfl)
theorem ml_Ba_52 : gx_ml "WeighedMachines$Baring" 52 yy_Ma_setEndUnlessFar := Or.inl (gx_F_in (tb_2 (List.mem_of_getElem? (i := 192) (by decide +kernel))) rfl)
theorem ml_Ba_55 : gx_ml "WeighedMachines$Baring" 55 yy_Ba_bringOthers := Or.inl (gx_F_in (tb_2 (List.mem_of_getElem? (i := 193) (by decide +kernel))) rfl)
theorem ml_Ba_59 : gx_ml "WeighedMachines$Baring" 59 yy_Ma_endOrFar := Or.inl (gx_F_in (tb_2 (List.mem_of_getElem? (i := 190) (by decide +kernel))) rfl)
theorem ml_Ba_63 : Cond.methodLink "WeighedMachines$Baring" 63 yy_JM_min ∈ gx_F := gx_F_in (tb_2 (List.mem_of_getElem? (i := 191) (by decide +kernel))) rfl
theorem ml_Ba_93 : gx_ml "WeighedMachines$Baring" 93 yy_Ma_bring := Or.inl (gx_F_in (tb_2 (List.mem_of_getElem? (i := 201) (by decide +kernel))) rfl)
theorem ml_BP_25 : gx_ml "WeighedMachines$BestPath" 25 yy_On_arcsOf := Or.inl (gx_F_in (tb_3 (List.mem_of_getElem? (i := 122) (by decide +kernel))) rfl)
theorem ml_BP_31 : Cond.methodLink "WeighedMachines$BestPath" 31 yy_JM_minX ∈ gx_F := gx_F_in (tb_3 (List.mem_of_getElem? (i := 126) (by decide +kernel))) rfl
theorem ml_BP_40 : gx_ml "WeighedMachines$BestPath" 40 yy_On_bestArc := Or.inl (gx_F_in (tb_3 (List.mem_of_getElem? (i := 129) (by decide +kernel))) rfl)
theorem ml_Co_25 : gx_ml "WeighedMachines$Composing" 25 yy_Ma_clear := Or.inl (gx_F_in (tb_2 (List.mem_of_getElem? (i := 101) (by decide +kernel))) rfl)
theorem ml_Co_35 : gx_ml "WeighedMachines$Composing" 35 yy_Co_tripleOf := Or.inl (gx_F_in (tb_2 (List.mem_of_getElem? (i := 102) (by decide +kernel))) rfl)
theorem ml_Co_39 : gx_ml "WeighedMachines$Composing" 39 yy_Co_find := Or.inl (gx_F_in (tb_2 (List.mem_of_getElem? (i := 105) (by decide +kernel))) rfl)
theorem ml_Co_47 : gx_ml "WeighedMachines$Composing" 47 yy_Ma_setStart := Or.inl (gx_F_in (tb_2 (List.mem_of_getElem? (i := 109) (by decide +kernel))) rfl)
theorem ml_Co_54 : gx_ml "WeighedMachines$Composing" 54 yy_Co_leave := Or.inl (gx_F_in (tb_2 (List.mem_of_getElem? (i := 110) (by decide +kernel))) rfl)
theorem ml_Co_58 : gx_ml "WeighedMachines$Composing" 58 yy_Ma_endOrFar := Or.inl (gx_F_in (tb_2 (List.mem_of_getElem? (i := 114) (by decide +kernel))) rfl)
theorem ml_Co_62 : gx_ml "WeighedMachines$Composing" 62 yy_Ma_setEndUnlessFar := Or.inl (gx_F_in (tb_2 (List.mem_of_getElem? (i := 119) (by decide +kernel))) rfl)
theorem ml_Co_65 : gx_ml "WeighedMachines$Composing" 65 yy_Co_bringBoth := Or.inl (gx_F_in (tb_2 (List.mem_of_getElem? (i := 123) (by decide +kernel))) rfl)
theorem ml_Co_69 : gx_ml "WeighedMachines$Composing" 69 yy_Co_bringFirst := Or.inl (gx_F_in (tb_2 (List.mem_of_getElem? (i := 146) (by decide +kernel))) rfl)
theorem ml_Co_73 : gx_ml "WeighedMachines$Composing" 73 yy_Co_bringSecond := Or.inl (gx_F_in (tb_2 (List.mem_of_getElem? (i := 150) (by decide +kernel))) rfl)
theorem ml_Co_79 : gx_ml "WeighedMachines$Composing" 79 yy_Ma_placeOf := Or.inl (gx_F_in (tb_2 (List.mem_of_getElem? (i := 128) (by decide +kernel))) rfl)
theorem ml_Co_102 : gx_ml "WeighedMachines$Composing" 102 yy_Co_bring := Or.inl (gx_F_in (tb_2 (List.mem_of_getElem? (i := 141) (by decide +kernel))) rfl)
theorem ml_Co_106 : gx_ml "WeighedMachines$Composing" 106 yy_Ma_bring := Or.inl (gx_F_in (tb_2 (List.mem_of_getElem? (i := 145) (by decide +kernel))) rfl)
theorem ml_De_25 : gx_ml "WeighedMachines$Determining" 25 yy_Ma_clear := Or.inl (gx_F_in (tb_2 (List.mem_of_getElem? (i := 223) (by decide +kernel))) rfl)
theorem ml_De_37 : gx_ml "WeighedMachines$Determining" 37 yy_JA_fill := Or.inl (gx_F_in (tb_2 (List.mem_of_getElem? (i := 225) (by decide +kernel))) rfl)
theorem ml_De_43 : gx_ml "WeighedMachines$Determining" 43 yy_De_findNext := Or.inl (gx_F_in (tb_2 (List.mem_of_getElem? (i := 226) (by decide +kernel))) rfl)
theorem ml_De_51 : gx_ml "WeighedMachines$Determining" 51 yy_Ma_setStart := Or.inl (gx_F_in (tb_2 (List.mem_of_getElem? (i := 235) (by decide +kernel))) rfl)
theorem ml_De_58 : gx_ml "WeighedMachines$Determining" 58 yy_De_leastEnd := Or.inl (gx_F_in (tb_2 (List.mem_of_getElem? (i := 236) (by decide +kernel))) rfl)
theorem ml_De_62 : gx_ml "WeighedMachines$Determining" 62 yy_Ma_setEndUnlessFar := Or.inl (gx_F_in (tb_3 (List.mem_of_getElem? (i := 2) (by decide +kernel))) rfl)
theorem ml_De_65 : gx_ml "WeighedMachines$Determining" 65 yy_De_leave := Or.inl (gx_F_in (tb_3 (List.mem_of_getElem? (i := 3) (by decide +kernel))) rfl)
theorem ml_De_69 : gx_ml "WeighedMachines$Determining" 69 yy_Ma_endOrFar := Or.inl (gx_F_in (tb_3 (List.mem_of_getElem? (i := 0) (by decide +kernel))) rfl)
theorem ml_De_72 : Cond.methodLink "WeighedMachines$Determining" 72 yy_JM_min ∈ gx_F := gx_F_in (tb_3 (List.mem_of_getElem? (i := 1) (by decide +kernel))) rfl
theorem ml_De_78 : gx_ml "WeighedMachines$Determining" 78 yy_De_sumUp := Or.inl (gx_F_in (tb_3 (List.mem_of_getElem? (i := 7) (by decide +kernel))) rfl)
theorem ml_De_90 : gx_ml "WeighedMachines$Determining" 90 yy_Ma_bring := Or.inl (gx_F_in (tb_3 (List.mem_of_getElem? (i := 16) (by decide +kernel))) rfl)
theorem ml_De_114 : gx_ml "WeighedMachines$Determining" 114 yy_De_isNext := Or.inl (gx_F_in (tb_2 (List.mem_of_getElem? (i := 230) (by decide +kernel))) rfl)
theorem ml_De_118 : Cond.methodLink "WeighedMachines$Determining" 118 arraycopyName ∈ gx_F := gx_F_in (tb_2 (List.mem_of_getElem? (i := 234) (by decide +kernel))) rfl
theorem ml_Ma_21 : gx_ml "WeighedMachines$Machine" 21 yy_JA_fill := Or.inl (gx_F_in (tb_1 (List.mem_of_getElem? (i := 33) (by decide +kernel))) rfl)
theorem ml_Ma_46 : gx_ml "WeighedMachines$Machine" 46 yy_Ma_placeOf := Or.inl (gx_F_in (tb_2 (List.mem_of_getElem? (i := 83) (by decide +kernel))) rfl)
theorem ml_Ma_50 : Cond.methodLink "WeighedMachines$Machine" 50 yy_JM_min ∈ gx_F := gx_F_in (tb_2 (List.mem_of_getElem? (i := 87) (by decide +kernel))) rfl
theorem ml_Ma_56 : Cond.methodLink "WeighedMachines$Machine" 56 arraycopyName ∈ gx_F := gx_F_in (tb_2 (List.mem_of_getElem? (i := 90) (by decide +kernel))) rfl
theorem ml_On_33 : gx_ml "WeighedMachines$Onward" 33 yy_On_costAlong := Or.inl (gx_F_in (tb_3 (List.mem_of_getElem? (i := 28) (by decide +kernel))) rfl)
theorem ml_On_55 : gx_ml "WeighedMachines$Onward" 55 yy_Ma_placeOf := Or.inl (gx_F_in (tb_3 (List.mem_of_getElem? (i := 134) (by decide +kernel))) rfl)
theorem ml_Pa_23 : gx_ml "WeighedMachines$Parsing" 23 yy_Pa_readSize := Or.inl (gx_F_in (tb_3 (List.mem_of_getElem? (i := 203) (by decide +kernel))) rfl)
theorem ml_Pa_32 : gx_ml "WeighedMachines$Parsing" 32 yy_Pa_readItem := Or.inl (gx_F_in (tb_3 (List.mem_of_getElem? (i := 226) (by decide +kernel))) rfl)
theorem ml_Pa_35 : gx_ml "WeighedMachines$Parsing" 35 yy_Pa_readSign := Or.inl (gx_F_in (tb_3 (List.mem_of_getElem? (i := 207) (by decide +kernel))) rfl)
theorem ml_Pa_41 : gx_ml "WeighedMachines$Parsing" 41 yy_Pa_readNumber := Or.inl (gx_F_in (tb_3 (List.mem_of_getElem? (i := 216) (by decide +kernel))) rfl)
theorem ml_Pa_49 : gx_ml "WeighedMachines$Parsing" 49 yy_Ma_clear := Or.inl (gx_F_in (tb_3 (List.mem_of_getElem? (i := 225) (by decide +kernel))) rfl)
theorem ml_Pa_55 : gx_ml "WeighedMachines$Parsing" 55 yy_Te_codeAt := Or.inl (gx_F_in (tb_3 (List.mem_of_getElem? (i := 211) (by decide +kernel))) rfl)
theorem ml_Pa_59 : gx_ml "WeighedMachines$Parsing" 59 yy_Pa_readStart := Or.inl (gx_F_in (tb_3 (List.mem_of_getElem? (i := 230) (by decide +kernel))) rfl)
theorem ml_Pa_62 : gx_ml "WeighedMachines$Parsing" 62 yy_Pa_readEnd := Or.inl (gx_F_in (tb_4 (List.mem_of_getElem? (i := 4) (by decide +kernel))) rfl)
theorem ml_Pa_65 : gx_ml "WeighedMachines$Parsing" 65 yy_Pa_readArc := Or.inl (gx_F_in (tb_4 (List.mem_of_getElem? (i := 9) (by decide +kernel))) rfl)
theorem ml_Pa_68 : gx_ml "WeighedMachines$Parsing" 68 yy_Pa_readState := Or.inl (gx_F_in (tb_3 (List.mem_of_getElem? (i := 234) (by decide +kernel))) rfl)
theorem ml_Pa_74 : gx_ml "WeighedMachines$Parsing" 74 yy_Pa_readWeight := Or.inl (gx_F_in (tb_3 (List.mem_of_getElem? (i := 238) (by decide +kernel))) rfl)
theorem ml_Pa_77 : gx_ml "WeighedMachines$Parsing" 77 yy_Ma_setStart := Or.inl (gx_F_in (tb_4 (List.mem_of_getElem? (i := 3) (by decide +kernel))) rfl)
theorem ml_Pa_87 : gx_ml "WeighedMachines$Parsing" 87 yy_Pa_readLabel := Or.inl (gx_F_in (tb_4 (List.mem_of_getElem? (i := 13) (by decide +kernel))) rfl)
theorem ml_Pa_98 : gx_ml "WeighedMachines$Parsing" 98 yy_Ma_bring := Or.inl (gx_F_in (tb_4 (List.mem_of_getElem? (i := 20) (by decide +kernel))) rfl)
theorem ml_Pa_107 : gx_ml "WeighedMachines$Parsing" 107 yy_Pa_isDigit := Or.inl (gx_F_in (tb_3 (List.mem_of_getElem? (i := 220) (by decide +kernel))) rfl)
theorem ml_Te_21 : gx_ml "WeighedMachines$Text" 21 yy_Te_put := Or.inl (gx_F_in (tb_3 (List.mem_of_getElem? (i := 169) (by decide +kernel))) rfl)
theorem ml_Te_25 : gx_ml "WeighedMachines$Text" 25 yy_Te_putNumber := Or.inl (gx_F_in (tb_3 (List.mem_of_getElem? (i := 173) (by decide +kernel))) rfl)
theorem ml_Te_29 : gx_ml "WeighedMachines$Text" 29 yy_Te_putWeight := Or.inl (gx_F_in (tb_3 (List.mem_of_getElem? (i := 182) (by decide +kernel))) rfl)
theorem ml_Te_57 : gx_ml "WeighedMachines$Text" 57 yy_Te_putStateWeight := Or.inl (gx_F_in (tb_3 (List.mem_of_getElem? (i := 178) (by decide +kernel))) rfl)
theorem ml_Te_77 : gx_ml "WeighedMachines$Text" 77 yy_Te_putArc := Or.inl (gx_F_in (tb_3 (List.mem_of_getElem? (i := 187) (by decide +kernel))) rfl)
theorem ml_We_11 : gx_ml "WeighedMachines$Weighing" 11 yy_Ro_init := Or.inl (gx_F_in (tb_1 (List.mem_of_getElem? (i := 174) (by decide +kernel))) rfl)
theorem ml_We_25 : gx_ml "WeighedMachines$Weighing" 25 yy_Ro_take := Or.inl (gx_F_in (tb_3 (List.mem_of_getElem? (i := 84) (by decide +kernel))) rfl)
theorem ml_We_39 : gx_ml "WeighedMachines$Weighing" 39 yy_JA_fill := Or.inl (gx_F_in (tb_3 (List.mem_of_getElem? (i := 90) (by decide +kernel))) rfl)
theorem ml_We_52 : gx_ml "WeighedMachines$Weighing" 52 yy_We_baseOf := Or.inl (gx_F_in (tb_3 (List.mem_of_getElem? (i := 91) (by decide +kernel))) rfl)
theorem ml_We_56 : gx_ml "WeighedMachines$Weighing" 56 yy_Ma_spread := Or.inl (gx_F_in (tb_3 (List.mem_of_getElem? (i := 94) (by decide +kernel))) rfl)
theorem ml_We_60 : gx_ml "WeighedMachines$Weighing" 60 yy_We_leave := Or.inl (gx_F_in (tb_3 (List.mem_of_getElem? (i := 95) (by decide +kernel))) rfl)
theorem ml_We_64 : gx_ml "WeighedMachines$Weighing" 64 yy_We_leastEnd := Or.inl (gx_F_in (tb_3 (List.mem_of_getElem? (i := 109) (by decide +kernel))) rfl)
theorem ml_We_79 : gx_ml "WeighedMachines$Weighing" 79 yy_Ro_doneAfter := Or.inl (gx_F_in (tb_3 (List.mem_of_getElem? (i := 100) (by decide +kernel))) rfl)
theorem ml_We_97 : Cond.methodLink "WeighedMachines$Weighing" 97 yy_JM_min ∈ gx_F := gx_F_in (tb_3 (List.mem_of_getElem? (i := 108) (by decide +kernel))) rfl
theorem ml_We_106 : gx_ml "WeighedMachines$Weighing" 106 yy_Ma_endOrFar := Or.inl (gx_F_in (tb_3 (List.mem_of_getElem? (i := 113) (by decide +kernel))) rfl)
theorem ml_La_9 : gx_ml "WeighedMachinesLaw" 9 yy_WM_init := Or.inl (gx_F_in (tb_1 (List.mem_of_getElem? (i := 19) (by decide +kernel))) rfl)
theorem ml_La_12 : gx_ml "WeighedMachinesLaw" 12 yy_Mo_init := Or.inl (gx_F_in (tb_4 (List.mem_of_getElem? (i := 39) (by decide +kernel))) rfl)
theorem ml_La_13 : gx_ml "WeighedMachinesLaw" 13 yy_WM_fresh := Or.inl (gx_F_in (tb_2 (List.mem_of_getElem? (i := 41) (by decide +kernel))) rfl)
theorem ml_La_17 : gx_ml "WeighedMachinesLaw" 17 yy_Mo_fresh := Or.inl (gx_F_in (tb_4 (List.mem_of_getElem? (i := 134) (by decide +kernel))) rfl)
theorem ml_La_18 : gx_ml "WeighedMachinesLaw" 18 yy_WM_start := Or.inl (gx_F_in (tb_2 (List.mem_of_getElem? (i := 52) (by decide +kernel))) rfl)
theorem ml_La_22 : gx_ml "WeighedMachinesLaw" 22 yy_Mo_start := Or.inl (gx_F_in (tb_4 (List.mem_of_getElem? (i := 141) (by decide +kernel))) rfl)
theorem ml_La_23 : gx_ml "WeighedMachinesLaw" 23 yy_WM_end := Or.inl (gx_F_in (tb_2 (List.mem_of_getElem? (i := 68) (by decide +kernel))) rfl)
theorem ml_La_26 : gx_ml "WeighedMachinesLaw" 26 yy_Mo_end := Or.inl (gx_F_in (tb_4 (List.mem_of_getElem? (i := 153) (by decide +kernel))) rfl)
theorem ml_La_27 : gx_ml "WeighedMachinesLaw" 27 yy_WM_arc := Or.inl (gx_F_in (tb_2 (List.mem_of_getElem? (i := 72) (by decide +kernel))) rfl)
theorem ml_La_31 : gx_ml "WeighedMachinesLaw" 31 yy_Mo_arc := Or.inl (gx_F_in (tb_4 (List.mem_of_getElem? (i := 157) (by decide +kernel))) rfl)
theorem ml_La_32 : gx_ml "WeighedMachinesLaw" 32 yy_WM_compose := Or.inl (gx_F_in (tb_2 (List.mem_of_getElem? (i := 93) (by decide +kernel))) rfl)
theorem ml_La_36 : gx_ml "WeighedMachinesLaw" 36 yy_Mo_compose := Or.inl (gx_F_in (tb_4 (List.mem_of_getElem? (i := 169) (by decide +kernel))) rfl)
theorem ml_La_37 : gx_ml "WeighedMachinesLaw" 37 yy_WM_bare := Or.inl (gx_F_in (tb_2 (List.mem_of_getElem? (i := 163) (by decide +kernel))) rfl)
theorem ml_La_41 : gx_ml "WeighedMachinesLaw" 41 yy_Mo_bare := Or.inl (gx_F_in (tb_4 (List.mem_of_getElem? (i := 197) (by decide +kernel))) rfl)
theorem ml_La_42 : gx_ml "WeighedMachinesLaw" 42 yy_WM_determine := Or.inl (gx_F_in (tb_2 (List.mem_of_getElem? (i := 202) (by decide +kernel))) rfl)
theorem ml_La_45 : gx_ml "WeighedMachinesLaw" 45 yy_Mo_determine := Or.inl (gx_F_in (tb_4 (List.mem_of_getElem? (i := 206) (by decide +kernel))) rfl)
theorem ml_La_46 : gx_ml "WeighedMachinesLaw" 46 yy_WM_push := Or.inl (gx_F_in (tb_3 (List.mem_of_getElem? (i := 17) (by decide +kernel))) rfl)
theorem ml_La_49 : gx_ml "WeighedMachinesLaw" 49 yy_Mo_push := Or.inl (gx_F_in (tb_4 (List.mem_of_getElem? (i := 226) (by decide +kernel))) rfl)
theorem ml_La_50 : gx_ml "WeighedMachinesLaw" 50 yy_WM_trim := Or.inl (gx_F_in (tb_3 (List.mem_of_getElem? (i := 49) (by decide +kernel))) rfl)
theorem ml_La_53 : gx_ml "WeighedMachinesLaw" 53 yy_Mo_trim := Or.inl (gx_F_in (tb_4 (List.mem_of_getElem? (i := 234) (by decide +kernel))) rfl)
theorem ml_La_54 : gx_ml "WeighedMachinesLaw" 54 yy_WM_weigh := Or.inl (gx_F_in (tb_3 (List.mem_of_getElem? (i := 76) (by decide +kernel))) rfl)
theorem ml_La_58 : gx_ml "WeighedMachinesLaw" 58 yy_Mo_weigh := Or.inl (gx_F_in (tb_5 (List.mem_of_getElem? (i := 10) (by decide +kernel))) rfl)
theorem ml_La_59 : gx_ml "WeighedMachinesLaw" 59 yy_WM_best := Or.inl (gx_F_in (tb_3 (List.mem_of_getElem? (i := 114) (by decide +kernel))) rfl)
theorem ml_La_63 : gx_ml "WeighedMachinesLaw" 63 yy_Mo_best := Or.inl (gx_F_in (tb_5 (List.mem_of_getElem? (i := 24) (by decide +kernel))) rfl)
theorem ml_La_64 : gx_ml "WeighedMachinesLaw" 64 yy_WM_step := Or.inl (gx_F_in (tb_3 (List.mem_of_getElem? (i := 136) (by decide +kernel))) rfl)
theorem ml_La_67 : gx_ml "WeighedMachinesLaw" 67 yy_Mo_step := Or.inl (gx_F_in (tb_5 (List.mem_of_getElem? (i := 28) (by decide +kernel))) rfl)
theorem ml_La_68 : gx_ml "WeighedMachinesLaw" 68 yy_WM_count := Or.inl (gx_F_in (tb_3 (List.mem_of_getElem? (i := 145) (by decide +kernel))) rfl)
theorem ml_La_71 : gx_ml "WeighedMachinesLaw" 71 yy_Mo_count := Or.inl (gx_F_in (tb_5 (List.mem_of_getElem? (i := 32) (by decide +kernel))) rfl)
theorem ml_La_72 : gx_ml "WeighedMachinesLaw" 72 yy_WM_part := Or.inl (gx_F_in (tb_3 (List.mem_of_getElem? (i := 153) (by decide +kernel))) rfl)
theorem ml_La_75 : gx_ml "WeighedMachinesLaw" 75 yy_Mo_part := Or.inl (gx_F_in (tb_5 (List.mem_of_getElem? (i := 36) (by decide +kernel))) rfl)
theorem ml_La_76 : gx_ml "WeighedMachinesLaw" 76 yy_WM_endOf := Or.inl (gx_F_in (tb_3 (List.mem_of_getElem? (i := 157) (by decide +kernel))) rfl)
theorem ml_La_79 : gx_ml "WeighedMachinesLaw" 79 yy_Mo_endOf := Or.inl (gx_F_in (tb_5 (List.mem_of_getElem? (i := 40) (by decide +kernel))) rfl)
theorem ml_La_80 : gx_ml "WeighedMachinesLaw" 80 yy_WM_print := Or.inl (gx_F_in (tb_3 (List.mem_of_getElem? (i := 161) (by decide +kernel))) rfl)
theorem ml_La_84 : gx_ml "WeighedMachinesLaw" 84 yy_Mo_print := Or.inl (gx_F_in (tb_5 (List.mem_of_getElem? (i := 44) (by decide +kernel))) rfl)
theorem ml_La_85 : gx_ml "WeighedMachinesLaw" 85 yy_WM_parse := Or.inl (gx_F_in (tb_3 (List.mem_of_getElem? (i := 195) (by decide +kernel))) rfl)
theorem ml_La_88 : gx_ml "WeighedMachinesLaw" 88 yy_Mo_parse := Or.inl (gx_F_in (tb_5 (List.mem_of_getElem? (i := 70) (by decide +kernel))) rfl)
theorem ml_La_91 : gx_ml "WeighedMachinesLaw" 91 yy_WM_feed := Or.inl (gx_F_in (tb_4 (List.mem_of_getElem? (i := 21) (by decide +kernel))) rfl)
theorem ml_La_95 : gx_ml "WeighedMachinesLaw" 95 yy_Mo_feed := Or.inl (gx_F_in (tb_5 (List.mem_of_getElem? (i := 65) (by decide +kernel))) rfl)
theorem ml_La_96 : gx_ml "WeighedMachinesLaw" 96 yy_WM_letter := Or.inl (gx_F_in (tb_4 (List.mem_of_getElem? (i := 32) (by decide +kernel))) rfl)
theorem ml_La_99 : gx_ml "WeighedMachinesLaw" 99 yy_Mo_letter := Or.inl (gx_F_in (tb_5 (List.mem_of_getElem? (i := 61) (by decide +kernel))) rfl)
theorem ml_Mo_75 : gx_ml "WeighedMachinesModel" 75 yy_Mo_blank := Or.inl (gx_F_in (tb_4 (List.mem_of_getElem? (i := 43) (by decide +kernel))) rfl)
theorem ml_Mo_81 : gx_ml "WeighedMachinesModel" 81 yy_Mo_isSlot := Or.inl (gx_F_in (tb_4 (List.mem_of_getElem? (i := 138) (by decide +kernel))) rfl)
theorem ml_Mo_87 : gx_ml "WeighedMachinesModel" 87 yy_Mo_isState := Or.inl (gx_F_in (tb_4 (List.mem_of_getElem? (i := 145) (by decide +kernel))) rfl)
theorem ml_Mo_91 : gx_ml "WeighedMachinesModel" 91 yy_Mo_isWeight := Or.inl (gx_F_in (tb_4 (List.mem_of_getElem? (i := 149) (by decide +kernel))) rfl)
theorem ml_Mo_95 : gx_ml "WeighedMachinesModel" 95 yy_Mo_against := Or.inl (gx_F_in (tb_4 (List.mem_of_getElem? (i := 165) (by decide +kernel))) rfl)
theorem ml_Mo_99 : gx_ml "WeighedMachinesModel" 99 yy_Mo_put := Or.inl (gx_F_in (tb_4 (List.mem_of_getElem? (i := 161) (by decide +kernel))) rfl)
theorem ml_Mo_107 : gx_ml "WeighedMachinesModel" 107 yy_Mo_reach := Or.inl (gx_F_in (tb_4 (List.mem_of_getElem? (i := 173) (by decide +kernel))) rfl)
theorem ml_Mo_111 : gx_ml "WeighedMachinesModel" 111 yy_Mo_link := Or.inl (gx_F_in (tb_4 (List.mem_of_getElem? (i := 185) (by decide +kernel))) rfl)
theorem ml_Mo_115 : gx_ml "WeighedMachinesModel" 115 yy_Mo_meet := Or.inl (gx_F_in (tb_4 (List.mem_of_getElem? (i := 181) (by decide +kernel))) rfl)
theorem ml_Mo_119 : gx_ml "WeighedMachinesModel" 119 yy_Mo_alone := Or.inl (gx_F_in (tb_4 (List.mem_of_getElem? (i := 189) (by decide +kernel))) rfl)
theorem ml_Mo_123 : gx_ml "WeighedMachinesModel" 123 yy_Mo_explore := Or.inl (gx_F_in (tb_4 (List.mem_of_getElem? (i := 177) (by decide +kernel))) rfl)
theorem ml_Mo_126 : gx_ml "WeighedMachinesModel" 126 yy_Mo_keep := Or.inl (gx_F_in (tb_4 (List.mem_of_getElem? (i := 193) (by decide +kernel))) rfl)
theorem ml_Mo_131 : gx_ml "WeighedMachinesModel" 131 yy_Mo_spread := Or.inl (gx_F_in (tb_4 (List.mem_of_getElem? (i := 201) (by decide +kernel))) rfl)
theorem ml_Mo_134 : gx_ml "WeighedMachinesModel" 134 yy_Mo_follow := Or.inl (gx_F_in (tb_4 (List.mem_of_getElem? (i := 218) (by decide +kernel))) rfl)
theorem ml_Mo_138 : gx_ml "WeighedMachinesModel" 138 yy_Mo_settle := Or.inl (gx_F_in (tb_4 (List.mem_of_getElem? (i := 222) (by decide +kernel))) rfl)
theorem ml_Mo_142 : gx_ml "WeighedMachinesModel" 142 yy_Mo_isFit := Or.inl (gx_F_in (tb_4 (List.mem_of_getElem? (i := 210) (by decide +kernel))) rfl)
theorem ml_Mo_145 : gx_ml "WeighedMachinesModel" 145 yy_Mo_gather := Or.inl (gx_F_in (tb_4 (List.mem_of_getElem? (i := 214) (by decide +kernel))) rfl)
theorem ml_Mo_148 : gx_ml "WeighedMachinesModel" 148 yy_Mo_findOnward := Or.inl (gx_F_in (tb_4 (List.mem_of_getElem? (i := 230) (by decide +kernel))) rfl)
theorem ml_Mo_152 : gx_ml "WeighedMachinesModel" 152 yy_Mo_findReached := Or.inl (gx_F_in (tb_4 (List.mem_of_getElem? (i := 238) (by decide +kernel))) rfl)
theorem ml_Mo_155 : gx_ml "WeighedMachinesModel" 155 yy_Mo_rank := Or.inl (gx_F_in (tb_5 (List.mem_of_getElem? (i := 2) (by decide +kernel))) rfl)
theorem ml_Mo_159 : gx_ml "WeighedMachinesModel" 159 yy_Mo_isOnPath := Or.inl (gx_F_in (tb_5 (List.mem_of_getElem? (i := 6) (by decide +kernel))) rfl)
theorem ml_Mo_168 : gx_ml "WeighedMachinesModel" 168 yy_Mo_sizeOf := Or.inl (gx_F_in (tb_5 (List.mem_of_getElem? (i := 14) (by decide +kernel))) rfl)
theorem ml_Mo_171 : gx_ml "WeighedMachinesModel" 171 yy_Mo_labelAt := Or.inl (gx_F_in (tb_5 (List.mem_of_getElem? (i := 17) (by decide +kernel))) rfl)
theorem ml_Mo_174 : gx_ml "WeighedMachinesModel" 174 yy_Mo_relax := Or.inl (gx_F_in (tb_5 (List.mem_of_getElem? (i := 20) (by decide +kernel))) rfl)
theorem ml_Mo_185 : gx_ml "WeighedMachinesModel" 185 yy_Mo_sayDigit := Or.inl (gx_F_in (tb_5 (List.mem_of_getElem? (i := 57) (by decide +kernel))) rfl)
theorem ml_Mo_188 : gx_ml "WeighedMachinesModel" 188 yy_Mo_say := Or.inl (gx_F_in (tb_5 (List.mem_of_getElem? (i := 48) (by decide +kernel))) rfl)
theorem ml_Mo_191 : gx_ml "WeighedMachinesModel" 191 yy_Mo_sayNumber := Or.inl (gx_F_in (tb_5 (List.mem_of_getElem? (i := 52) (by decide +kernel))) rfl)
theorem ml_Mo_200 : gx_ml "WeighedMachinesModel" 200 yy_Mo_here := Or.inl (gx_F_in (tb_5 (List.mem_of_getElem? (i := 82) (by decide +kernel))) rfl)
theorem ml_Mo_206 : gx_ml "WeighedMachinesModel" 206 yy_Mo_fail := Or.inl (gx_F_in (tb_5 (List.mem_of_getElem? (i := 86) (by decide +kernel))) rfl)
theorem ml_Mo_209 : gx_ml "WeighedMachinesModel" 209 yy_Mo_isDigit := Or.inl (gx_F_in (tb_5 (List.mem_of_getElem? (i := 95) (by decide +kernel))) rfl)
theorem ml_Mo_215 : gx_ml "WeighedMachinesModel" 215 yy_Mo_takeNumber := Or.inl (gx_F_in (tb_5 (List.mem_of_getElem? (i := 91) (by decide +kernel))) rfl)
theorem ml_Mo_219 : gx_ml "WeighedMachinesModel" 219 yy_Mo_take := Or.inl (gx_F_in (tb_5 (List.mem_of_getElem? (i := 78) (by decide +kernel))) rfl)
theorem ml_Mo_222 : gx_ml "WeighedMachinesModel" 222 yy_Mo_takeState := Or.inl (gx_F_in (tb_5 (List.mem_of_getElem? (i := 104) (by decide +kernel))) rfl)
theorem ml_Mo_225 : gx_ml "WeighedMachinesModel" 225 yy_Mo_takeIf := Or.inl (gx_F_in (tb_5 (List.mem_of_getElem? (i := 74) (by decide +kernel))) rfl)
theorem ml_Mo_228 : gx_ml "WeighedMachinesModel" 228 yy_Mo_takeLabel := Or.inl (gx_F_in (tb_5 (List.mem_of_getElem? (i := 112) (by decide +kernel))) rfl)
theorem ml_Mo_233 : gx_ml "WeighedMachinesModel" 233 yy_Mo_parseEnds := Or.inl (gx_F_in (tb_5 (List.mem_of_getElem? (i := 100) (by decide +kernel))) rfl)
theorem ml_Mo_237 : gx_ml "WeighedMachinesModel" 237 yy_Mo_parseArc := Or.inl (gx_F_in (tb_5 (List.mem_of_getElem? (i := 108) (by decide +kernel))) rfl)
theorem ml_WM_71 : gx_ml "WeighedMachines" 71 yy_Pa_init := Or.inr ⟨"WeighedMachines", tb_1 (List.mem_of_getElem? (i := 233) (by decide +kernel))⟩
theorem ml_Ba_76 : gx_ml "WeighedMachines$Baring" 76 yy_WM_labelsOf := Or.inr ⟨"WeighedMachines", tb_2 (List.mem_of_getElem? (i := 197) (by decide +kernel))⟩
theorem ml_Ba_80 : gx_ml "WeighedMachines$Baring" 80 yy_WM_fromOf := Or.inr ⟨"WeighedMachines", tb_2 (List.mem_of_getElem? (i := 198) (by decide +kernel))⟩
theorem ml_Ba_83 : gx_ml "WeighedMachines$Baring" 83 yy_WM_toOf := Or.inr ⟨"WeighedMachines", tb_2 (List.mem_of_getElem? (i := 199) (by decide +kernel))⟩
theorem ml_Ba_86 : gx_ml "WeighedMachines$Baring" 86 yy_WM_keyOf := Or.inr ⟨"WeighedMachines", tb_2 (List.mem_of_getElem? (i := 200) (by decide +kernel))⟩
theorem ml_BP_46 : gx_ml "WeighedMachines$BestPath" 46 yy_WM_toOf := Or.inr ⟨"WeighedMachines", tb_3 (List.mem_of_getElem? (i := 135) (by decide +kernel))⟩
theorem ml_Co_76 : gx_ml "WeighedMachines$Composing" 76 yy_WM_keyOf := Or.inr ⟨"WeighedMachines", tb_2 (List.mem_of_getElem? (i := 127) (by decide +kernel))⟩
theorem ml_Co_85 : gx_ml "WeighedMachines$Composing" 85 yy_WM_outOf := Or.inr ⟨"WeighedMachines", tb_2 (List.mem_of_getElem? (i := 129) (by decide +kernel))⟩
theorem ml_Co_88 : gx_ml "WeighedMachines$Composing" 88 yy_WM_labelPair := Or.inr ⟨"WeighedMachines", tb_2 (List.mem_of_getElem? (i := 132) (by decide +kernel))⟩
theorem ml_Co_92 : gx_ml "WeighedMachines$Composing" 92 yy_WM_toOf := Or.inr ⟨"WeighedMachines", tb_2 (List.mem_of_getElem? (i := 135) (by decide +kernel))⟩
theorem ml_Co_95 : gx_ml "WeighedMachines$Composing" 95 yy_WM_inOf := Or.inr ⟨"WeighedMachines", tb_2 (List.mem_of_getElem? (i := 138) (by decide +kernel))⟩
theorem ml_De_82 : gx_ml "WeighedMachines$Determining" 82 yy_WM_labelPair := Or.inr ⟨"WeighedMachines", tb_3 (List.mem_of_getElem? (i := 14) (by decide +kernel))⟩
theorem ml_De_86 : gx_ml "WeighedMachines$Determining" 86 yy_WM_keyOf := Or.inr ⟨"WeighedMachines", tb_3 (List.mem_of_getElem? (i := 15) (by decide +kernel))⟩
theorem ml_De_101 : gx_ml "WeighedMachines$Determining" 101 yy_WM_fromOf := Or.inr ⟨"WeighedMachines", tb_3 (List.mem_of_getElem? (i := 11) (by decide +kernel))⟩
theorem ml_De_108 : gx_ml "WeighedMachines$Determining" 108 yy_WM_inOf := Or.inr ⟨"WeighedMachines", tb_3 (List.mem_of_getElem? (i := 12) (by decide +kernel))⟩
theorem ml_De_111 : gx_ml "WeighedMachines$Determining" 111 yy_WM_toOf := Or.inr ⟨"WeighedMachines", tb_3 (List.mem_of_getElem? (i := 13) (by decide +kernel))⟩
theorem ml_Ma_64 : gx_ml "WeighedMachines$Machine" 64 yy_WM_fromOf := Or.inr ⟨"WeighedMachines", tb_2 (List.mem_of_getElem? (i := 179) (by decide +kernel))⟩
theorem ml_Ma_67 : gx_ml "WeighedMachines$Machine" 67 yy_WM_toOf := Or.inr ⟨"WeighedMachines", tb_2 (List.mem_of_getElem? (i := 182) (by decide +kernel))⟩
theorem ml_Ma_70 : gx_ml "WeighedMachines$Machine" 70 yy_WM_labelsOf := Or.inr ⟨"WeighedMachines", tb_2 (List.mem_of_getElem? (i := 183) (by decide +kernel))⟩
theorem ml_Ma_73 : gx_ml "WeighedMachines$Machine" 73 yy_WM_isIn := Or.inr ⟨"WeighedMachines", tb_2 (List.mem_of_getElem? (i := 216) (by decide +kernel))⟩
theorem ml_Ma_77 : gx_ml "WeighedMachines$Machine" 77 yy_WM_inOf := Or.inr ⟨"WeighedMachines", tb_2 (List.mem_of_getElem? (i := 210) (by decide +kernel))⟩
theorem ml_Ma_80 : gx_ml "WeighedMachines$Machine" 80 yy_WM_outOf := Or.inr ⟨"WeighedMachines", tb_2 (List.mem_of_getElem? (i := 211) (by decide +kernel))⟩
theorem ml_On_41 : gx_ml "WeighedMachines$Onward" 41 yy_WM_fromOf := Or.inr ⟨"WeighedMachines", tb_3 (List.mem_of_getElem? (i := 33) (by decide +kernel))⟩
theorem ml_On_45 : gx_ml "WeighedMachines$Onward" 45 yy_WM_toOf := Or.inr ⟨"WeighedMachines", tb_3 (List.mem_of_getElem? (i := 32) (by decide +kernel))⟩
theorem ml_On_51 : gx_ml "WeighedMachines$Onward" 51 yy_WM_keyOf := Or.inr ⟨"WeighedMachines", tb_3 (List.mem_of_getElem? (i := 133) (by decide +kernel))⟩
theorem ml_Pa_90 : gx_ml "WeighedMachines$Parsing" 90 yy_WM_labelPair := Or.inr ⟨"WeighedMachines", tb_4 (List.mem_of_getElem? (i := 18) (by decide +kernel))⟩
theorem ml_Pa_94 : gx_ml "WeighedMachines$Parsing" 94 yy_WM_keyOf := Or.inr ⟨"WeighedMachines", tb_4 (List.mem_of_getElem? (i := 19) (by decide +kernel))⟩
theorem ml_Te_32 : gx_ml "WeighedMachines$Text" 32 yy_WM_fromOf := Or.inr ⟨"WeighedMachines", tb_3 (List.mem_of_getElem? (i := 191) (by decide +kernel))⟩
theorem ml_Te_36 : gx_ml "WeighedMachines$Text" 36 yy_WM_toOf := Or.inr ⟨"WeighedMachines", tb_3 (List.mem_of_getElem? (i := 192) (by decide +kernel))⟩
theorem ml_Te_39 : gx_ml "WeighedMachines$Text" 39 yy_WM_inOf := Or.inr ⟨"WeighedMachines", tb_3 (List.mem_of_getElem? (i := 193) (by decide +kernel))⟩
theorem ml_Te_42 : gx_ml "WeighedMachines$Text" 42 yy_WM_outOf := Or.inr ⟨"WeighedMachines", tb_3 (List.mem_of_getElem? (i := 194) (by decide +kernel))⟩
theorem ml_We_75 : gx_ml "WeighedMachines$Weighing" 75 yy_WM_inOf := Or.inr ⟨"WeighedMachines", tb_3 (List.mem_of_getElem? (i := 99) (by decide +kernel))⟩
theorem ml_We_82 : gx_ml "WeighedMachines$Weighing" 82 yy_WM_outOf := Or.inr ⟨"WeighedMachines", tb_3 (List.mem_of_getElem? (i := 104) (by decide +kernel))⟩
theorem ml_We_85 : gx_ml "WeighedMachines$Weighing" 85 yy_WM_labelsOf := Or.inr ⟨"WeighedMachines", tb_3 (List.mem_of_getElem? (i := 105) (by decide +kernel))⟩
theorem ml_We_88 : gx_ml "WeighedMachines$Weighing" 88 yy_WM_toOf := Or.inr ⟨"WeighedMachines", tb_3 (List.mem_of_getElem? (i := 106) (by decide +kernel))⟩
theorem ml_We_91 : gx_ml "WeighedMachines$Weighing" 91 yy_WM_fromOf := Or.inr ⟨"WeighedMachines", tb_3 (List.mem_of_getElem? (i := 107) (by decide +kernel))⟩
theorem kc_WM_144 : Cond.constantLong "WeighedMachines" 144 (-1) ∈ gx_F := gx_F_in (tb_3 (List.mem_of_getElem? (i := 38) (by decide +kernel))) rfl
theorem kc_WM_199 : Cond.constantLong "WeighedMachines" 199 255 ∈ gx_F := gx_F_in (tb_4 (List.mem_of_getElem? (i := 28) (by decide +kernel))) rfl
theorem kc_WM_208 : Cond.constantLong "WeighedMachines" 208 1000000000 ∈ gx_F := gx_F_in (tb_2 (List.mem_of_getElem? (i := 63) (by decide +kernel))) rfl
theorem kc_WM_210 : Cond.constantLong "WeighedMachines" 210 32 ∈ gx_F := gx_F_in (tb_4 (List.mem_of_getElem? (i := 29) (by decide +kernel))) rfl
theorem kc_WM_212 : Cond.constantLong "WeighedMachines" 212 126 ∈ gx_F := gx_F_in (tb_4 (List.mem_of_getElem? (i := 30) (by decide +kernel))) rfl
theorem kc_Ba_36 : Cond.constantLong "WeighedMachines$Baring" 36 1152921504606846976 ∈ gx_F := gx_F_in (tb_2 (List.mem_of_getElem? (i := 173) (by decide +kernel))) rfl
theorem kc_De_35 : Cond.constantLong "WeighedMachines$Determining" 35 1152921504606846976 ∈ gx_F := gx_F_in (tb_2 (List.mem_of_getElem? (i := 224) (by decide +kernel))) rfl
theorem kc_Ma_19 : Cond.constantLong "WeighedMachines$Machine" 19 (-1) ∈ gx_F := gx_F_in (tb_1 (List.mem_of_getElem? (i := 32) (by decide +kernel))) rfl
theorem kc_Ma_44 : Cond.constantLong "WeighedMachines$Machine" 44 1152921504606846976 ∈ gx_F := gx_F_in (tb_2 (List.mem_of_getElem? (i := 118) (by decide +kernel))) rfl
theorem kc_Ma_62 : Cond.constantLong "WeighedMachines$Machine" 62 1000000000 ∈ gx_F := gx_F_in (tb_2 (List.mem_of_getElem? (i := 162) (by decide +kernel))) rfl
theorem kc_On_24 : Cond.constantLong "WeighedMachines$Onward" 24 (-1) ∈ gx_F := gx_F_in (tb_3 (List.mem_of_getElem? (i := 25) (by decide +kernel))) rfl
theorem kc_On_26 : Cond.constantLong "WeighedMachines$Onward" 26 1152921504606846976 ∈ gx_F := gx_F_in (tb_3 (List.mem_of_getElem? (i := 26) (by decide +kernel))) rfl
theorem kc_On_28 : Cond.constantLong "WeighedMachines$Onward" 28 32 ∈ gx_F := gx_F_in (tb_3 (List.mem_of_getElem? (i := 27) (by decide +kernel))) rfl
theorem kc_Pa_39 : Cond.constantLong "WeighedMachines$Parsing" 39 16 ∈ gx_F := gx_F_in (tb_3 (List.mem_of_getElem? (i := 215) (by decide +kernel))) rfl
theorem kc_Pa_85 : Cond.constantLong "WeighedMachines$Parsing" 85 (-1) ∈ gx_F := gx_F_in (tb_4 (List.mem_of_getElem? (i := 8) (by decide +kernel))) rfl
theorem kc_Pa_105 : Cond.constantLong "WeighedMachines$Parsing" 105 1000000000 ∈ gx_F := gx_F_in (tb_4 (List.mem_of_getElem? (i := 2) (by decide +kernel))) rfl
theorem kc_Pa_111 : Cond.constantLong "WeighedMachines$Parsing" 111 7 ∈ gx_F := gx_F_in (tb_4 (List.mem_of_getElem? (i := 17) (by decide +kernel))) rfl
theorem kc_Pa_113 : Cond.constantLong "WeighedMachines$Parsing" 113 10 ∈ gx_F := gx_F_in (tb_3 (List.mem_of_getElem? (i := 223) (by decide +kernel))) rfl
theorem kc_Pa_115 : Cond.constantLong "WeighedMachines$Parsing" 115 48 ∈ gx_F := gx_F_in (tb_3 (List.mem_of_getElem? (i := 224) (by decide +kernel))) rfl
theorem kc_Te_19 : Cond.constantLong "WeighedMachines$Text" 19 10 ∈ gx_F := gx_F_in (tb_3 (List.mem_of_getElem? (i := 177) (by decide +kernel))) rfl
theorem kc_Te_65 : Cond.constantLong "WeighedMachines$Text" 65 (-1) ∈ gx_F := gx_F_in (tb_3 (List.mem_of_getElem? (i := 186) (by decide +kernel))) rfl
theorem kc_We_35 : Cond.constantLong "WeighedMachines$Weighing" 35 (-1) ∈ gx_F := gx_F_in (tb_3 (List.mem_of_getElem? (i := 88) (by decide +kernel))) rfl
theorem kc_We_37 : Cond.constantLong "WeighedMachines$Weighing" 37 1152921504606846976 ∈ gx_F := gx_F_in (tb_3 (List.mem_of_getElem? (i := 89) (by decide +kernel))) rfl
theorem kc_La_89 : Cond.constantLong "WeighedMachinesLaw" 89 4294967295 ∈ gx_F := gx_F_in (tb_5 (List.mem_of_getElem? (i := 116) (by decide +kernel))) rfl
theorem kc_Mo_79 : Cond.constantLong "WeighedMachinesModel" 79 (-1) ∈ gx_F := gx_F_in (tb_4 (List.mem_of_getElem? (i := 47) (by decide +kernel))) rfl
theorem kc_Mo_85 : Cond.constantLong "WeighedMachinesModel" 85 1000000000 ∈ gx_F := gx_F_in (tb_4 (List.mem_of_getElem? (i := 152) (by decide +kernel))) rfl
theorem kc_Mo_129 : Cond.constantLong "WeighedMachinesModel" 129 4000000000000000000 ∈ gx_F := gx_F_in (tb_4 (List.mem_of_getElem? (i := 205) (by decide +kernel))) rfl
theorem kc_Mo_183 : Cond.constantLong "WeighedMachinesModel" 183 10 ∈ gx_F := gx_F_in (tb_5 (List.mem_of_getElem? (i := 56) (by decide +kernel))) rfl
theorem kc_Mo_195 : Cond.constantLong "WeighedMachinesModel" 195 255 ∈ gx_F := gx_F_in (tb_5 (List.mem_of_getElem? (i := 69) (by decide +kernel))) rfl
theorem kc_Mo_213 : Cond.constantLong "WeighedMachinesModel" 213 48 ∈ gx_F := gx_F_in (tb_5 (List.mem_of_getElem? (i := 99) (by decide +kernel))) rfl
theorem kc_Mo_231 : Cond.constantLong "WeighedMachinesModel" 231 16 ∈ gx_F := gx_F_in (tb_5 (List.mem_of_getElem? (i := 90) (by decide +kernel))) rfl
theorem kc_JI_265 : Cond.constant "java/lang/Integer" 265 1431655765 ∈ gx_F := gx_F_in (tb_3 (List.mem_of_getElem? (i := 68) (by decide +kernel))) rfl
theorem kc_JI_266 : Cond.constant "java/lang/Integer" 266 858993459 ∈ gx_F := gx_F_in (tb_3 (List.mem_of_getElem? (i := 69) (by decide +kernel))) rfl
theorem kc_JI_267 : Cond.constant "java/lang/Integer" 267 252645135 ∈ gx_F := gx_F_in (tb_3 (List.mem_of_getElem? (i := 70) (by decide +kernel))) rfl
theorem mt_arraycopy : Cond.native arraycopyName ∈ gx_F := gx_F_in (tb_2 (List.mem_of_getElem? (i := 92) (by decide +kernel))) rfl
theorem ms_arraycopy : Cond.static arraycopyName ∈ gx_F := gx_F_in (tb_2 (List.mem_of_getElem? (i := 91) (by decide +kernel))) rfl
theorem iz_JS : Cond.initialized "java/lang/System" ∈ gx_F := gx_F_in (tb_1 (List.mem_of_getElem? (i := 15) (by decide +kernel))) rfl
