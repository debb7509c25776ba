theorem zt_a1 {w : Cond} (i : Nat) (h : tables_1_1[i]? = some w) (hg : goodWord w = true) : w ∈ zt := zt_in (List.mem_append_right _ (List.mem_append_left _ (List.mem_of_getElem? h))) hg
theorem zt_a2 {w : Cond} (i : Nat) (h : tables_1_2[i]? = some w) (hg : goodWord w = true) : w ∈ zt := zt_in (List.mem_append_right _ (List.mem_append_right _ (List.mem_append_left _ (List.mem_of_getElem? h)))) hg
theorem zt_a3 {w : Cond} (i : Nat) (h : tables_1_3[i]? = some w) (hg : goodWord w = true) : w ∈ zt := zt_in (List.mem_append_right _ (List.mem_append_right _ (List.mem_append_right _ (List.mem_append_left _ (List.mem_of_getElem? h))))) hg
theorem zt_a4 {w : Cond} (i : Nat) (h : tables_1_4[i]? = some w) (hg : goodWord w = true) : w ∈ zt := zt_in (List.mem_append_right _ (List.mem_append_right _ (List.mem_append_right _ (List.mem_append_right _ (List.mem_append_left _ (List.mem_of_getElem? h)))))) hg
theorem zt_a5 {w : Cond} (i : Nat) (h : tables_1_5[i]? = some w) (hg : goodWord w = true) : w ∈ zt := zt_in (List.mem_append_right _ (List.mem_append_right _ (List.mem_append_right _ (List.mem_append_right _ (List.mem_append_right _ (List.mem_append_left _ (List.mem_of_getElem? h))))))) hg
theorem zt_a6 {w : Cond} (i : Nat) (h : tables_1_6[i]? = some w) (hg : goodWord w = true) : w ∈ zt := zt_in (List.mem_append_right _ (List.mem_append_right _ (List.mem_append_right _ (List.mem_append_right _ (List.mem_append_right _ (List.mem_append_right _ (List.mem_append_left _ (List.mem_of_getElem? h)))))))) hg
theorem zt_a7 {w : Cond} (i : Nat) (h : tables_1_7[i]? = some w) (hg : goodWord w = true) : w ∈ zt := zt_in (List.mem_append_right _ (List.mem_append_right _ (List.mem_append_right _ (List.mem_append_right _ (List.mem_append_right _ (List.mem_append_right _ (List.mem_append_right _ (List.mem_append_left _ (List.mem_of_getElem? h))))))))) hg
theorem zt_a8 {w : Cond} (i : Nat) (h : tables_1_8[i]? = some w) (hg : goodWord w = true) : w ∈ zt := zt_in (List.mem_append_right _ (List.mem_append_right _ (List.mem_append_right _ (List.mem_append_right _ (List.mem_append_right _ (List.mem_append_right _ (List.mem_append_right _ (List.mem_append_right _ ((List.mem_of_getElem? h)))))))))) hg
theorem zt_sel {y : MethodName} {n : Nat} (i : Nat) (h : lw_privs[i]? = some (y, n)) : Cond.selects y.cls y y ∈ zt := zt_in (List.mem_append_left _ (List.mem_map.mpr ⟨(y, n), List.mem_of_getElem? h, rfl⟩)) rfl
theorem zly_0_0 : u_lay RX0 TX0 0 ∈ zt := zt_a1 216 rfl rfl
theorem zly_0_1 : u_lay RX0 TX0 1 ∈ zt := zt_a1 218 rfl rfl
theorem zly_0_2 : u_lay RX0 TX0 2 ∈ zt := zt_a1 220 rfl rfl
theorem zly_0_3 : u_lay RX0 TX0 3 ∈ zt := zt_a1 222 rfl rfl
theorem zly_0_4 : u_lay RX0 TX0 4 ∈ zt := zt_a1 224 rfl rfl
theorem zlw_0 : ∀ w ∈ u_ws RX0 TX0 (znf 0), w ∈ zt := by
  intro w hw
  obtain ⟨k, hk, rfl⟩ := List.mem_map.mp hw
  have hk : k < 5 := List.mem_range.mp hk
  match k, hk with
  | 0, _ => exact zly_0_0
  | 1, _ => exact zly_0_1
  | 2, _ => exact zly_0_2
  | 3, _ => exact zly_0_3
  | 4, _ => exact zly_0_4
  | k + 5, h => exact absurd h (by omega)
theorem z_tyX0 : ∀ k, k < znf 0 → zty (zfk 0 k) (tyX0 k) := by
  intro k hk
  have hk : k < 5 := hk
  match k, hk with
  | 0, _ => exact ⟨rfl, fun v hv => by rcases hv with rfl | ⟨a, rfl⟩ <;> exact ⟨rfl, rfl⟩⟩
  | 1, _ => exact ⟨rfl, fun v hv => by rcases hv with rfl | ⟨a, rfl⟩ <;> exact ⟨rfl, rfl⟩⟩
  | 2, _ => exact ⟨rfl, fun v hv => by rcases hv with rfl | ⟨a, rfl⟩ <;> exact ⟨rfl, rfl⟩⟩
  | 3, _ => exact ⟨rfl, fun v hv => by rcases hv with rfl | ⟨a, rfl⟩ <;> exact ⟨rfl, rfl⟩⟩
  | 4, _ => exact rfl
  | k + 5, h => exact absurd h (by omega)
theorem zcl0 : zCl 0 RX0 TX0 tyX0 := ⟨rfl, zlw_0, tyX0_ok, nmX0, z_tyX0⟩
theorem zly_1_0 : u_lay RX1 TX1 0 ∈ zt := zt_a1 82 rfl rfl
theorem zly_1_1 : u_lay RX1 TX1 1 ∈ zt := zt_a1 84 rfl rfl
theorem zly_1_2 : u_lay RX1 TX1 2 ∈ zt := zt_a1 86 rfl rfl
theorem zly_1_3 : u_lay RX1 TX1 3 ∈ zt := zt_a1 88 rfl rfl
theorem zly_1_4 : u_lay RX1 TX1 4 ∈ zt := zt_a1 90 rfl rfl
theorem zly_1_5 : u_lay RX1 TX1 5 ∈ zt := zt_a1 92 rfl rfl
theorem zly_1_6 : u_lay RX1 TX1 6 ∈ zt := zt_a1 94 rfl rfl
theorem zly_1_7 : u_lay RX1 TX1 7 ∈ zt := zt_a1 96 rfl rfl
theorem zly_1_8 : u_lay RX1 TX1 8 ∈ zt := zt_a1 98 rfl rfl
theorem zly_1_9 : u_lay RX1 TX1 9 ∈ zt := zt_a1 100 rfl rfl
theorem zly_1_10 : u_lay RX1 TX1 10 ∈ zt := zt_a1 102 rfl rfl
theorem zly_1_11 : u_lay RX1 TX1 11 ∈ zt := zt_a1 104 rfl rfl
theorem zly_1_12 : u_lay RX1 TX1 12 ∈ zt := zt_a1 106 rfl rfl
theorem zly_1_13 : u_lay RX1 TX1 13 ∈ zt := zt_a1 108 rfl rfl
theorem zlw_1 : ∀ w ∈ u_ws RX1 TX1 (znf 1), w ∈ zt := by
  intro w hw
  obtain ⟨k, hk, rfl⟩ := List.mem_map.mp hw
  have hk : k < 14 := List.mem_range.mp hk
  match k, hk with
  | 0, _ => exact zly_1_0
  | 1, _ => exact zly_1_1
  | 2, _ => exact zly_1_2
  | 3, _ => exact zly_1_3
  | 4, _ => exact zly_1_4
  | 5, _ => exact zly_1_5
  | 6, _ => exact zly_1_6
  | 7, _ => exact zly_1_7
  | 8, _ => exact zly_1_8
  | 9, _ => exact zly_1_9
  | 10, _ => exact zly_1_10
  | 11, _ => exact zly_1_11
  | 12, _ => exact zly_1_12
  | 13, _ => exact zly_1_13
  | k + 14, h => exact absurd h (by omega)
theorem z_tyX1 : ∀ k, k < znf 1 → zty (zfk 1 k) (tyX1 k) := by
  intro k hk
  have hk : k < 14 := hk
  match k, hk with
  | 0, _ => exact ⟨rfl, fun v hv => by rcases hv with rfl | ⟨a, rfl⟩ <;> exact ⟨rfl, rfl⟩⟩
  | 1, _ => exact ⟨rfl, fun v hv => by rcases hv with rfl | ⟨a, rfl⟩ <;> exact ⟨rfl, rfl⟩⟩
  | 2, _ => exact ⟨rfl, fun v hv => by rcases hv with rfl | ⟨a, rfl⟩ <;> exact ⟨rfl, rfl⟩⟩
  | 3, _ => exact rfl
  | 4, _ => exact rfl
  | 5, _ => exact rfl
  | 6, _ => exact rfl
  | 7, _ => exact rfl
  | 8, _ => exact rfl
  | 9, _ => exact rfl
  | 10, _ => exact rfl
  | 11, _ => exact rfl
  | 12, _ => exact rfl
  | 13, _ => exact rfl
  | k + 14, h => exact absurd h (by omega)
theorem zcl1 : zCl 1 RX1 TX1 tyX1 := ⟨rfl, zlw_1, tyX1_ok, nmX1, z_tyX1⟩
theorem zly_2_0 : u_lay RX2 TX2 0 ∈ zt := zt_a1 195 rfl rfl
theorem zly_2_1 : u_lay RX2 TX2 1 ∈ zt := zt_a1 197 rfl rfl
theorem zlw_2 : ∀ w ∈ u_ws RX2 TX2 (znf 2), w ∈ zt := by
  intro w hw
  obtain ⟨k, hk, rfl⟩ := List.mem_map.mp hw
  have hk : k < 2 := List.mem_range.mp hk
  match k, hk with
  | 0, _ => exact zly_2_0
  | 1, _ => exact zly_2_1
  | k + 2, h => exact absurd h (by omega)
theorem z_tyX2 : ∀ k, k < znf 2 → zty (zfk 2 k) (tyX2 k) := by
  intro k hk
  have hk : k < 2 := hk
  match k, hk with
  | 0, _ => exact ⟨rfl, fun v hv => by rcases hv with rfl | ⟨a, rfl⟩ <;> exact ⟨rfl, rfl⟩⟩
  | 1, _ => exact rfl
  | k + 2, h => exact absurd h (by omega)
theorem zcl2 : zCl 2 RX2 TX2 tyX2 := ⟨rfl, zlw_2, tyX2_ok, nmX2, z_tyX2⟩
theorem zly_3_0 : u_lay RX3 TX3 0 ∈ zt := zt_a1 138 rfl rfl
theorem zly_3_1 : u_lay RX3 TX3 1 ∈ zt := zt_a1 140 rfl rfl
theorem zly_3_2 : u_lay RX3 TX3 2 ∈ zt := zt_a1 142 rfl rfl
theorem zly_3_3 : u_lay RX3 TX3 3 ∈ zt := zt_a1 144 rfl rfl
theorem zly_3_4 : u_lay RX3 TX3 4 ∈ zt := zt_a1 146 rfl rfl
theorem zly_3_5 : u_lay RX3 TX3 5 ∈ zt := zt_a1 148 rfl rfl
theorem zly_3_6 : u_lay RX3 TX3 6 ∈ zt := zt_a1 150 rfl rfl
theorem zly_3_7 : u_lay RX3 TX3 7 ∈ zt := zt_a1 152 rfl rfl
theorem zlw_3 : ∀ w ∈ u_ws RX3 TX3 (znf 3), w ∈ zt := by
  intro w hw
  obtain ⟨k, hk, rfl⟩ := List.mem_map.mp hw
  have hk : k < 8 := List.mem_range.mp hk
  match k, hk with
  | 0, _ => exact zly_3_0
  | 1, _ => exact zly_3_1
  | 2, _ => exact zly_3_2
  | 3, _ => exact zly_3_3
  | 4, _ => exact zly_3_4
  | 5, _ => exact zly_3_5
  | 6, _ => exact zly_3_6
  | 7, _ => exact zly_3_7
  | k + 8, h => exact absurd h (by omega)
theorem z_tyX3 : ∀ k, k < znf 3 → zty (zfk 3 k) (tyX3 k) := by
  intro k hk
  have hk : k < 8 := hk
  match k, hk with
  | 0, _ => exact ⟨rfl, fun v hv => by rcases hv with rfl | ⟨a, rfl⟩ <;> exact ⟨rfl, rfl⟩⟩
  | 1, _ => exact ⟨rfl, fun v hv => by rcases hv with rfl | ⟨a, rfl⟩ <;> exact ⟨rfl, rfl⟩⟩
  | 2, _ => exact ⟨rfl, fun v hv => by rcases hv with rfl | ⟨a, rfl⟩ <;> exact ⟨rfl, rfl⟩⟩
  | 3, _ => exact ⟨rfl, fun v hv => by rcases hv with rfl | ⟨a, rfl⟩ <;> exact ⟨rfl, rfl⟩⟩
  | 4, _ => exact ⟨rfl, fun v hv => by rcases hv with rfl | ⟨a, rfl⟩ <;> exact ⟨rfl, rfl⟩⟩
  | 5, _ => exact ⟨rfl, fun v hv => by rcases hv with rfl | ⟨a, rfl⟩ <;> exact ⟨rfl, rfl⟩⟩
  | 6, _ => exact rfl
  | 7, _ => exact rfl
  | k + 8, h => exact absurd h (by omega)
theorem zcl3 : zCl 3 RX3 TX3 tyX3 := ⟨rfl, zlw_3, tyX3_ok, nmX3, z_tyX3⟩
theorem zly_4_0 : u_lay RX4 TX4 0 ∈ zt := zt_a1 174 rfl rfl
theorem zly_4_1 : u_lay RX4 TX4 1 ∈ zt := zt_a1 176 rfl rfl
theorem zly_4_2 : u_lay RX4 TX4 2 ∈ zt := zt_a1 178 rfl rfl
theorem zly_4_3 : u_lay RX4 TX4 3 ∈ zt := zt_a1 180 rfl rfl
theorem zlw_4 : ∀ w ∈ u_ws RX4 TX4 (znf 4), w ∈ zt := by
  intro w hw
  obtain ⟨k, hk, rfl⟩ := List.mem_map.mp hw
  have hk : k < 4 := List.mem_range.mp hk
  match k, hk with
  | 0, _ => exact zly_4_0
  | 1, _ => exact zly_4_1
  | 2, _ => exact zly_4_2
  | 3, _ => exact zly_4_3
  | k + 4, h => exact absurd h (by omega)
theorem z_tyX4 : ∀ k, k < znf 4 → zty (zfk 4 k) (tyX4 k) := by
  intro k hk
  have hk : k < 4 := hk
  match k, hk with
  | 0, _ => exact ⟨rfl, fun v hv => by rcases hv with rfl | ⟨a, rfl⟩ <;> exact ⟨rfl, rfl⟩⟩
  | 1, _ => exact ⟨rfl, fun v hv => by rcases hv with rfl | ⟨a, rfl⟩ <;> exact ⟨rfl, rfl⟩⟩
  | 2, _ => exact ⟨rfl, fun v hv => by rcases hv with rfl | ⟨a, rfl⟩ <;> exact ⟨rfl, rfl⟩⟩
  | 3, _ => exact rfl
  | k + 4, h => exact absurd h (by omega)
theorem zcl4 : zCl 4 RX4 TX4 tyX4 := ⟨rfl, zlw_4, tyX4_ok, nmX4, z_tyX4⟩
theorem zly_5_0 : u_lay RX5 TX5 0 ∈ zt := zt_a2 8 rfl rfl
theorem zly_5_1 : u_lay RX5 TX5 1 ∈ zt := zt_a2 10 rfl rfl
theorem zly_5_2 : u_lay RX5 TX5 2 ∈ zt := zt_a2 12 rfl rfl
theorem zly_5_3 : u_lay RX5 TX5 3 ∈ zt := zt_a2 14 rfl rfl
theorem zly_5_4 : u_lay RX5 TX5 4 ∈ zt := zt_a2 16 rfl rfl
theorem zly_5_5 : u_lay RX5 TX5 5 ∈ zt := zt_a2 18 rfl rfl
theorem zly_5_6 : u_lay RX5 TX5 6 ∈ zt := zt_a2 20 rfl rfl
theorem zly_5_7 : u_lay RX5 TX5 7 ∈ zt := zt_a2 22 rfl rfl
theorem zly_5_8 : u_lay RX5 TX5 8 ∈ zt := zt_a2 24 rfl rfl
theorem zly_5_9 : u_lay RX5 TX5 9 ∈ zt := zt_a2 26 rfl rfl
theorem zlw_5 : ∀ w ∈ u_ws RX5 TX5 (znf 5), w ∈ zt := by
  intro w hw
  obtain ⟨k, hk, rfl⟩ := List.mem_map.mp hw
  have hk : k < 10 := List.mem_range.mp hk
  match k, hk with
  | 0, _ => exact zly_5_0
  | 1, _ => exact zly_5_1
  | 2, _ => exact zly_5_2
  | 3, _ => exact zly_5_3
  | 4, _ => exact zly_5_4
  | 5, _ => exact zly_5_5
  | 6, _ => exact zly_5_6
  | 7, _ => exact zly_5_7
  | 8, _ => exact zly_5_8
  | 9, _ => exact zly_5_9
  | k + 10, h => exact absurd h (by omega)
theorem z_tyX5 : ∀ k, k < znf 5 → zty (zfk 5 k) (tyX5 k) := by
  intro k hk
  have hk : k < 10 := hk
  match k, hk with
  | 0, _ => exact ⟨rfl, fun v hv => by rcases hv with rfl | ⟨a, rfl⟩ <;> exact ⟨rfl, rfl⟩⟩
  | 1, _ => exact ⟨rfl, fun v hv => by rcases hv with rfl | ⟨a, rfl⟩ <;> exact ⟨rfl, rfl⟩⟩
  | 2, _ => exact rfl
  | 3, _ => exact ⟨rfl, fun v hv => by rcases hv with rfl | ⟨a, rfl⟩ <;> exact ⟨rfl, rfl⟩⟩
  | 4, _ => exact rfl
  | 5, _ => exact ⟨rfl, fun v hv => by rcases hv with rfl | ⟨a, rfl⟩ <;> exact ⟨rfl, rfl⟩⟩
  | 6, _ => exact rfl
  | 7, _ => exact ⟨rfl, fun v hv => by rcases hv with rfl | ⟨a, rfl⟩ <;> exact ⟨rfl, rfl⟩⟩
  | 8, _ => exact ⟨rfl, fun v hv => by rcases hv with rfl | ⟨a, rfl⟩ <;> exact ⟨rfl, rfl⟩⟩
  | 9, _ => exact rfl
  | k + 10, h => exact absurd h (by omega)
theorem zcl5 : zCl 5 RX5 TX5 tyX5 := ⟨rfl, zlw_5, tyX5_ok, nmX5, z_tyX5⟩
theorem zly_6_0 : u_lay RX6 TX6 0 ∈ zt := zt_a2 80 rfl rfl
theorem zly_6_1 : u_lay RX6 TX6 1 ∈ zt := zt_a2 82 rfl rfl
theorem zly_6_2 : u_lay RX6 TX6 2 ∈ zt := zt_a2 84 rfl rfl
theorem zly_6_3 : u_lay RX6 TX6 3 ∈ zt := zt_a2 86 rfl rfl
theorem zly_6_4 : u_lay RX6 TX6 4 ∈ zt := zt_a2 88 rfl rfl
theorem zly_6_5 : u_lay RX6 TX6 5 ∈ zt := zt_a2 90 rfl rfl
theorem zly_6_6 : u_lay RX6 TX6 6 ∈ zt := zt_a2 92 rfl rfl
theorem zly_6_7 : u_lay RX6 TX6 7 ∈ zt := zt_a2 94 rfl rfl
theorem zly_6_8 : u_lay RX6 TX6 8 ∈ zt := zt_a2 96 rfl rfl
theorem zly_6_9 : u_lay RX6 TX6 9 ∈ zt := zt_a2 98 rfl rfl
theorem zlw_6 : ∀ w ∈ u_ws RX6 TX6 (znf 6), w ∈ zt := by
  intro w hw
  obtain ⟨k, hk, rfl⟩ := List.mem_map.mp hw
  have hk : k < 10 := List.mem_range.mp hk
  match k, hk with
  | 0, _ => exact zly_6_0
  | 1, _ => exact zly_6_1
  | 2, _ => exact zly_6_2
  | 3, _ => exact zly_6_3
  | 4, _ => exact zly_6_4
  | 5, _ => exact zly_6_5
  | 6, _ => exact zly_6_6
  | 7, _ => exact zly_6_7
  | 8, _ => exact zly_6_8
  | 9, _ => exact zly_6_9
  | k + 10, h => exact absurd h (by omega)
theorem z_tyX6 : ∀ k, k < znf 6 → zty (zfk 6 k) (tyX6 k) := by
  intro k hk
  have hk : k < 10 := hk
  match k, hk with
  | 0, _ => exact ⟨rfl, fun v hv => by rcases hv with rfl | ⟨a, rfl⟩ <;> exact ⟨rfl, rfl⟩⟩
  | 1, _ => exact ⟨rfl, fun v hv => by rcases hv with rfl | ⟨a, rfl⟩ <;> exact ⟨rfl, rfl⟩⟩
  | 2, _ => exact ⟨rfl, fun v hv => by rcases hv with rfl | ⟨a, rfl⟩ <;> exact ⟨rfl, rfl⟩⟩
  | 3, _ => exact rfl
  | 4, _ => exact rfl
  | 5, _ => exact rfl
  | 6, _ => exact rfl
  | 7, _ => exact rfl
  | 8, _ => exact rfl
  | 9, _ => exact rfl
  | k + 10, h => exact absurd h (by omega)
theorem zcl6 : zCl 6 RX6 TX6 tyX6 := ⟨rfl, zlw_6, tyX6_ok, nmX6, z_tyX6⟩
theorem zly_7_0 : u_lay RX7 TX7 0 ∈ zt := zt_a2 108 rfl rfl
theorem zlw_7 : ∀ w ∈ u_ws RX7 TX7 (znf 7), w ∈ zt := by
  intro w hw
  obtain ⟨k, hk, rfl⟩ := List.mem_map.mp hw
  have hk : k < 1 := List.mem_range.mp hk
  match k, hk with
  | 0, _ => exact zly_7_0
  | k + 1, h => exact absurd h (by omega)
theorem z_tyX7 : ∀ k, k < znf 7 → zty (zfk 7 k) (tyX7 k) := by
  intro k hk
  have hk : k < 1 := hk
  match k, hk with
  | 0, _ => exact ⟨rfl, fun v hv => by rcases hv with rfl | ⟨a, rfl⟩ <;> exact ⟨rfl, rfl⟩⟩
  | k + 1, h => exact absurd h (by omega)
theorem zcl7 : zCl 7 RX7 TX7 tyX7 := ⟨rfl, zlw_7, tyX7_ok, nmX7, z_tyX7⟩
theorem zly_8_0 : u_lay RX8 TX8 0 ∈ zt := zt_a2 123 rfl rfl
theorem zly_8_1 : u_lay RX8 TX8 1 ∈ zt := zt_a2 125 rfl rfl
theorem zly_8_2 : u_lay RX8 TX8 2 ∈ zt := zt_a2 127 rfl rfl
theorem zly_8_3 : u_lay RX8 TX8 3 ∈ zt := zt_a2 129 rfl rfl
theorem zly_8_4 : u_lay RX8 TX8 4 ∈ zt := zt_a2 131 rfl rfl
theorem zlw_8 : ∀ w ∈ u_ws RX8 TX8 (znf 8), w ∈ zt := by
  intro w hw
  obtain ⟨k, hk, rfl⟩ := List.mem_map.mp hw
  have hk : k < 5 := List.mem_range.mp hk
  match k, hk with
  | 0, _ => exact zly_8_0
  | 1, _ => exact zly_8_1
  | 2, _ => exact zly_8_2
  | 3, _ => exact zly_8_3
  | 4, _ => exact zly_8_4
  | k + 5, h => exact absurd h (by omega)
theorem z_tyX8 : ∀ k, k < znf 8 → zty (zfk 8 k) (tyX8 k) := by
  intro k hk
  have hk : k < 5 := hk
  match k, hk with
  | 0, _ => exact ⟨rfl, fun v hv => by rcases hv with rfl | ⟨a, rfl⟩ <;> exact ⟨rfl, rfl⟩⟩
  | 1, _ => exact ⟨rfl, fun v hv => by rcases hv with rfl | ⟨a, rfl⟩ <;> exact ⟨rfl, rfl⟩⟩
  | 2, _ => exact ⟨rfl, fun v hv => by rcases hv with rfl | ⟨a, rfl⟩ <;> exact ⟨rfl, rfl⟩⟩
  | 3, _ => exact ⟨rfl, fun v hv => by rcases hv with rfl | ⟨a, rfl⟩ <;> exact ⟨rfl, rfl⟩⟩
  | 4, _ => exact ⟨rfl, fun v hv => by rcases hv with rfl | ⟨a, rfl⟩ <;> exact ⟨rfl, rfl⟩⟩
  | k + 5, h => exact absurd h (by omega)
theorem zcl8 : zCl 8 RX8 TX8 tyX8 := ⟨rfl, zlw_8, tyX8_ok, nmX8, z_tyX8⟩
theorem zly_9_0 : u_lay RX9 TX9 0 ∈ zt := zt_a2 44 rfl rfl
theorem zly_9_1 : u_lay RX9 TX9 1 ∈ zt := zt_a2 46 rfl rfl
theorem zly_9_2 : u_lay RX9 TX9 2 ∈ zt := zt_a2 48 rfl rfl
theorem zly_9_3 : u_lay RX9 TX9 3 ∈ zt := zt_a2 50 rfl rfl
theorem zly_9_4 : u_lay RX9 TX9 4 ∈ zt := zt_a2 52 rfl rfl
theorem zly_9_5 : u_lay RX9 TX9 5 ∈ zt := zt_a2 54 rfl rfl
theorem zly_9_6 : u_lay RX9 TX9 6 ∈ zt := zt_a2 56 rfl rfl
theorem zlw_9 : ∀ w ∈ u_ws RX9 TX9 (znf 9), w ∈ zt := by
  intro w hw
  obtain ⟨k, hk, rfl⟩ := List.mem_map.mp hw
  have hk : k < 7 := List.mem_range.mp hk
  match k, hk with
  | 0, _ => exact zly_9_0
  | 1, _ => exact zly_9_1
  | 2, _ => exact zly_9_2
  | 3, _ => exact zly_9_3
  | 4, _ => exact zly_9_4
  | 5, _ => exact zly_9_5
  | 6, _ => exact zly_9_6
  | k + 7, h => exact absurd h (by omega)
theorem z_tyX9 : ∀ k, k < znf 9 → zty (zfk 9 k) (tyX9 k) := by
  intro k hk
  have hk : k < 7 := hk
  match k, hk with
  | 0, _ => exact ⟨rfl, fun v hv => by rcases hv with rfl | ⟨a, rfl⟩ <;> exact ⟨rfl, rfl⟩⟩
  | 1, _ => exact ⟨rfl, fun v hv => by rcases hv with rfl | ⟨a, rfl⟩ <;> exact ⟨rfl, rfl⟩⟩
  | 2, _ => exact ⟨rfl, fun v hv => by rcases hv with rfl | ⟨a, rfl⟩ <;> exact ⟨rfl, rfl⟩⟩
  | 3, _ => exact ⟨rfl, fun v hv => by rcases hv with rfl | ⟨a, rfl⟩ <;> exact ⟨rfl, rfl⟩⟩
  | 4, _ => exact ⟨rfl, fun v hv => by rcases hv with rfl | ⟨a, rfl⟩ <;> exact ⟨rfl, rfl⟩⟩
  | 5, _ => exact ⟨rfl, fun v hv => by rcases hv with rfl | ⟨a, rfl⟩ <;> exact ⟨rfl, rfl⟩⟩
  | 6, _ => exact ⟨rfl, fun v hv => by rcases hv with rfl | ⟨a, rfl⟩ <;> exact ⟨rfl, rfl⟩⟩
  | k + 7, h => exact absurd h (by omega)
theorem zcl9 : zCl 9 RX9 TX9 tyX9 := ⟨rfl, zlw_9, tyX9_ok, nmX9, z_tyX9⟩
theorem zly_10_0 : u_lay RX10 TX10 0 ∈ zt := zt_a2 148 rfl rfl
theorem zly_10_1 : u_lay RX10 TX10 1 ∈ zt := zt_a2 150 rfl rfl
theorem zly_10_2 : u_lay RX10 TX10 2 ∈ zt := zt_a2 152 rfl rfl
theorem zly_10_3 : u_lay RX10 TX10 3 ∈ zt := zt_a2 154 rfl rfl
theorem zly_10_4 : u_lay RX10 TX10 4 ∈ zt := zt_a2 156 rfl rfl
theorem zly_10_5 : u_lay RX10 TX10 5 ∈ zt := zt_a2 158 rfl rfl
theorem zly_10_6 : u_lay RX10 TX10 6 ∈ zt := zt_a2 160 rfl rfl
theorem zly_10_7 : u_lay RX10 TX10 7 ∈ zt := zt_a2 162 rfl rfl
theorem zly_10_8 : u_lay RX10 TX10 8 ∈ zt := zt_a2 164 rfl rfl
theorem zly_10_9 : u_lay RX10 TX10 9 ∈ zt := zt_a2 166 rfl rfl
theorem zly_10_10 : u_lay RX10 TX10 10 ∈ zt := zt_a2 168 rfl rfl
theorem zlw_10 : ∀ w ∈ u_ws RX10 TX10 (znf 10), w ∈ zt := by
  intro w hw
  obtain ⟨k, hk, rfl⟩ := List.mem_map.mp hw
  have hk : k < 11 := List.mem_range.mp hk
  match k, hk with
  | 0, _ => exact zly_10_0
  | 1, _ => exact zly_10_1
  | 2, _ => exact zly_10_2
  | 3, _ => exact zly_10_3
  | 4, _ => exact zly_10_4
  | 5, _ => exact zly_10_5
  | 6, _ => exact zly_10_6
  | 7, _ => exact zly_10_7
  | 8, _ => exact zly_10_8
  | 9, _ => exact zly_10_9
  | 10, _ => exact zly_10_10
  | k + 11, h => exact absurd h (by omega)
theorem z_tyX10 : ∀ k, k < znf 10 → zty (zfk 10 k) (tyX10 k) := by
  intro k hk
  have hk : k < 11 := hk
  match k, hk with
  | 0, _ => exact ⟨rfl, fun v hv => by rcases hv with rfl | ⟨a, rfl⟩ <;> exact ⟨rfl, rfl⟩⟩
  | 1, _ => exact ⟨rfl, fun v hv => by rcases hv with rfl | ⟨a, rfl⟩ <;> exact ⟨rfl, rfl⟩⟩
  | 2, _ => exact ⟨rfl, fun v hv => by rcases hv with rfl | ⟨a, rfl⟩ <;> exact ⟨rfl, rfl⟩⟩
  | 3, _ => exact ⟨rfl, fun v hv => by rcases hv with rfl | ⟨a, rfl⟩ <;> exact ⟨rfl, rfl⟩⟩
  | 4, _ => exact ⟨rfl, fun v hv => by rcases hv with rfl | ⟨a, rfl⟩ <;> exact ⟨rfl, rfl⟩⟩
  | 5, _ => exact ⟨rfl, fun v hv => by rcases hv with rfl | ⟨a, rfl⟩ <;> exact ⟨rfl, rfl⟩⟩
  | 6, _ => exact ⟨rfl, fun v hv => by rcases hv with rfl | ⟨a, rfl⟩ <;> exact ⟨rfl, rfl⟩⟩
  | 7, _ => exact ⟨rfl, fun v hv => by rcases hv with rfl | ⟨a, rfl⟩ <;> exact ⟨rfl, rfl⟩⟩
  | 8, _ => exact rfl
  | 9, _ => exact rfl
  | 10, _ => exact ⟨rfl, fun v hv => by rcases hv with rfl | ⟨a, rfl⟩ <;> exact ⟨rfl, rfl⟩⟩
  | k + 11, h => exact absurd h (by omega)
theorem zcl10 : zCl 10 RX10 TX10 tyX10 := ⟨rfl, zlw_10, tyX10_ok, nmX10, z_tyX10⟩
theorem zly_11_0 : u_lay RX11 TX11 0 ∈ zt := zt_a5 217 rfl rfl
theorem zly_11_1 : u_lay RX11 TX11 1 ∈ zt := zt_a5 219 rfl rfl
theorem zly_11_2 : u_lay RX11 TX11 2 ∈ zt := zt_a5 221 rfl rfl
theorem zly_11_3 : u_lay RX11 TX11 3 ∈ zt := zt_a5 223 rfl rfl
theorem zly_11_4 : u_lay RX11 TX11 4 ∈ zt := zt_a5 225 rfl rfl
theorem zly_11_5 : u_lay RX11 TX11 5 ∈ zt := zt_a5 227 rfl rfl
theorem zly_11_6 : u_lay RX11 TX11 6 ∈ zt := zt_a5 229 rfl rfl
theorem zly_11_7 : u_lay RX11 TX11 7 ∈ zt := zt_a5 231 rfl rfl
theorem zly_11_8 : u_lay RX11 TX11 8 ∈ zt := zt_a5 233 rfl rfl
theorem zly_11_9 : u_lay RX11 TX11 9 ∈ zt := zt_a5 235 rfl rfl
theorem zly_11_10 : u_lay RX11 TX11 10 ∈ zt := zt_a5 237 rfl rfl
theorem zly_11_11 : u_lay RX11 TX11 11 ∈ zt := zt_a5 239 rfl rfl
theorem zly_11_12 : u_lay RX11 TX11 12 ∈ zt := zt_a6 1 rfl rfl
theorem zly_11_13 : u_lay RX11 TX11 13 ∈ zt := zt_a6 3 rfl rfl
theorem zly_11_14 : u_lay RX11 TX11 14 ∈ zt := zt_a6 5 rfl rfl
theorem zly_11_15 : u_lay RX11 TX11 15 ∈ zt := zt_a6 7 rfl rfl
theorem zly_11_16 : u_lay RX11 TX11 16 ∈ zt := zt_a6 9 rfl rfl
theorem zly_11_17 : u_lay RX11 TX11 17 ∈ zt := zt_a6 11 rfl rfl
theorem zly_11_18 : u_lay RX11 TX11 18 ∈ zt := zt_a6 13 rfl rfl
theorem zly_11_19 : u_lay RX11 TX11 19 ∈ zt := zt_a6 15 rfl rfl
theorem zly_11_20 : u_lay RX11 TX11 20 ∈ zt := zt_a6 17 rfl rfl
theorem zly_11_21 : u_lay RX11 TX11 21 ∈ zt := zt_a6 19 rfl rfl
theorem zly_11_22 : u_lay RX11 TX11 22 ∈ zt := zt_a6 21 rfl rfl
theorem zly_11_23 : u_lay RX11 TX11 23 ∈ zt := zt_a6 23 rfl rfl
theorem zly_11_24 : u_lay RX11 TX11 24 ∈ zt := zt_a6 25 rfl rfl
theorem zly_11_25 : u_lay RX11 TX11 25 ∈ zt := zt_a6 27 rfl rfl
theorem zly_11_26 : u_lay RX11 TX11 26 ∈ zt := zt_a6 29 rfl rfl
theorem zly_11_27 : u_lay RX11 TX11 27 ∈ zt := zt_a6 31 rfl rfl
theorem zly_11_28 : u_lay RX11 TX11 28 ∈ zt := zt_a6 33 rfl rfl
theorem zly_11_29 : u_lay RX11 TX11 29 ∈ zt := zt_a6 35 rfl rfl
theorem zly_11_30 : u_lay RX11 TX11 30 ∈ zt := zt_a6 37 rfl rfl
theorem zly_11_31 : u_lay RX11 TX11 31 ∈ zt := zt_a6 39 rfl rfl
theorem zly_11_32 : u_lay RX11 TX11 32 ∈ zt := zt_a6 41 rfl rfl
theorem zly_11_33 : u_lay RX11 TX11 33 ∈ zt := zt_a6 43 rfl rfl
theorem zly_11_34 : u_lay RX11 TX11 34 ∈ zt := zt_a6 45 rfl rfl
theorem zly_11_35 : u_lay RX11 TX11 35 ∈ zt := zt_a6 47 rfl rfl
theorem zly_11_36 : u_lay RX11 TX11 36 ∈ zt := zt_a6 49 rfl rfl
theorem zly_11_37 : u_lay RX11 TX11 37 ∈ zt := zt_a6 51 rfl rfl
theorem zly_11_38 : u_lay RX11 TX11 38 ∈ zt := zt_a6 53 rfl rfl
theorem zly_11_39 : u_lay RX11 TX11 39 ∈ zt := zt_a6 55 rfl rfl
theorem zly_11_40 : u_lay RX11 TX11 40 ∈ zt := zt_a6 57 rfl rfl
theorem zly_11_41 : u_lay RX11 TX11 41 ∈ zt := zt_a6 59 rfl rfl
theorem zly_11_42 : u_lay RX11 TX11 42 ∈ zt := zt_a6 61 rfl rfl
theorem zly_11_43 : u_lay RX11 TX11 43 ∈ zt := zt_a6 63 rfl rfl
theorem zly_11_44 : u_lay RX11 TX11 44 ∈ zt := zt_a6 65 rfl rfl
theorem zly_11_45 : u_lay RX11 TX11 45 ∈ zt := zt_a6 67 rfl rfl
theorem zly_11_46 : u_lay RX11 TX11 46 ∈ zt := zt_a6 69 rfl rfl
theorem zly_11_47 : u_lay RX11 TX11 47 ∈ zt := zt_a6 71 rfl rfl
theorem zly_11_48 : u_lay RX11 TX11 48 ∈ zt := zt_a6 73 rfl rfl
theorem zly_11_49 : u_lay RX11 TX11 49 ∈ zt := zt_a6 75 rfl rfl
theorem zly_11_50 : u_lay RX11 TX11 50 ∈ zt := zt_a6 77 rfl rfl
theorem zly_11_51 : u_lay RX11 TX11 51 ∈ zt := zt_a6 79 rfl rfl
theorem zly_11_52 : u_lay RX11 TX11 52 ∈ zt := zt_a6 81 rfl rfl
theorem zly_11_53 : u_lay RX11 TX11 53 ∈ zt := zt_a6 83 rfl rfl
theorem zly_11_54 : u_lay RX11 TX11 54 ∈ zt := zt_a6 85 rfl rfl
theorem zly_11_55 : u_lay RX11 TX11 55 ∈ zt := zt_a6 87 rfl rfl
theorem zly_11_56 : u_lay RX11 TX11 56 ∈ zt := zt_a6 89 rfl rfl
theorem zly_11_57 : u_lay RX11 TX11 57 ∈ zt := zt_a6 91 rfl rfl
theorem zly_11_58 : u_lay RX11 TX11 58 ∈ zt := zt_a6 93 rfl rfl
theorem zly_11_59 : u_lay RX11 TX11 59 ∈ zt := zt_a6 95 rfl rfl
theorem zly_11_60 : u_lay RX11 TX11 60 ∈ zt := zt_a6 97 rfl rfl
theorem zly_11_61 : u_lay RX11 TX11 61 ∈ zt := zt_a6 99 rfl rfl
theorem zlw_11 : ∀ w ∈ u_ws RX11 TX11 (znf 11), w ∈ zt := by
  intro w hw
  obtain ⟨k, hk, rfl⟩ := List.mem_map.mp hw
  have hk : k < 62 := List.mem_range.mp hk
  match k, hk with
  | 0, _ => exact zly_11_0
  | 1, _ => exact zly_11_1
  | 2, _ => exact zly_11_2
  | 3, _ => exact zly_11_3
  | 4, _ => exact zly_11_4
  | 5, _ => exact zly_11_5
  | 6, _ => exact zly_11_6
  | 7, _ => exact zly_11_7
  | 8, _ => exact zly_11_8
  | 9, _ => exact zly_11_9
  | 10, _ => exact zly_11_10
  | 11, _ => exact zly_11_11
  | 12, _ => exact zly_11_12
  | 13, _ => exact zly_11_13
  | 14, _ => exact zly_11_14
  | 15, _ => exact zly_11_15
  | 16, _ => exact zly_11_16
  | 17, _ => exact zly_11_17
  | 18, _ => exact zly_11_18
  | 19, _ => exact zly_11_19
  | 20, _ => exact zly_11_20
  | 21, _ => exact zly_11_21
  | 22, _ => exact zly_11_22
  | 23, _ => exact zly_11_23
  | 24, _ => exact zly_11_24
  | 25, _ => exact zly_11_25
  | 26, _ => exact zly_11_26
  | 27, _ => exact zly_11_27
  | 28, _ => exact zly_11_28
  | 29, _ => exact zly_11_29
  | 30, _ => exact zly_11_30
  | 31, _ => exact zly_11_31
  | 32, _ => exact zly_11_32
  | 33, _ => exact zly_11_33
  | 34, _ => exact zly_11_34
  | 35, _ => exact zly_11_35
  | 36, _ => exact zly_11_36
  | 37, _ => exact zly_11_37
  | 38, _ => exact zly_11_38
  | 39, _ => exact zly_11_39
  | 40, _ => exact zly_11_40
  | 41, _ => exact zly_11_41
  | 42, _ => exact zly_11_42
  | 43, _ => exact zly_11_43
  | 44, _ => exact zly_11_44
  | 45, _ => exact zly_11_45
  | 46, _ => exact zly_11_46
  | 47, _ => exact zly_11_47
  | 48, _ => exact zly_11_48
  | 49, _ => exact zly_11_49
  | 50, _ => exact zly_11_50
  | 51, _ => exact zly_11_51
  | 52, _ => exact zly_11_52
  | 53, _ => exact zly_11_53
  | 54, _ => exact zly_11_54
  | 55, _ => exact zly_11_55
  | 56, _ => exact zly_11_56
  | 57, _ => exact zly_11_57
  | 58, _ => exact zly_11_58
  | 59, _ => exact zly_11_59
  | 60, _ => exact zly_11_60
  | 61, _ => exact zly_11_61
  | k + 62, h => exact absurd h (by omega)
theorem z_tyX11 : ∀ k, k < znf 11 → zty (zfk 11 k) (tyX11 k) := by
  intro k hk
  have hk : k < 62 := hk
  match k, hk with
  | 0, _ => exact rfl
  | 1, _ => exact ⟨rfl, fun v hv => by rcases hv with rfl | ⟨a, rfl⟩ <;> exact ⟨rfl, rfl⟩⟩
  | 2, _ => exact ⟨rfl, fun v hv => by rcases hv with rfl | ⟨a, rfl⟩ <;> exact ⟨rfl, rfl⟩⟩
  | 3, _ => exact rfl
  | 4, _ => exact ⟨rfl, fun v hv => by rcases hv with rfl | ⟨a, rfl⟩ <;> exact ⟨rfl, rfl⟩⟩
  | 5, _ => exact rfl
  | 6, _ => exact rfl
  | 7, _ => exact ⟨rfl, fun v hv => by rcases hv with rfl | ⟨a, rfl⟩ <;> exact ⟨rfl, rfl⟩⟩
  | 8, _ => exact ⟨rfl, fun v hv => by rcases hv with rfl | ⟨a, rfl⟩ <;> exact ⟨rfl, rfl⟩⟩
  | 9, _ => exact ⟨rfl, fun v hv => by rcases hv with rfl | ⟨a, rfl⟩ <;> exact ⟨rfl, rfl⟩⟩
  | 10, _ => exact ⟨rfl, fun v hv => by rcases hv with rfl | ⟨a, rfl⟩ <;> exact ⟨rfl, rfl⟩⟩
  | 11, _ => exact rfl
  | 12, _ => exact rfl
  | 13, _ => exact rfl
  | 14, _ => exact rfl
  | 15, _ => exact rfl
  | 16, _ => exact ⟨rfl, fun v hv => by rcases hv with rfl | ⟨a, rfl⟩ <;> exact ⟨rfl, rfl⟩⟩
  | 17, _ => exact ⟨rfl, fun v hv => by rcases hv with rfl | ⟨a, rfl⟩ <;> exact ⟨rfl, rfl⟩⟩
  | 18, _ => exact ⟨rfl, fun v hv => by rcases hv with rfl | ⟨a, rfl⟩ <;> exact ⟨rfl, rfl⟩⟩
  | 19, _ => exact ⟨rfl, fun v hv => by rcases hv with rfl | ⟨a, rfl⟩ <;> exact ⟨rfl, rfl⟩⟩
  | 20, _ => exact ⟨rfl, fun v hv => by rcases hv with rfl | ⟨a, rfl⟩ <;> exact ⟨rfl, rfl⟩⟩
  | 21, _ => exact ⟨rfl, fun v hv => by rcases hv with rfl | ⟨a, rfl⟩ <;> exact ⟨rfl, rfl⟩⟩
  | 22, _ => exact ⟨rfl, fun v hv => by rcases hv with rfl | ⟨a, rfl⟩ <;> exact ⟨rfl, rfl⟩⟩
  | 23, _ => exact ⟨rfl, fun v hv => by rcases hv with rfl | ⟨a, rfl⟩ <;> exact ⟨rfl, rfl⟩⟩
  | 24, _ => exact rfl
  | 25, _ => exact rfl
  | 26, _ => exact rfl
  | 27, _ => exact ⟨rfl, fun v hv => by rcases hv with rfl | ⟨a, rfl⟩ <;> exact ⟨rfl, rfl⟩⟩
  | 28, _ => exact rfl
  | 29, _ => exact rfl
  | 30, _ => exact rfl
  | 31, _ => exact rfl
  | 32, _ => exact rfl
  | 33, _ => exact rfl
  | 34, _ => exact ⟨rfl, fun v hv => by rcases hv with rfl | ⟨a, rfl⟩ <;> exact ⟨rfl, rfl⟩⟩
  | 35, _ => exact rfl
  | 36, _ => exact ⟨rfl, fun v hv => by rcases hv with rfl | ⟨a, rfl⟩ <;> exact ⟨rfl, rfl⟩⟩
  | 37, _ => exact rfl
  | 38, _ => exact ⟨rfl, fun v hv => by rcases hv with rfl | ⟨a, rfl⟩ <;> exact ⟨rfl, rfl⟩⟩
  | 39, _ => exact ⟨rfl, fun v hv => by rcases hv with rfl | ⟨a, rfl⟩ <;> exact ⟨rfl, rfl⟩⟩
  | 40, _ => exact ⟨rfl, fun v hv => by rcases hv with rfl | ⟨a, rfl⟩ <;> exact ⟨rfl, rfl⟩⟩
  | 41, _ => exact ⟨rfl, fun v hv => by rcases hv with rfl | ⟨a, rfl⟩ <;> exact ⟨rfl, rfl⟩⟩
  | 42, _ => exact rfl
  | 43, _ => exact ⟨rfl, fun v hv => by rcases hv with rfl | ⟨a, rfl⟩ <;> exact ⟨rfl, rfl⟩⟩
  | 44, _ => exact ⟨rfl, fun v hv => by rcases hv with rfl | ⟨a, rfl⟩ <;> exact ⟨rfl, rfl⟩⟩
  | 45, _ => exact rfl
  | 46, _ => exact ⟨rfl, fun v hv => by rcases hv with rfl | ⟨a, rfl⟩ <;> exact ⟨rfl, rfl⟩⟩
  | 47, _ => exact ⟨rfl, fun v hv => by rcases hv with rfl | ⟨a, rfl⟩ <;> exact ⟨rfl, rfl⟩⟩
  | 48, _ => exact ⟨rfl, fun v hv => by rcases hv with rfl | ⟨a, rfl⟩ <;> exact ⟨rfl, rfl⟩⟩
  | 49, _ => exact rfl
  | 50, _ => exact ⟨rfl, fun v hv => by rcases hv with rfl | ⟨a, rfl⟩ <;> exact ⟨rfl, rfl⟩⟩
  | 51, _ => exact ⟨rfl, fun v hv => by rcases hv with rfl | ⟨a, rfl⟩ <;> exact ⟨rfl, rfl⟩⟩
  | 52, _ => exact ⟨rfl, fun v hv => by rcases hv with rfl | ⟨a, rfl⟩ <;> exact ⟨rfl, rfl⟩⟩
  | 53, _ => exact rfl
  | 54, _ => exact ⟨rfl, fun v hv => by rcases hv with rfl | ⟨a, rfl⟩ <;> exact ⟨rfl, rfl⟩⟩
  | 55, _ => exact ⟨rfl, fun v hv => by rcases hv with rfl | ⟨a, rfl⟩ <;> exact ⟨rfl, rfl⟩⟩
  | 56, _ => exact ⟨rfl, fun v hv => by rcases hv with rfl | ⟨a, rfl⟩ <;> exact ⟨rfl, rfl⟩⟩
  | 57, _ => exact ⟨rfl, fun v hv => by rcases hv with rfl | ⟨a, rfl⟩ <;> exact ⟨rfl, rfl⟩⟩
  | 58, _ => exact rfl
  | 59, _ => exact rfl
  | 60, _ => exact rfl
  | 61, _ => exact ⟨rfl, fun v hv => by rcases hv with rfl | ⟨a, rfl⟩ <;> exact ⟨rfl, rfl⟩⟩
  | k + 62, h => exact absurd h (by omega)
theorem zcl11 : zCl 11 RX11 TX11 tyX11 := ⟨rfl, zlw_11, tyX11_ok, nmX11, z_tyX11⟩
theorem zf_RX1_9 : zF RX1 9 1 0 := ⟨_, _, _, zcl1, by decide, zt_a1 42 rfl rfl⟩
theorem zw_RX1_9 : zFO RX1 1 0 := by intro C T e; cases e; exact ⟨rfl, rfl⟩
theorem zf_RX10_91 : zF RX10 91 1 0 := ⟨_, _, _, zcl1, by decide, zt_a1 43 rfl rfl⟩
theorem zf_RX9_205 : zF RX9 205 1 0 := ⟨_, _, _, zcl1, by decide, zt_a1 44 rfl rfl⟩
theorem zf_RX1_15 : zF RX1 15 1 1 := ⟨_, _, _, zcl1, by decide, zt_a1 45 rfl rfl⟩
theorem zw_RX1_15 : zFO RX1 1 1 := by intro C T e; cases e; exact ⟨rfl, rfl⟩
theorem zf_RX10_94 : zF RX10 94 1 1 := ⟨_, _, _, zcl1, by decide, zt_a1 46 rfl rfl⟩
theorem zf_RX9_202 : zF RX9 202 1 1 := ⟨_, _, _, zcl1, by decide, zt_a1 47 rfl rfl⟩
theorem zf_RX1_18 : zF RX1 18 1 2 := ⟨_, _, _, zcl1, by decide, zt_a1 48 rfl rfl⟩
theorem zw_RX1_18 : zFO RX1 1 2 := by intro C T e; cases e; exact ⟨rfl, rfl⟩
theorem zf_RX9_156 : zF RX9 156 1 2 := ⟨_, _, _, zcl1, by decide, zt_a1 49 rfl rfl⟩
theorem zf_RX10_210 : zF RX10 210 1 2 := ⟨_, _, _, zcl1, by decide, zt_a1 50 rfl rfl⟩
theorem zf_RX1_21 : zF RX1 21 1 3 := ⟨_, _, _, zcl1, by decide, zt_a1 51 rfl rfl⟩
theorem zw_RX1_21 : zNF 1 3 := by intro C T e; cases e; rfl
theorem zf_RX10_81 : zF RX10 81 1 3 := ⟨_, _, _, zcl1, by decide, zt_a1 52 rfl rfl⟩
theorem zf_RX9_121 : zF RX9 121 1 3 := ⟨_, _, _, zcl1, by decide, zt_a1 53 rfl rfl⟩
theorem zf_RX1_25 : zF RX1 25 1 4 := ⟨_, _, _, zcl1, by decide, zt_a1 54 rfl rfl⟩
theorem zw_RX1_25 : zNF 1 4 := by intro C T e; cases e; rfl
theorem zf_RX9_153 : zF RX9 153 1 4 := ⟨_, _, _, zcl1, by decide, zt_a1 55 rfl rfl⟩
theorem zw_RX9_153 : zNF 1 4 := by intro C T e; cases e; rfl
theorem zf_RX10_240 : zF RX10 240 1 4 := ⟨_, _, _, zcl1, by decide, zt_a1 56 rfl rfl⟩
theorem zf_RX1_28 : zF RX1 28 1 5 := ⟨_, _, _, zcl1, by decide, zt_a1 57 rfl rfl⟩
theorem zw_RX1_28 : zNF 1 5 := by intro C T e; cases e; rfl
theorem zf_RX9_105 : zF RX9 105 1 5 := ⟨_, _, _, zcl1, by decide, zt_a1 58 rfl rfl⟩
theorem zw_RX9_105 : zNF 1 5 := by intro C T e; cases e; rfl
theorem zf_RX10_124 : zF RX10 124 1 5 := ⟨_, _, _, zcl1, by decide, zt_a1 59 rfl rfl⟩
theorem zw_RX10_124 : zNF 1 5 := by intro C T e; cases e; rfl
theorem zf_RX1_31 : zF RX1 31 1 6 := ⟨_, _, _, zcl1, by decide, zt_a1 60 rfl rfl⟩
theorem zw_RX1_31 : zNF 1 6 := by intro C T e; cases e; rfl
theorem zf_RX10_97 : zF RX10 97 1 6 := ⟨_, _, _, zcl1, by decide, zt_a1 61 rfl rfl⟩
theorem zw_RX10_97 : zNF 1 6 := by intro C T e; cases e; rfl
theorem zf_RX9_114 : zF RX9 114 1 6 := ⟨_, _, _, zcl1, by decide, zt_a1 62 rfl rfl⟩
theorem zf_RX1_34 : zF RX1 34 1 7 := ⟨_, _, _, zcl1, by decide, zt_a1 63 rfl rfl⟩
theorem zw_RX1_34 : zNF 1 7 := by intro C T e; cases e; rfl
theorem zf_RX10_100 : zF RX10 100 1 7 := ⟨_, _, _, zcl1, by decide, zt_a1 64 rfl rfl⟩
theorem zw_RX10_100 : zNF 1 7 := by intro C T e; cases e; rfl
theorem zf_RX9_159 : zF RX9 159 1 7 := ⟨_, _, _, zcl1, by decide, zt_a1 65 rfl rfl⟩
theorem zw_RX9_159 : zNF 1 7 := by intro C T e; cases e; rfl
theorem zf_RX1_37 : zF RX1 37 1 8 := ⟨_, _, _, zcl1, by decide, zt_a1 66 rfl rfl⟩
theorem zw_RX1_37 : zNF 1 8 := by intro C T e; cases e; rfl
theorem zf_RX10_130 : zF RX10 130 1 8 := ⟨_, _, _, zcl1, by decide, zt_a1 67 rfl rfl⟩
theorem zf_RX9_179 : zF RX9 179 1 8 := ⟨_, _, _, zcl1, by decide, zt_a1 68 rfl rfl⟩
theorem zw_RX9_179 : zNF 1 8 := by intro C T e; cases e; rfl
theorem zf_RX1_40 : zF RX1 40 1 9 := ⟨_, _, _, zcl1, by decide, zt_a1 69 rfl rfl⟩
theorem zw_RX1_40 : zNF 1 9 := by intro C T e; cases e; rfl
theorem zf_RX10_335 : zF RX10 335 1 9 := ⟨_, _, _, zcl1, by decide, zt_a1 70 rfl rfl⟩
theorem zf_RX1_43 : zF RX1 43 1 10 := ⟨_, _, _, zcl1, by decide, zt_a1 71 rfl rfl⟩
theorem zw_RX1_43 : zNF 1 10 := by intro C T e; cases e; rfl
theorem zf_RX9_108 : zF RX9 108 1 10 := ⟨_, _, _, zcl1, by decide, zt_a1 72 rfl rfl⟩
theorem zw_RX9_108 : zNF 1 10 := by intro C T e; cases e; rfl
theorem zf_RX10_338 : zF RX10 338 1 10 := ⟨_, _, _, zcl1, by decide, zt_a1 73 rfl rfl⟩
theorem zf_RX1_46 : zF RX1 46 1 11 := ⟨_, _, _, zcl1, by decide, zt_a1 74 rfl rfl⟩
theorem zw_RX1_46 : zNF 1 11 := by intro C T e; cases e; rfl
theorem zf_RX10_103 : zF RX10 103 1 11 := ⟨_, _, _, zcl1, by decide, zt_a1 75 rfl rfl⟩
theorem zw_RX10_103 : zNF 1 11 := by intro C T e; cases e; rfl
theorem zf_RX9_111 : zF RX9 111 1 11 := ⟨_, _, _, zcl1, by decide, zt_a1 76 rfl rfl⟩
theorem zw_RX9_111 : zNF 1 11 := by intro C T e; cases e; rfl
theorem zf_RX1_49 : zF RX1 49 1 12 := ⟨_, _, _, zcl1, by decide, zt_a1 77 rfl rfl⟩
theorem zw_RX1_49 : zNF 1 12 := by intro C T e; cases e; rfl
theorem zf_RX9_83 : zF RX9 83 1 12 := ⟨_, _, _, zcl1, by decide, zt_a1 78 rfl rfl⟩
theorem zw_RX9_83 : zNF 1 12 := by intro C T e; cases e; rfl
theorem zf_RX10_127 : zF RX10 127 1 12 := ⟨_, _, _, zcl1, by decide, zt_a1 79 rfl rfl⟩
theorem zf_RX1_52 : zF RX1 52 1 13 := ⟨_, _, _, zcl1, by decide, zt_a1 80 rfl rfl⟩
theorem zw_RX1_52 : zNF 1 13 := by intro C T e; cases e; rfl
theorem zf_RX10_71 : zF RX10 71 1 13 := ⟨_, _, _, zcl1, by decide, zt_a1 81 rfl rfl⟩
theorem zw_RX10_71 : zNF 1 13 := by intro C T e; cases e; rfl
theorem zf_RX3_9 : zF RX3 9 3 0 := ⟨_, _, _, zcl3, by decide, zt_a1 118 rfl rfl⟩
theorem zw_RX3_9 : zFO RX3 3 0 := by intro C T e; cases e; exact ⟨rfl, rfl⟩
theorem zf_RX7_43 : zF RX7 43 3 0 := ⟨_, _, _, zcl3, by decide, zt_a1 119 rfl rfl⟩
theorem zf_RX9_183 : zF RX9 183 3 0 := ⟨_, _, _, zcl3, by decide, zt_a1 120 rfl rfl⟩
theorem zf_RX3_15 : zF RX3 15 3 1 := ⟨_, _, _, zcl3, by decide, zt_a1 121 rfl rfl⟩
theorem zw_RX3_15 : zFO RX3 3 1 := by intro C T e; cases e; exact ⟨rfl, rfl⟩
theorem zf_RX7_50 : zF RX7 50 3 1 := ⟨_, _, _, zcl3, by decide, zt_a1 122 rfl rfl⟩
theorem zf_RX9_196 : zF RX9 196 3 1 := ⟨_, _, _, zcl3, by decide, zt_a1 123 rfl rfl⟩
theorem zf_RX3_18 : zF RX3 18 3 2 := ⟨_, _, _, zcl3, by decide, zt_a1 124 rfl rfl⟩
theorem zw_RX3_18 : zFO RX3 3 2 := by intro C T e; cases e; exact ⟨rfl, rfl⟩
theorem zf_RX7_57 : zF RX7 57 3 2 := ⟨_, _, _, zcl3, by decide, zt_a1 125 rfl rfl⟩
theorem zf_RX9_186 : zF RX9 186 3 2 := ⟨_, _, _, zcl3, by decide, zt_a1 126 rfl rfl⟩
theorem zf_RX3_21 : zF RX3 21 3 3 := ⟨_, _, _, zcl3, by decide, zt_a1 127 rfl rfl⟩
theorem zw_RX3_21 : zFO RX3 3 3 := by intro C T e; cases e; exact ⟨rfl, rfl⟩
theorem zf_RX7_67 : zF RX7 67 3 3 := ⟨_, _, _, zcl3, by decide, zt_a1 128 rfl rfl⟩
theorem zf_RX9_189 : zF RX9 189 3 3 := ⟨_, _, _, zcl3, by decide, zt_a1 129 rfl rfl⟩
theorem zf_RX3_26 : zF RX3 26 3 4 := ⟨_, _, _, zcl3, by decide, zt_a1 130 rfl rfl⟩
theorem zw_RX3_26 : zFO RX3 3 4 := by intro C T e; cases e; exact ⟨rfl, rfl⟩
theorem zf_RX3_29 : zF RX3 29 3 5 := ⟨_, _, _, zcl3, by decide, zt_a1 131 rfl rfl⟩
theorem zw_RX3_29 : zFO RX3 3 5 := by intro C T e; cases e; exact ⟨rfl, rfl⟩
theorem zf_RX3_32 : zF RX3 32 3 6 := ⟨_, _, _, zcl3, by decide, zt_a1 132 rfl rfl⟩
theorem zw_RX3_32 : zNF 3 6 := by intro C T e; cases e; rfl
theorem zf_RX7_25 : zF RX7 25 3 6 := ⟨_, _, _, zcl3, by decide, zt_a1 133 rfl rfl⟩
theorem zw_RX7_25 : zNF 3 6 := by intro C T e; cases e; rfl
theorem zf_RX10_160 : zF RX10 160 3 6 := ⟨_, _, _, zcl3, by decide, zt_a1 134 rfl rfl⟩
theorem zf_RX9_182 : zF RX9 182 3 6 := ⟨_, _, _, zcl3, by decide, zt_a1 135 rfl rfl⟩
theorem zf_RX3_36 : zF RX3 36 3 7 := ⟨_, _, _, zcl3, by decide, zt_a1 136 rfl rfl⟩
theorem zw_RX3_36 : zNF 3 7 := by intro C T e; cases e; rfl
theorem zf_RX7_29 : zF RX7 29 3 7 := ⟨_, _, _, zcl3, by decide, zt_a1 137 rfl rfl⟩
theorem zw_RX7_29 : zNF 3 7 := by intro C T e; cases e; rfl
theorem zf_RX4_9 : zF RX4 9 4 0 := ⟨_, _, _, zcl4, by decide, zt_a1 161 rfl rfl⟩
theorem zw_RX4_9 : zFO RX4 4 0 := by intro C T e; cases e; exact ⟨rfl, rfl⟩
theorem zf_RX9_79 : zF RX9 79 4 0 := ⟨_, _, _, zcl4, by decide, zt_a1 162 rfl rfl⟩
theorem zf_RX7_116 : zF RX7 116 4 0 := ⟨_, _, _, zcl4, by decide, zt_a1 163 rfl rfl⟩
theorem zf_RX4_15 : zF RX4 15 4 1 := ⟨_, _, _, zcl4, by decide, zt_a1 164 rfl rfl⟩
theorem zw_RX4_15 : zFO RX4 4 1 := by intro C T e; cases e; exact ⟨rfl, rfl⟩
theorem zf_RX9_85 : zF RX9 85 4 1 := ⟨_, _, _, zcl4, by decide, zt_a1 165 rfl rfl⟩
theorem zf_RX7_113 : zF RX7 113 4 1 := ⟨_, _, _, zcl4, by decide, zt_a1 166 rfl rfl⟩
theorem zf_RX4_18 : zF RX4 18 4 2 := ⟨_, _, _, zcl4, by decide, zt_a1 167 rfl rfl⟩
theorem zw_RX4_18 : zFO RX4 4 2 := by intro C T e; cases e; exact ⟨rfl, rfl⟩
theorem zf_RX9_88 : zF RX9 88 4 2 := ⟨_, _, _, zcl4, by decide, zt_a1 168 rfl rfl⟩
theorem zf_RX7_107 : zF RX7 107 4 2 := ⟨_, _, _, zcl4, by decide, zt_a1 169 rfl rfl⟩
theorem zf_RX4_21 : zF RX4 21 4 3 := ⟨_, _, _, zcl4, by decide, zt_a1 170 rfl rfl⟩
theorem zw_RX4_21 : zNF 4 3 := by intro C T e; cases e; rfl
theorem zf_RX9_75 : zF RX9 75 4 3 := ⟨_, _, _, zcl4, by decide, zt_a1 171 rfl rfl⟩
theorem zf_RX7_96 : zF RX7 96 4 3 := ⟨_, _, _, zcl4, by decide, zt_a1 172 rfl rfl⟩
theorem zw_RX7_96 : zNF 4 3 := by intro C T e; cases e; rfl
theorem zf_RX10_176 : zF RX10 176 4 3 := ⟨_, _, _, zcl4, by decide, zt_a1 173 rfl rfl⟩
theorem zf_RX2_9 : zF RX2 9 2 0 := ⟨_, _, _, zcl2, by decide, zt_a1 189 rfl rfl⟩
theorem zw_RX2_9 : zFO RX2 2 0 := by intro C T e; cases e; exact ⟨rfl, rfl⟩
theorem zf_RX10_216 : zF RX10 216 2 0 := ⟨_, _, _, zcl2, by decide, zt_a1 190 rfl rfl⟩
theorem zf_RX9_214 : zF RX9 214 2 0 := ⟨_, _, _, zcl2, by decide, zt_a1 191 rfl rfl⟩
theorem zf_RX2_15 : zF RX2 15 2 1 := ⟨_, _, _, zcl2, by decide, zt_a1 192 rfl rfl⟩
theorem zw_RX2_15 : zNF 2 1 := by intro C T e; cases e; rfl
theorem zf_RX10_197 : zF RX10 197 2 1 := ⟨_, _, _, zcl2, by decide, zt_a1 193 rfl rfl⟩
theorem zf_RX7_139 : zF RX7 139 2 1 := ⟨_, _, _, zcl2, by decide, zt_a1 194 rfl rfl⟩
theorem zw_RX7_139 : zNF 2 1 := by intro C T e; cases e; rfl
theorem zf_RX0_9 : zF RX0 9 0 0 := ⟨_, _, _, zcl0, by decide, zt_a1 206 rfl rfl⟩
theorem zw_RX0_9 : zFO RX0 0 0 := by intro C T e; cases e; exact ⟨rfl, rfl⟩
theorem zf_RX10_226 : zF RX10 226 0 0 := ⟨_, _, _, zcl0, by decide, zt_a1 207 rfl rfl⟩
theorem zf_RX0_13 : zF RX0 13 0 1 := ⟨_, _, _, zcl0, by decide, zt_a1 208 rfl rfl⟩
theorem zw_RX0_13 : zFO RX0 0 1 := by intro C T e; cases e; exact ⟨rfl, rfl⟩
theorem zf_RX10_228 : zF RX10 228 0 1 := ⟨_, _, _, zcl0, by decide, zt_a1 209 rfl rfl⟩
theorem zf_RX0_16 : zF RX0 16 0 2 := ⟨_, _, _, zcl0, by decide, zt_a1 210 rfl rfl⟩
theorem zw_RX0_16 : zFO RX0 0 2 := by intro C T e; cases e; exact ⟨rfl, rfl⟩
theorem zf_RX10_231 : zF RX10 231 0 2 := ⟨_, _, _, zcl0, by decide, zt_a1 211 rfl rfl⟩
theorem zf_RX0_19 : zF RX0 19 0 3 := ⟨_, _, _, zcl0, by decide, zt_a1 212 rfl rfl⟩
theorem zw_RX0_19 : zFO RX0 0 3 := by intro C T e; cases e; exact ⟨rfl, rfl⟩
theorem zf_RX10_234 : zF RX10 234 0 3 := ⟨_, _, _, zcl0, by decide, zt_a1 213 rfl rfl⟩
theorem zf_RX0_22 : zF RX0 22 0 4 := ⟨_, _, _, zcl0, by decide, zt_a1 214 rfl rfl⟩
theorem zw_RX0_22 : zNF 0 4 := by intro C T e; cases e; rfl
theorem zf_RX10_223 : zF RX10 223 0 4 := ⟨_, _, _, zcl0, by decide, zt_a1 215 rfl rfl⟩
theorem zw_RX10_223 : zNF 0 4 := by intro C T e; cases e; rfl
theorem zf_RX5_11 : zF RX5 11 5 0 := ⟨_, _, _, zcl5, by decide, zt_a1 233 rfl rfl⟩
theorem zw_RX5_11 : zFO RX5 5 0 := by intro C T e; cases e; exact ⟨rfl, rfl⟩
theorem zf_RX5_15 : zF RX5 15 5 1 := ⟨_, _, _, zcl5, by decide, zt_a1 234 rfl rfl⟩
theorem zw_RX5_15 : zFO RX5 5 1 := by intro C T e; cases e; exact ⟨rfl, rfl⟩
theorem zf_RX5_19 : zF RX5 19 5 2 := ⟨_, _, _, zcl5, by decide, zt_a1 235 rfl rfl⟩
theorem zw_RX5_19 : zNF 5 2 := by intro C T e; cases e; rfl
theorem zf_RX5_23 : zF RX5 23 5 3 := ⟨_, _, _, zcl5, by decide, zt_a1 236 rfl rfl⟩
theorem zw_RX5_23 : zFO RX5 5 3 := by intro C T e; cases e; exact ⟨rfl, rfl⟩
theorem zf_RX5_26 : zF RX5 26 5 4 := ⟨_, _, _, zcl5, by decide, zt_a1 237 rfl rfl⟩
theorem zw_RX5_26 : zNF 5 4 := by intro C T e; cases e; rfl
theorem zf_RX5_29 : zF RX5 29 5 5 := ⟨_, _, _, zcl5, by decide, zt_a1 238 rfl rfl⟩
theorem zw_RX5_29 : zFO RX5 5 5 := by intro C T e; cases e; exact ⟨rfl, rfl⟩
theorem zf_RX8_66 : zF RX8 66 5 5 := ⟨_, _, _, zcl5, by decide, zt_a1 239 rfl rfl⟩
theorem zf_RX5_32 : zF RX5 32 5 6 := ⟨_, _, _, zcl5, by decide, zt_a2 0 rfl rfl⟩
theorem zw_RX5_32 : zNF 5 6 := by intro C T e; cases e; rfl
theorem zf_RX8_62 : zF RX8 62 5 6 := ⟨_, _, _, zcl5, by decide, zt_a2 1 rfl rfl⟩
theorem zf_RX5_35 : zF RX5 35 5 7 := ⟨_, _, _, zcl5, by decide, zt_a2 2 rfl rfl⟩
theorem zw_RX5_35 : zFO RX5 5 7 := by intro C T e; cases e; exact ⟨rfl, rfl⟩
theorem zf_RX8_83 : zF RX8 83 5 7 := ⟨_, _, _, zcl5, by decide, zt_a2 3 rfl rfl⟩
theorem zf_RX5_38 : zF RX5 38 5 8 := ⟨_, _, _, zcl5, by decide, zt_a2 4 rfl rfl⟩
theorem zw_RX5_38 : zFO RX5 5 8 := by intro C T e; cases e; exact ⟨rfl, rfl⟩
theorem zf_RX8_80 : zF RX8 80 5 8 := ⟨_, _, _, zcl5, by decide, zt_a2 5 rfl rfl⟩
theorem zf_RX5_41 : zF RX5 41 5 9 := ⟨_, _, _, zcl5, by decide, zt_a2 6 rfl rfl⟩
theorem zw_RX5_41 : zNF 5 9 := by intro C T e; cases e; rfl
theorem zf_RX8_73 : zF RX8 73 5 9 := ⟨_, _, _, zcl5, by decide, zt_a2 7 rfl rfl⟩
theorem zf_RX9_12 : zF RX9 12 9 0 := ⟨_, _, _, zcl9, by decide, zt_a2 30 rfl rfl⟩
theorem zw_RX9_12 : zFO RX9 9 0 := by intro C T e; cases e; exact ⟨rfl, rfl⟩
theorem zf_RX10_67 : zF RX10 67 9 0 := ⟨_, _, _, zcl9, by decide, zt_a2 31 rfl rfl⟩
theorem zf_RX9_21 : zF RX9 21 9 1 := ⟨_, _, _, zcl9, by decide, zt_a2 32 rfl rfl⟩
theorem zw_RX9_21 : zFO RX9 9 1 := by intro C T e; cases e; exact ⟨rfl, rfl⟩
theorem zf_RX10_146 : zF RX10 146 9 1 := ⟨_, _, _, zcl9, by decide, zt_a2 33 rfl rfl⟩
theorem zf_RX9_28 : zF RX9 28 9 2 := ⟨_, _, _, zcl9, by decide, zt_a2 34 rfl rfl⟩
theorem zw_RX9_28 : zFO RX9 9 2 := by intro C T e; cases e; exact ⟨rfl, rfl⟩
theorem zf_RX10_163 : zF RX10 163 9 2 := ⟨_, _, _, zcl9, by decide, zt_a2 35 rfl rfl⟩
theorem zf_RX9_32 : zF RX9 32 9 3 := ⟨_, _, _, zcl9, by decide, zt_a2 36 rfl rfl⟩
theorem zw_RX9_32 : zFO RX9 9 3 := by intro C T e; cases e; exact ⟨rfl, rfl⟩
theorem zf_RX10_177 : zF RX10 177 9 3 := ⟨_, _, _, zcl9, by decide, zt_a2 37 rfl rfl⟩
theorem zf_RX9_38 : zF RX9 38 9 4 := ⟨_, _, _, zcl9, by decide, zt_a2 38 rfl rfl⟩
theorem zw_RX9_38 : zFO RX9 9 4 := by intro C T e; cases e; exact ⟨rfl, rfl⟩
theorem zf_RX10_184 : zF RX10 184 9 4 := ⟨_, _, _, zcl9, by decide, zt_a2 39 rfl rfl⟩
theorem zf_RX9_45 : zF RX9 45 9 5 := ⟨_, _, _, zcl9, by decide, zt_a2 40 rfl rfl⟩
theorem zw_RX9_45 : zFO RX9 9 5 := by intro C T e; cases e; exact ⟨rfl, rfl⟩
theorem zf_RX10_219 : zF RX10 219 9 5 := ⟨_, _, _, zcl9, by decide, zt_a2 41 rfl rfl⟩
theorem zf_RX9_52 : zF RX9 52 9 6 := ⟨_, _, _, zcl9, by decide, zt_a2 42 rfl rfl⟩
theorem zw_RX9_52 : zFO RX9 9 6 := by intro C T e; cases e; exact ⟨rfl, rfl⟩
theorem zf_RX10_263 : zF RX10 263 9 6 := ⟨_, _, _, zcl9, by decide, zt_a2 43 rfl rfl⟩
theorem zf_RX6_11 : zF RX6 11 6 0 := ⟨_, _, _, zcl6, by decide, zt_a2 65 rfl rfl⟩
theorem zw_RX6_11 : zFO RX6 6 0 := by intro C T e; cases e; exact ⟨rfl, rfl⟩
theorem zf_RX6_15 : zF RX6 15 6 1 := ⟨_, _, _, zcl6, by decide, zt_a2 66 rfl rfl⟩
theorem zw_RX6_15 : zFO RX6 6 1 := by intro C T e; cases e; exact ⟨rfl, rfl⟩
theorem zf_RX6_18 : zF RX6 18 6 2 := ⟨_, _, _, zcl6, by decide, zt_a2 67 rfl rfl⟩
theorem zw_RX6_18 : zFO RX6 6 2 := by intro C T e; cases e; exact ⟨rfl, rfl⟩
theorem zf_RX6_21 : zF RX6 21 6 3 := ⟨_, _, _, zcl6, by decide, zt_a2 68 rfl rfl⟩
theorem zw_RX6_21 : zNF 6 3 := by intro C T e; cases e; rfl
theorem zf_RX10_137 : zF RX10 137 6 3 := ⟨_, _, _, zcl6, by decide, zt_a2 69 rfl rfl⟩
theorem zw_RX10_137 : zNF 6 3 := by intro C T e; cases e; rfl
theorem zf_RX6_25 : zF RX6 25 6 4 := ⟨_, _, _, zcl6, by decide, zt_a2 70 rfl rfl⟩
theorem zw_RX6_25 : zNF 6 4 := by intro C T e; cases e; rfl
theorem zf_RX6_28 : zF RX6 28 6 5 := ⟨_, _, _, zcl6, by decide, zt_a2 71 rfl rfl⟩
theorem zw_RX6_28 : zNF 6 5 := by intro C T e; cases e; rfl
theorem zf_RX6_31 : zF RX6 31 6 6 := ⟨_, _, _, zcl6, by decide, zt_a2 72 rfl rfl⟩
theorem zw_RX6_31 : zNF 6 6 := by intro C T e; cases e; rfl
theorem zf_RX7_32 : zF RX7 32 6 6 := ⟨_, _, _, zcl6, by decide, zt_a2 73 rfl rfl⟩
theorem zf_RX6_34 : zF RX6 34 6 7 := ⟨_, _, _, zcl6, by decide, zt_a2 74 rfl rfl⟩
theorem zw_RX6_34 : zNF 6 7 := by intro C T e; cases e; rfl
theorem zf_RX10_198 : zF RX10 198 6 7 := ⟨_, _, _, zcl6, by decide, zt_a2 75 rfl rfl⟩
theorem zf_RX6_37 : zF RX6 37 6 8 := ⟨_, _, _, zcl6, by decide, zt_a2 76 rfl rfl⟩
theorem zw_RX6_37 : zNF 6 8 := by intro C T e; cases e; rfl
theorem zf_RX10_201 : zF RX10 201 6 8 := ⟨_, _, _, zcl6, by decide, zt_a2 77 rfl rfl⟩
theorem zf_RX6_40 : zF RX6 40 6 9 := ⟨_, _, _, zcl6, by decide, zt_a2 78 rfl rfl⟩
theorem zw_RX6_40 : zNF 6 9 := by intro C T e; cases e; rfl
theorem zf_RX7_110 : zF RX7 110 6 9 := ⟨_, _, _, zcl6, by decide, zt_a2 79 rfl rfl⟩
theorem zf_RX7_9 : zF RX7 9 7 0 := ⟨_, _, _, zcl7, by decide, zt_a2 107 rfl rfl⟩
theorem zw_RX7_9 : zFO RX7 7 0 := by intro C T e; cases e; exact ⟨rfl, rfl⟩
theorem zf_RX8_11 : zF RX8 11 8 0 := ⟨_, _, _, zcl8, by decide, zt_a2 117 rfl rfl⟩
theorem zw_RX8_11 : zFO RX8 8 0 := by intro C T e; cases e; exact ⟨rfl, rfl⟩
theorem zf_RX10_326 : zF RX10 326 8 0 := ⟨_, _, _, zcl8, by decide, zt_a2 118 rfl rfl⟩
theorem zf_RX8_15 : zF RX8 15 8 1 := ⟨_, _, _, zcl8, by decide, zt_a2 119 rfl rfl⟩
theorem zw_RX8_15 : zFO RX8 8 1 := by intro C T e; cases e; exact ⟨rfl, rfl⟩
theorem zf_RX8_18 : zF RX8 18 8 2 := ⟨_, _, _, zcl8, by decide, zt_a2 120 rfl rfl⟩
theorem zw_RX8_18 : zFO RX8 8 2 := by intro C T e; cases e; exact ⟨rfl, rfl⟩
theorem zf_RX8_21 : zF RX8 21 8 3 := ⟨_, _, _, zcl8, by decide, zt_a2 121 rfl rfl⟩
theorem zw_RX8_21 : zFO RX8 8 3 := by intro C T e; cases e; exact ⟨rfl, rfl⟩
theorem zf_RX8_24 : zF RX8 24 8 4 := ⟨_, _, _, zcl8, by decide, zt_a2 122 rfl rfl⟩
theorem zw_RX8_24 : zFO RX8 8 4 := by intro C T e; cases e; exact ⟨rfl, rfl⟩
theorem zf_RX10_10 : zF RX10 10 10 0 := ⟨_, _, _, zcl10, by decide, zt_a2 137 rfl rfl⟩
theorem zw_RX10_10 : zFO RX10 10 0 := by intro C T e; cases e; exact ⟨rfl, rfl⟩
theorem zf_RX10_16 : zF RX10 16 10 1 := ⟨_, _, _, zcl10, by decide, zt_a2 138 rfl rfl⟩
theorem zw_RX10_16 : zFO RX10 10 1 := by intro C T e; cases e; exact ⟨rfl, rfl⟩
theorem zf_RX10_19 : zF RX10 19 10 2 := ⟨_, _, _, zcl10, by decide, zt_a2 139 rfl rfl⟩
theorem zw_RX10_19 : zFO RX10 10 2 := by intro C T e; cases e; exact ⟨rfl, rfl⟩
theorem zf_RX10_25 : zF RX10 25 10 3 := ⟨_, _, _, zcl10, by decide, zt_a2 140 rfl rfl⟩
theorem zw_RX10_25 : zFO RX10 10 3 := by intro C T e; cases e; exact ⟨rfl, rfl⟩
theorem zf_RX10_34 : zF RX10 34 10 4 := ⟨_, _, _, zcl10, by decide, zt_a2 141 rfl rfl⟩
theorem zw_RX10_34 : zFO RX10 10 4 := by intro C T e; cases e; exact ⟨rfl, rfl⟩
theorem zf_RX10_41 : zF RX10 41 10 5 := ⟨_, _, _, zcl10, by decide, zt_a2 142 rfl rfl⟩
theorem zw_RX10_41 : zFO RX10 10 5 := by intro C T e; cases e; exact ⟨rfl, rfl⟩
theorem zf_RX10_47 : zF RX10 47 10 6 := ⟨_, _, _, zcl10, by decide, zt_a2 143 rfl rfl⟩
theorem zw_RX10_47 : zFO RX10 10 6 := by intro C T e; cases e; exact ⟨rfl, rfl⟩
theorem zf_RX10_51 : zF RX10 51 10 7 := ⟨_, _, _, zcl10, by decide, zt_a2 144 rfl rfl⟩
theorem zw_RX10_51 : zFO RX10 10 7 := by intro C T e; cases e; exact ⟨rfl, rfl⟩
theorem zf_RX10_55 : zF RX10 55 10 8 := ⟨_, _, _, zcl10, by decide, zt_a2 145 rfl rfl⟩
theorem zw_RX10_55 : zNF 10 8 := by intro C T e; cases e; rfl
theorem zf_RX10_59 : zF RX10 59 10 9 := ⟨_, _, _, zcl10, by decide, zt_a2 146 rfl rfl⟩
theorem zw_RX10_59 : zNF 10 9 := by intro C T e; cases e; rfl
theorem zf_RX10_63 : zF RX10 63 10 10 := ⟨_, _, _, zcl10, by decide, zt_a2 147 rfl rfl⟩
theorem zw_RX10_63 : zNF 10 10 := by intro C T e; cases e; rfl
theorem zf_RX11_120 : zF RX11 120 11 0 := ⟨_, _, _, zcl11, by decide, zt_a5 155 rfl rfl⟩
theorem zw_RX11_120 : zNF 11 0 := by intro C T e; cases e; rfl
theorem zf_RX11_7 : zF RX11 7 11 1 := ⟨_, _, _, zcl11, by decide, zt_a5 156 rfl rfl⟩
theorem zw_RX11_7 : zFO RX11 11 1 := by intro C T e; cases e; exact ⟨rfl, rfl⟩
theorem zf_RX11_13 : zF RX11 13 11 2 := ⟨_, _, _, zcl11, by decide, zt_a5 157 rfl rfl⟩
theorem zw_RX11_13 : zFO RX11 11 2 := by intro C T e; cases e; exact ⟨rfl, rfl⟩
theorem zf_RX11_123 : zF RX11 123 11 3 := ⟨_, _, _, zcl11, by decide, zt_a5 158 rfl rfl⟩
theorem zw_RX11_123 : zNF 11 3 := by intro C T e; cases e; rfl
theorem zf_RX11_16 : zF RX11 16 11 4 := ⟨_, _, _, zcl11, by decide, zt_a5 159 rfl rfl⟩
theorem zw_RX11_16 : zFO RX11 11 4 := by intro C T e; cases e; exact ⟨rfl, rfl⟩
theorem zf_RX11_126 : zF RX11 126 11 5 := ⟨_, _, _, zcl11, by decide, zt_a5 160 rfl rfl⟩
theorem zw_RX11_126 : zNF 11 5 := by intro C T e; cases e; rfl
theorem zf_RX11_132 : zF RX11 132 11 6 := ⟨_, _, _, zcl11, by decide, zt_a5 161 rfl rfl⟩
theorem zw_RX11_132 : zNF 11 6 := by intro C T e; cases e; rfl
theorem zf_RX11_19 : zF RX11 19 11 7 := ⟨_, _, _, zcl11, by decide, zt_a5 162 rfl rfl⟩
theorem zw_RX11_19 : zFO RX11 11 7 := by intro C T e; cases e; exact ⟨rfl, rfl⟩
theorem zf_RX11_22 : zF RX11 22 11 8 := ⟨_, _, _, zcl11, by decide, zt_a5 163 rfl rfl⟩
theorem zw_RX11_22 : zFO RX11 11 8 := by intro C T e; cases e; exact ⟨rfl, rfl⟩
theorem zf_RX11_25 : zF RX11 25 11 9 := ⟨_, _, _, zcl11, by decide, zt_a5 164 rfl rfl⟩
theorem zw_RX11_25 : zFO RX11 11 9 := by intro C T e; cases e; exact ⟨rfl, rfl⟩
theorem zf_RX11_28 : zF RX11 28 11 10 := ⟨_, _, _, zcl11, by decide, zt_a5 165 rfl rfl⟩
theorem zw_RX11_28 : zFO RX11 11 10 := by intro C T e; cases e; exact ⟨rfl, rfl⟩
theorem zf_RX11_149 : zF RX11 149 11 11 := ⟨_, _, _, zcl11, by decide, zt_a5 166 rfl rfl⟩
theorem zw_RX11_149 : zNF 11 11 := by intro C T e; cases e; rfl
theorem zf_RX11_156 : zF RX11 156 11 12 := ⟨_, _, _, zcl11, by decide, zt_a5 167 rfl rfl⟩
theorem zw_RX11_156 : zNF 11 12 := by intro C T e; cases e; rfl
theorem zf_RX11_163 : zF RX11 163 11 13 := ⟨_, _, _, zcl11, by decide, zt_a5 168 rfl rfl⟩
theorem zw_RX11_163 : zNF 11 13 := by intro C T e; cases e; rfl
theorem zf_RX11_166 : zF RX11 166 11 14 := ⟨_, _, _, zcl11, by decide, zt_a5 169 rfl rfl⟩
theorem zw_RX11_166 : zNF 11 14 := by intro C T e; cases e; rfl
theorem zf_RX11_169 : zF RX11 169 11 15 := ⟨_, _, _, zcl11, by decide, zt_a5 170 rfl rfl⟩
theorem zw_RX11_169 : zNF 11 15 := by intro C T e; cases e; rfl
theorem zf_RX11_31 : zF RX11 31 11 16 := ⟨_, _, _, zcl11, by decide, zt_a5 171 rfl rfl⟩
theorem zw_RX11_31 : zFO RX11 11 16 := by intro C T e; cases e; exact ⟨rfl, rfl⟩
theorem zf_RX11_34 : zF RX11 34 11 17 := ⟨_, _, _, zcl11, by decide, zt_a5 172 rfl rfl⟩
theorem zw_RX11_34 : zFO RX11 11 17 := by intro C T e; cases e; exact ⟨rfl, rfl⟩
theorem zf_RX11_37 : zF RX11 37 11 18 := ⟨_, _, _, zcl11, by decide, zt_a5 173 rfl rfl⟩
theorem zw_RX11_37 : zFO RX11 11 18 := by intro C T e; cases e; exact ⟨rfl, rfl⟩
theorem zf_RX11_40 : zF RX11 40 11 19 := ⟨_, _, _, zcl11, by decide, zt_a5 174 rfl rfl⟩
theorem zw_RX11_40 : zFO RX11 11 19 := by intro C T e; cases e; exact ⟨rfl, rfl⟩
theorem zf_RX11_43 : zF RX11 43 11 20 := ⟨_, _, _, zcl11, by decide, zt_a5 175 rfl rfl⟩
theorem zw_RX11_43 : zFO RX11 11 20 := by intro C T e; cases e; exact ⟨rfl, rfl⟩
theorem zf_RX11_46 : zF RX11 46 11 21 := ⟨_, _, _, zcl11, by decide, zt_a5 176 rfl rfl⟩
theorem zw_RX11_46 : zFO RX11 11 21 := by intro C T e; cases e; exact ⟨rfl, rfl⟩
theorem zf_RX11_49 : zF RX11 49 11 22 := ⟨_, _, _, zcl11, by decide, zt_a5 177 rfl rfl⟩
theorem zw_RX11_49 : zFO RX11 11 22 := by intro C T e; cases e; exact ⟨rfl, rfl⟩
theorem zf_RX11_52 : zF RX11 52 11 23 := ⟨_, _, _, zcl11, by decide, zt_a5 178 rfl rfl⟩
theorem zw_RX11_52 : zFO RX11 11 23 := by intro C T e; cases e; exact ⟨rfl, rfl⟩
theorem zf_RX11_245 : zF RX11 245 11 24 := ⟨_, _, _, zcl11, by decide, zt_a5 179 rfl rfl⟩
theorem zw_RX11_245 : zNF 11 24 := by intro C T e; cases e; rfl
theorem zf_RX11_191 : zF RX11 191 11 25 := ⟨_, _, _, zcl11, by decide, zt_a5 180 rfl rfl⟩
theorem zw_RX11_191 : zNF 11 25 := by intro C T e; cases e; rfl
theorem zf_RX11_223 : zF RX11 223 11 26 := ⟨_, _, _, zcl11, by decide, zt_a5 181 rfl rfl⟩
theorem zw_RX11_223 : zNF 11 26 := by intro C T e; cases e; rfl
theorem zf_RX11_55 : zF RX11 55 11 27 := ⟨_, _, _, zcl11, by decide, zt_a5 182 rfl rfl⟩
theorem zw_RX11_55 : zFO RX11 11 27 := by intro C T e; cases e; exact ⟨rfl, rfl⟩
theorem zf_RX11_220 : zF RX11 220 11 28 := ⟨_, _, _, zcl11, by decide, zt_a5 183 rfl rfl⟩
theorem zw_RX11_220 : zNF 11 28 := by intro C T e; cases e; rfl
theorem zf_RX11_185 : zF RX11 185 11 29 := ⟨_, _, _, zcl11, by decide, zt_a5 184 rfl rfl⟩
theorem zw_RX11_185 : zNF 11 29 := by intro C T e; cases e; rfl
theorem zf_RX11_188 : zF RX11 188 11 30 := ⟨_, _, _, zcl11, by decide, zt_a5 185 rfl rfl⟩
theorem zw_RX11_188 : zNF 11 30 := by intro C T e; cases e; rfl
theorem zf_RX11_291 : zF RX11 291 11 31 := ⟨_, _, _, zcl11, by decide, zt_a5 186 rfl rfl⟩
theorem zw_RX11_291 : zNF 11 31 := by intro C T e; cases e; rfl
theorem zf_RX11_58 : zF RX11 58 11 32 := ⟨_, _, _, zcl11, by decide, zt_a5 187 rfl rfl⟩
theorem zw_RX11_58 : zNF 11 32 := by intro C T e; cases e; rfl
theorem zf_RX11_285 : zF RX11 285 11 33 := ⟨_, _, _, zcl11, by decide, zt_a5 188 rfl rfl⟩
theorem zw_RX11_285 : zNF 11 33 := by intro C T e; cases e; rfl
theorem zf_RX11_62 : zF RX11 62 11 34 := ⟨_, _, _, zcl11, by decide, zt_a5 189 rfl rfl⟩
theorem zw_RX11_62 : zFO RX11 11 34 := by intro C T e; cases e; exact ⟨rfl, rfl⟩
theorem zf_RX11_288 : zF RX11 288 11 35 := ⟨_, _, _, zcl11, by decide, zt_a5 190 rfl rfl⟩
theorem zw_RX11_288 : zNF 11 35 := by intro C T e; cases e; rfl
theorem zf_RX11_65 : zF RX11 65 11 36 := ⟨_, _, _, zcl11, by decide, zt_a5 191 rfl rfl⟩
theorem zw_RX11_65 : zFO RX11 11 36 := by intro C T e; cases e; exact ⟨rfl, rfl⟩
theorem zf_RX11_282 : zF RX11 282 11 37 := ⟨_, _, _, zcl11, by decide, zt_a5 192 rfl rfl⟩
theorem zw_RX11_282 : zNF 11 37 := by intro C T e; cases e; rfl
theorem zf_RX11_68 : zF RX11 68 11 38 := ⟨_, _, _, zcl11, by decide, zt_a5 193 rfl rfl⟩
theorem zw_RX11_68 : zFO RX11 11 38 := by intro C T e; cases e; exact ⟨rfl, rfl⟩
theorem zf_RX11_71 : zF RX11 71 11 39 := ⟨_, _, _, zcl11, by decide, zt_a5 194 rfl rfl⟩
theorem zw_RX11_71 : zFO RX11 11 39 := by intro C T e; cases e; exact ⟨rfl, rfl⟩
theorem zf_RX11_74 : zF RX11 74 11 40 := ⟨_, _, _, zcl11, by decide, zt_a5 195 rfl rfl⟩
theorem zw_RX11_74 : zFO RX11 11 40 := by intro C T e; cases e; exact ⟨rfl, rfl⟩
theorem zf_RX11_77 : zF RX11 77 11 41 := ⟨_, _, _, zcl11, by decide, zt_a5 196 rfl rfl⟩
theorem zw_RX11_77 : zFO RX11 11 41 := by intro C T e; cases e; exact ⟨rfl, rfl⟩
theorem zf_RX11_401 : zF RX11 401 11 42 := ⟨_, _, _, zcl11, by decide, zt_a5 197 rfl rfl⟩
theorem zw_RX11_401 : zNF 11 42 := by intro C T e; cases e; rfl
theorem zf_RX11_80 : zF RX11 80 11 43 := ⟨_, _, _, zcl11, by decide, zt_a5 198 rfl rfl⟩
theorem zw_RX11_80 : zFO RX11 11 43 := by intro C T e; cases e; exact ⟨rfl, rfl⟩
theorem zf_RX11_83 : zF RX11 83 11 44 := ⟨_, _, _, zcl11, by decide, zt_a5 199 rfl rfl⟩
theorem zw_RX11_83 : zFO RX11 11 44 := by intro C T e; cases e; exact ⟨rfl, rfl⟩
theorem zf_RX11_408 : zF RX11 408 11 45 := ⟨_, _, _, zcl11, by decide, zt_a5 200 rfl rfl⟩
theorem zw_RX11_408 : zNF 11 45 := by intro C T e; cases e; rfl
theorem zf_RX11_86 : zF RX11 86 11 46 := ⟨_, _, _, zcl11, by decide, zt_a5 201 rfl rfl⟩
theorem zw_RX11_86 : zFO RX11 11 46 := by intro C T e; cases e; exact ⟨rfl, rfl⟩
theorem zf_RX11_89 : zF RX11 89 11 47 := ⟨_, _, _, zcl11, by decide, zt_a5 202 rfl rfl⟩
theorem zw_RX11_89 : zFO RX11 11 47 := by intro C T e; cases e; exact ⟨rfl, rfl⟩
theorem zf_RX11_93 : zF RX11 93 11 48 := ⟨_, _, _, zcl11, by decide, zt_a5 203 rfl rfl⟩
theorem zw_RX11_93 : zFO RX11 11 48 := by intro C T e; cases e; exact ⟨rfl, rfl⟩
theorem zf_RX11_425 : zF RX11 425 11 49 := ⟨_, _, _, zcl11, by decide, zt_a5 204 rfl rfl⟩
theorem zw_RX11_425 : zNF 11 49 := by intro C T e; cases e; rfl
theorem zf_RX11_96 : zF RX11 96 11 50 := ⟨_, _, _, zcl11, by decide, zt_a5 205 rfl rfl⟩
theorem zw_RX11_96 : zFO RX11 11 50 := by intro C T e; cases e; exact ⟨rfl, rfl⟩
theorem zf_RX11_99 : zF RX11 99 11 51 := ⟨_, _, _, zcl11, by decide, zt_a5 206 rfl rfl⟩
theorem zw_RX11_99 : zFO RX11 11 51 := by intro C T e; cases e; exact ⟨rfl, rfl⟩
theorem zf_RX11_102 : zF RX11 102 11 52 := ⟨_, _, _, zcl11, by decide, zt_a5 207 rfl rfl⟩
theorem zw_RX11_102 : zFO RX11 11 52 := by intro C T e; cases e; exact ⟨rfl, rfl⟩
theorem zf_RX11_445 : zF RX11 445 11 53 := ⟨_, _, _, zcl11, by decide, zt_a5 208 rfl rfl⟩
theorem zw_RX11_445 : zNF 11 53 := by intro C T e; cases e; rfl
theorem zf_RX11_105 : zF RX11 105 11 54 := ⟨_, _, _, zcl11, by decide, zt_a5 209 rfl rfl⟩
theorem zw_RX11_105 : zFO RX11 11 54 := by intro C T e; cases e; exact ⟨rfl, rfl⟩
theorem zf_RX11_108 : zF RX11 108 11 55 := ⟨_, _, _, zcl11, by decide, zt_a5 210 rfl rfl⟩
theorem zw_RX11_108 : zFO RX11 11 55 := by intro C T e; cases e; exact ⟨rfl, rfl⟩
theorem zf_RX11_111 : zF RX11 111 11 56 := ⟨_, _, _, zcl11, by decide, zt_a5 211 rfl rfl⟩
theorem zw_RX11_111 : zFO RX11 11 56 := by intro C T e; cases e; exact ⟨rfl, rfl⟩
theorem zf_RX11_114 : zF RX11 114 11 57 := ⟨_, _, _, zcl11, by decide, zt_a5 212 rfl rfl⟩
theorem zw_RX11_114 : zFO RX11 11 57 := by intro C T e; cases e; exact ⟨rfl, rfl⟩
theorem zf_RX11_464 : zF RX11 464 11 58 := ⟨_, _, _, zcl11, by decide, zt_a5 213 rfl rfl⟩
theorem zw_RX11_464 : zNF 11 58 := by intro C T e; cases e; rfl
theorem zf_RX11_470 : zF RX11 470 11 59 := ⟨_, _, _, zcl11, by decide, zt_a5 214 rfl rfl⟩
theorem zw_RX11_470 : zNF 11 59 := by intro C T e; cases e; rfl
theorem zf_RX11_461 : zF RX11 461 11 60 := ⟨_, _, _, zcl11, by decide, zt_a5 215 rfl rfl⟩
theorem zw_RX11_461 : zNF 11 60 := by intro C T e; cases e; rfl
theorem zf_RX11_117 : zF RX11 117 11 61 := ⟨_, _, _, zcl11, by decide, zt_a5 216 rfl rfl⟩
theorem zw_RX11_117 : zFO RX11 11 61 := by intro C T e; cases e; exact ⟨rfl, rfl⟩
theorem wc_RJ6_265 : Cond.constant RJ6 265 (Int32.ofInt 1431655765) ∈ zt := zt_a3 8 (by decide +kernel) rfl
theorem wc_RJ6_266 : Cond.constant RJ6 266 (Int32.ofInt 858993459) ∈ zt := zt_a3 9 (by decide +kernel) rfl
theorem wc_RJ6_267 : Cond.constant RJ6 267 (Int32.ofInt 252645135) ∈ zt := zt_a3 10 (by decide +kernel) rfl
theorem wc_RX1_61 : Cond.constant RX1 61 (Int32.ofInt 1664525) ∈ zt := zt_a3 67 (by decide +kernel) rfl
theorem wc_RX1_62 : Cond.constant RX1 62 (Int32.ofInt 1013904223) ∈ zt := zt_a3 68 (by decide +kernel) rfl
theorem wc_RX10_252 : Cond.constant RX10 252 (Int32.ofInt 2147483647) ∈ zt := zt_a4 169 (by decide +kernel) rfl
theorem wc_RX10_353 : Cond.constant RX10 353 (Int32.ofInt 262144) ∈ zt := zt_a4 177 (by decide +kernel) rfl
theorem wc_RX10_253 : Cond.constant RX10 253 (Int32.ofInt 262143) ∈ zt := zt_a4 182 (by decide +kernel) rfl
theorem wc_RX10_276 : Cond.constant RX10 276 (Int32.ofInt (-10000000)) ∈ zt := zt_a4 224 (by decide +kernel) rfl
theorem wc_RX8_57 : Cond.constant RX8 57 (Int32.ofInt 2147483647) ∈ zt := zt_a5 15 (by decide +kernel) rfl
theorem wc_RX10_302 : Cond.constant RX10 302 (Int32.ofInt 1000000) ∈ zt := zt_a5 50 (by decide +kernel) rfl
theorem wc_RX8_79 : Cond.constant RX8 79 (Int32.ofInt 1000000) ∈ zt := zt_a5 113 (by decide +kernel) rfl
theorem wc_RX10_341 : Cond.constant RX10 341 (Int32.ofInt (-100000)) ∈ zt := zt_a5 147 (by decide +kernel) rfl
theorem wc_RX11_92 : Cond.constant RX11 92 (Int32.ofInt 116281) ∈ zt := zt_a5 154 (by decide +kernel) rfl
theorem wc_RX11_130 : Cond.constant RX11 130 (Int32.ofInt 1664525) ∈ zt := zt_a7 146 (by decide +kernel) rfl
theorem wc_RX11_131 : Cond.constant RX11 131 (Int32.ofInt 1013904223) ∈ zt := zt_a7 147 (by decide +kernel) rfl
theorem wc_RX11_404 : Cond.constant RX11 404 (Int32.ofInt (-10000000)) ∈ zt := zt_a7 220 (by decide +kernel) rfl
theorem wc_RX11_411 : Cond.constant RX11 411 (Int32.ofInt 100000000) ∈ zt := zt_a7 233 (by decide +kernel) rfl
theorem wc_RX11_443 : Cond.constant RX11 443 (Int32.ofInt 1000000) ∈ zt := zt_a8 50 (by decide +kernel) rfl
theorem wc_RX11_444 : Cond.constant RX11 444 (Int32.ofInt 399400) ∈ zt := zt_a8 59 (by decide +kernel) rfl
theorem wc_RX11_479 : Cond.constant RX11 479 (Int32.ofInt (-100000)) ∈ zt := zt_a8 116 (by decide +kernel) rfl
theorem mb_X0_init : zMb yX0_init cX0_init 1 none 0 := ⟨zt_a1 204 rfl rfl, zt_a1 7 rfl rfl, by decide, by decide, by decide +kernel⟩
theorem mb_X0_copyFrom : zMb yX0_copyFrom cX0_copyFrom 2 none 1 := ⟨zt_a4 149 rfl rfl, zt_a1 7 rfl rfl, by decide, by decide, by decide +kernel⟩
theorem mb_X0_write : zMb yX0_write cX0_write 5 none 4 := ⟨zt_a3 27 rfl rfl, zt_a1 7 rfl rfl, by decide, by decide, by decide +kernel⟩
theorem mb_X1_init : zMb yX1_init cX1_init 1 none 0 := ⟨zt_a1 40 rfl rfl, zt_a1 3 rfl rfl, by decide, by decide, by decide +kernel⟩
theorem mb_X1_copyFrom : zMb yX1_copyFrom cX1_copyFrom 2 none 1 := ⟨zt_a2 225 rfl rfl, zt_a1 3 rfl rfl, by decide, by decide, by decide +kernel⟩
theorem mb_X1_comes : zMb yX1_comes cX1_comes 3 (some .int) 2 := ⟨zt_a2 189 rfl rfl, zt_a1 3 rfl rfl, by decide, by decide, by decide +kernel⟩
theorem mb_X1_knows : zMb yX1_knows cX1_knows 2 (some .boolean) 1 := ⟨zt_a2 201 rfl rfl, zt_a1 3 rfl rfl, by decide, by decide, by decide +kernel⟩
theorem mb_X1_isHere : zMb yX1_isHere cX1_isHere 2 (some .boolean) 1 := ⟨zt_a2 213 rfl rfl, zt_a1 3 rfl rfl, by decide, by decide, by decide +kernel⟩
theorem mb_X1_isBegged : zMb yX1_isBegged cX1_isBegged 2 (some .boolean) 1 := ⟨zt_a2 217 rfl rfl, zt_a1 3 rfl rfl, by decide, by decide, by decide +kernel⟩
theorem mb_X1_drawOfThousand : zMb yX1_drawOfThousand cX1_drawOfThousand 1 (some .int) 0 := ⟨zt_a3 66 rfl rfl, zt_a1 3 rfl rfl, by decide, by decide, by decide +kernel⟩
theorem mb_X1_moveHands : zMb yX1_moveHands cX1_moveHands 3 none 1 := ⟨zt_a3 47 rfl rfl, zt_a1 3 rfl rfl, by decide, by decide, by decide +kernel⟩
theorem mb_X2_init : zMb yX2_init cX2_init 1 none 0 := ⟨zt_a1 187 rfl rfl, zt_a1 6 rfl rfl, by decide, by decide, by decide +kernel⟩
theorem mb_X2_copyFrom : zMb yX2_copyFrom cX2_copyFrom 2 none 1 := ⟨zt_a4 118 rfl rfl, zt_a1 6 rfl rfl, by decide, by decide, by decide +kernel⟩
theorem mb_X2_clear : zMb yX2_clear cX2_clear 1 none 0 := ⟨zt_a4 102 rfl rfl, zt_a1 6 rfl rfl, by decide, by decide, by decide +kernel⟩
theorem mb_X2_join : zMb yX2_join cX2_join 3 none 2 := ⟨zt_a4 113 rfl rfl, zt_a1 6 rfl rfl, by decide, by decide, by decide +kernel⟩
theorem mb_X2_areKin : zMb yX2_areKin cX2_areKin 3 (some .boolean) 2 := ⟨zt_a3 73 rfl rfl, zt_a1 6 rfl rfl, by decide, by decide, by decide +kernel⟩
theorem mb_X3_init : zMb yX3_init cX3_init 1 none 0 := ⟨zt_a1 116 rfl rfl, zt_a1 4 rfl rfl, by decide, by decide, by decide +kernel⟩
theorem mb_X3_copyFrom : zMb yX3_copyFrom cX3_copyFrom 2 none 1 := ⟨zt_a4 55 rfl rfl, zt_a1 4 rfl rfl, by decide, by decide, by decide +kernel⟩
theorem mb_X3_put : zMb yX3_put cX3_put 2 none 1 := ⟨zt_a4 37 rfl rfl, zt_a1 4 rfl rfl, by decide, by decide, by decide +kernel⟩
theorem mb_X3_run : zMb yX3_run cX3_run 8 (some .int) 4 := ⟨zt_a3 0 rfl rfl, zt_a1 4 rfl rfl, by decide, by decide, by decide +kernel⟩
theorem mb_X3_joined : zMb yX3_joined cX3_joined 3 (some .int) 3 := ⟨zt_a3 20 rfl rfl, zt_a1 4 rfl rfl, by decide, by decide, by decide +kernel⟩
theorem mb_X4_init : zMb yX4_init cX4_init 1 none 0 := ⟨zt_a1 159 rfl rfl, zt_a1 5 rfl rfl, by decide, by decide, by decide +kernel⟩
theorem mb_X4_copyFrom : zMb yX4_copyFrom cX4_copyFrom 2 none 1 := ⟨zt_a4 79 rfl rfl, zt_a1 5 rfl rfl, by decide, by decide, by decide +kernel⟩
theorem mb_X5_init : zMb yX5_init cX5_init 1 none 0 := ⟨zt_a1 231 rfl rfl, zt_a1 8 rfl rfl, by decide, by decide, by decide +kernel⟩
theorem mb_X5_copyFrom : zMb yX5_copyFrom cX5_copyFrom 3 none 1 := ⟨zt_a4 154 rfl rfl, zt_a1 8 rfl rfl, by decide, by decide, by decide +kernel⟩
theorem mb_X5_tellWheel : zMb yX5_tellWheel cX5_tellWheel 3 (some .int) 2 := ⟨zt_a4 207 rfl rfl, zt_a1 8 rfl rfl, by decide, by decide, by decide +kernel⟩
theorem mb_X5_tellCouple : zMb yX5_tellCouple cX5_tellCouple 3 (some .int) 2 := ⟨zt_a4 232 rfl rfl, zt_a1 8 rfl rfl, by decide, by decide, by decide +kernel⟩
theorem mb_X5_tellSeat : zMb yX5_tellSeat cX5_tellSeat 2 (some .int) 1 := ⟨zt_a5 27 rfl rfl, zt_a1 8 rfl rfl, by decide, by decide, by decide +kernel⟩
theorem mb_X5_tellArm : zMb yX5_tellArm cX5_tellArm 3 (some .int) 2 := ⟨zt_a5 104 rfl rfl, zt_a1 8 rfl rfl, by decide, by decide, by decide +kernel⟩
theorem mb_X5_isSafe : zMb yX5_isSafe cX5_isSafe 3 (some .boolean) 1 := ⟨zt_a5 6 rfl rfl, zt_a1 8 rfl rfl, by decide, by decide, by decide +kernel⟩
theorem mb_X5_turnOf : zMb yX5_turnOf cX5_turnOf 7 (some .int) 1 := ⟨zt_a4 216 rfl rfl, zt_a1 8 rfl rfl, by decide, by decide, by decide +kernel⟩
theorem mb_X6_init : zMb yX6_init cX6_init 1 none 0 := ⟨zt_a2 63 rfl rfl, zt_a1 9 rfl rfl, by decide, by decide, by decide +kernel⟩
theorem mb_X6_putFour : zMb yX6_putFour cX6_putFour 3 none 1 := ⟨zt_a3 93 rfl rfl, zt_a1 9 rfl rfl, by decide, by decide, by decide +kernel⟩
theorem mb_X6_rewind : zMb yX6_rewind cX6_rewind 1 none 0 := ⟨zt_a3 105 rfl rfl, zt_a1 9 rfl rfl, by decide, by decide, by decide +kernel⟩
theorem mb_X6_cut : zMb yX6_cut cX6_cut 5 none 1 := ⟨zt_a3 114 rfl rfl, zt_a1 9 rfl rfl, by decide, by decide, by decide +kernel⟩
theorem mb_X6_putToken : zMb yX6_putToken cX6_putToken 3 none 2 := ⟨zt_a3 177 rfl rfl, zt_a1 9 rfl rfl, by decide, by decide, by decide +kernel⟩
theorem mb_X6_isLetter : zMb yX6_isLetter cX6_isLetter 1 (some .boolean) 1 := ⟨zt_a3 117 rfl rfl, zt_a1 9 rfl rfl, by decide, by decide, by decide +kernel⟩
theorem mb_X6_isDigit : zMb yX6_isDigit cX6_isDigit 1 (some .boolean) 1 := ⟨zt_a3 180 rfl rfl, zt_a1 9 rfl rfl, by decide, by decide, by decide +kernel⟩
theorem mb_X6_numberAt : zMb yX6_numberAt cX6_numberAt 5 (some .int) 2 := ⟨zt_a3 184 rfl rfl, zt_a1 9 rfl rfl, by decide, by decide, by decide +kernel⟩
theorem mb_X6_wordAt : zMb yX6_wordAt cX6_wordAt 7 (some .int) 3 := ⟨zt_a3 121 rfl rfl, zt_a1 9 rfl rfl, by decide, by decide, by decide +kernel⟩
theorem mb_X6_isSame : zMb yX6_isSame cX6_isSame 7 (some .boolean) 4 := ⟨zt_a3 173 rfl rfl, zt_a1 9 rfl rfl, by decide, by decide, by decide +kernel⟩
theorem mb_X6_pass : zMb yX6_pass cX6_pass 1 none 0 := ⟨zt_a4 20 rfl rfl, zt_a1 9 rfl rfl, by decide, by decide, by decide +kernel⟩
theorem mb_X6_isNumber : zMb yX6_isNumber cX6_isNumber 1 (some .boolean) 0 := ⟨zt_a4 32 rfl rfl, zt_a1 9 rfl rfl, by decide, by decide, by decide +kernel⟩
theorem mb_X6_isWord : zMb yX6_isWord cX6_isWord 3 (some .boolean) 2 := ⟨zt_a4 8 rfl rfl, zt_a1 9 rfl rfl, by decide, by decide, by decide +kernel⟩
theorem mb_X6_refuse : zMb yX6_refuse cX6_refuse 2 (some .boolean) 1 := ⟨zt_a4 12 rfl rfl, zt_a1 9 rfl rfl, by decide, by decide, by decide +kernel⟩
theorem mb_X6_takes : zMb yX6_takes cX6_takes 2 (some .boolean) 1 := ⟨zt_a4 50 rfl rfl, zt_a1 9 rfl rfl, by decide, by decide, by decide +kernel⟩
theorem mb_X6_takesNumber : zMb yX6_takesNumber cX6_takesNumber 3 (some .boolean) 2 := ⟨zt_a4 73 rfl rfl, zt_a1 9 rfl rfl, by decide, by decide, by decide +kernel⟩
theorem mb_X6_opensLine : zMb yX6_opensLine cX6_opensLine 4 (some .boolean) 3 := ⟨zt_a4 4 rfl rfl, zt_a1 9 rfl rfl, by decide, by decide, by decide +kernel⟩
theorem mb_X7_init : zMb yX7_init cX7_init 2 none 1 := ⟨zt_a2 105 rfl rfl, zt_a1 10 rfl rfl, by decide, by decide, by decide +kernel⟩
theorem mb_X7_readLaw : zMb yX7_readLaw cX7_readLaw 3 (some .boolean) 1 := ⟨zt_a3 109 rfl rfl, zt_a1 10 rfl rfl, by decide, by decide, by decide +kernel⟩
theorem mb_X7_readLawLine : zMb yX7_readLawLine cX7_readLawLine 3 (some .boolean) 2 := ⟨zt_a4 16 rfl rfl, zt_a1 10 rfl rfl, by decide, by decide, by decide +kernel⟩
theorem mb_X7_readChoice : zMb yX7_readChoice cX7_readChoice 6 (some .boolean) 2 := ⟨zt_a4 42 rfl rfl, zt_a1 10 rfl rfl, by decide, by decide, by decide +kernel⟩
theorem mb_X7_readSingle : zMb yX7_readSingle cX7_readSingle 5 (some .boolean) 2 := ⟨zt_a4 46 rfl rfl, zt_a1 10 rfl rfl, by decide, by decide, by decide +kernel⟩
theorem mb_X7_readSum : zMb yX7_readSum cX7_readSum 6 (some .boolean) 1 := ⟨zt_a4 24 rfl rfl, zt_a1 10 rfl rfl, by decide, by decide, by decide +kernel⟩
theorem mb_X7_readOperand : zMb yX7_readOperand cX7_readOperand 4 (some .boolean) 2 := ⟨zt_a4 28 rfl rfl, zt_a1 10 rfl rfl, by decide, by decide, by decide +kernel⟩
theorem mb_X7_readBoats : zMb yX7_readBoats cX7_readBoats 3 (some .boolean) 1 := ⟨zt_a4 60 rfl rfl, zt_a1 10 rfl rfl, by decide, by decide, by decide +kernel⟩
theorem mb_X7_readBoat : zMb yX7_readBoat cX7_readBoat 3 (some .boolean) 2 := ⟨zt_a4 65 rfl rfl, zt_a1 10 rfl rfl, by decide, by decide, by decide +kernel⟩
theorem mb_X7_readDay : zMb yX7_readDay cX7_readDay 3 (some .boolean) 2 := ⟨zt_a4 69 rfl rfl, zt_a1 10 rfl rfl, by decide, by decide, by decide +kernel⟩
theorem mb_X7_readTown : zMb yX7_readTown cX7_readTown 4 (some .boolean) 2 := ⟨zt_a4 84 rfl rfl, zt_a1 10 rfl rfl, by decide, by decide, by decide +kernel⟩
theorem mb_X7_readDoing : zMb yX7_readDoing cX7_readDoing 5 (some .boolean) 3 := ⟨zt_a4 89 rfl rfl, zt_a1 10 rfl rfl, by decide, by decide, by decide +kernel⟩
theorem mb_X7_readAmount : zMb yX7_readAmount cX7_readAmount 3 (some .boolean) 2 := ⟨zt_a4 93 rfl rfl, zt_a1 10 rfl rfl, by decide, by decide, by decide +kernel⟩
theorem mb_X7_readKin : zMb yX7_readKin cX7_readKin 4 (some .boolean) 2 := ⟨zt_a4 97 rfl rfl, zt_a1 10 rfl rfl, by decide, by decide, by decide +kernel⟩
theorem mb_X7_readKinLine : zMb yX7_readKinLine cX7_readKinLine 4 (some .boolean) 2 := ⟨zt_a4 109 rfl rfl, zt_a1 10 rfl rfl, by decide, by decide, by decide +kernel⟩
theorem mb_X8_init : zMb yX8_init cX8_init 1 none 0 := ⟨zt_a2 115 rfl rfl, zt_a1 11 rfl rfl, by decide, by decide, by decide +kernel⟩
theorem mb_X8_strokesOver : zMb yX8_strokesOver cX8_strokesOver 5 (some .int) 2 := ⟨zt_a3 85 rfl rfl, zt_a1 11 rfl rfl, by decide, by decide, by decide +kernel⟩
theorem mb_X8_handsApart : zMb yX8_handsApart cX8_handsApart 2 (some .int) 1 := ⟨zt_a4 194 rfl rfl, zt_a1 11 rfl rfl, by decide, by decide, by decide +kernel⟩
theorem mb_X8_minutesApartBy : zMb yX8_minutesApartBy cX8_minutesApartBy 3 (some .int) 1 := ⟨zt_a4 198 rfl rfl, zt_a1 11 rfl rfl, by decide, by decide, by decide +kernel⟩
theorem mb_X8_commonPart : zMb yX8_commonPart cX8_commonPart 6 (some .int) 2 := ⟨zt_a4 222 rfl rfl, zt_a1 11 rfl rfl, by decide, by decide, by decide +kernel⟩
theorem mb_X8_fewestCrossings : zMb yX8_fewestCrossings cX8_fewestCrossings 15 (some .int) 3 := ⟨zt_a5 0 rfl rfl, zt_a1 11 rfl rfl, by decide, by decide, by decide +kernel⟩
theorem mb_X8_fewestTurnings : zMb yX8_fewestTurnings cX8_fewestTurnings 11 (some .int) 3 := ⟨zt_a5 14 rfl rfl, zt_a1 11 rfl rfl, by decide, by decide, by decide +kernel⟩
theorem mb_X8_turnInto : zMb yX8_turnInto cX8_turnInto 10 none 4 := ⟨zt_a5 19 rfl rfl, zt_a1 11 rfl rfl, by decide, by decide, by decide +kernel⟩
theorem mb_X8_waysToSit : zMb yX8_waysToSit cX8_waysToSit 6 (some .int) 4 := ⟨zt_a5 34 rfl rfl, zt_a1 11 rfl rfl, by decide, by decide, by decide +kernel⟩
theorem mb_X8_leastLean : zMb yX8_leastLean cX8_leastLean 8 (some .int) 5 := ⟨zt_a5 111 rfl rfl, zt_a1 11 rfl rfl, by decide, by decide, by decide +kernel⟩
theorem mb_X8_quotients : zMb yX8_quotients cX8_quotients 7 (some .int) 2 := ⟨zt_a5 42 rfl rfl, zt_a1 11 rfl rfl, by decide, by decide, by decide +kernel⟩
theorem mb_X8_partOf : zMb yX8_partOf cX8_partOf 15 (some .int) 4 := ⟨zt_a5 45 rfl rfl, zt_a1 11 rfl rfl, by decide, by decide, by decide +kernel⟩
theorem mb_X8_ringInOrder : zMb yX8_ringInOrder cX8_ringInOrder 3 none 1 := ⟨zt_a5 58 rfl rfl, zt_a1 11 rfl rfl, by decide, by decide, by decide +kernel⟩
theorem mb_X8_change : zMb yX8_change cX8_change 5 none 2 := ⟨zt_a5 62 rfl rfl, zt_a1 11 rfl rfl, by decide, by decide, by decide +kernel⟩
theorem mb_X8_isInOrder : zMb yX8_isInOrder cX8_isInOrder 3 (some .boolean) 1 := ⟨zt_a5 66 rfl rfl, zt_a1 11 rfl rfl, by decide, by decide, by decide +kernel⟩
theorem mb_X8_changesTillInOrder : zMb yX8_changesTillInOrder cX8_changesTillInOrder 3 (some .int) 1 := ⟨zt_a5 54 rfl rfl, zt_a1 11 rfl rfl, by decide, by decide, by decide +kernel⟩
theorem mb_X8_bellAt : zMb yX8_bellAt cX8_bellAt 6 (some .int) 3 := ⟨zt_a5 70 rfl rfl, zt_a1 11 rfl rfl, by decide, by decide, by decide +kernel⟩
theorem mb_X8_opponent : zMb yX8_opponent cX8_opponent 5 (some .int) 3 := ⟨zt_a5 77 rfl rfl, zt_a1 11 rfl rfl, by decide, by decide, by decide +kernel⟩
theorem mb_X8_meetsLast : zMb yX8_meetsLast cX8_meetsLast 3 (some .int) 2 := ⟨zt_a5 80 rfl rfl, zt_a1 11 rfl rfl, by decide, by decide, by decide +kernel⟩
theorem mb_X8_firstMeeting : zMb yX8_firstMeeting cX8_firstMeeting 7 (some .int) 4 := ⟨zt_a5 96 rfl rfl, zt_a1 11 rfl rfl, by decide, by decide, by decide +kernel⟩
theorem mb_X8_judgeHours : zMb yX8_judgeHours cX8_judgeHours 7 none 2 := ⟨zt_a5 122 rfl rfl, zt_a1 11 rfl rfl, by decide, by decide, by decide +kernel⟩
theorem mb_X8_bestFrom : zMb yX8_bestFrom cX8_bestFrom 6 (some .int) 3 := ⟨zt_a5 126 rfl rfl, zt_a1 11 rfl rfl, by decide, by decide, by decide +kernel⟩
theorem mb_X8_worthOfStep : zMb yX8_worthOfStep cX8_worthOfStep 5 (some .int) 3 := ⟨zt_a5 130 rfl rfl, zt_a1 11 rfl rfl, by decide, by decide, by decide +kernel⟩
theorem mb_X8_stepThatKeeps : zMb yX8_stepThatKeeps cX8_stepThatKeeps 5 (some .int) 3 := ⟨zt_a5 134 rfl rfl, zt_a1 11 rfl rfl, by decide, by decide, by decide +kernel⟩
theorem mb_X9_init : zMb yX9_init cX9_init 1 none 0 := ⟨zt_a1 34 rfl rfl, zt_a1 2 rfl rfl, by decide, by decide, by decide +kernel⟩
theorem mb_X9_copyFrom : zMb yX9_copyFrom cX9_copyFrom 2 none 1 := ⟨zt_a4 141 rfl rfl, zt_a1 2 rfl rfl, by decide, by decide, by decide +kernel⟩
theorem mb_X9_passDay : zMb yX9_passDay cX9_passDay 3 none 1 := ⟨zt_a3 39 rfl rfl, zt_a1 2 rfl rfl, by decide, by decide, by decide +kernel⟩
theorem mb_X9_happen : zMb yX9_happen cX9_happen 3 none 2 := ⟨zt_a3 43 rfl rfl, zt_a1 2 rfl rfl, by decide, by decide, by decide +kernel⟩
theorem mb_X9_sailOut : zMb yX9_sailOut cX9_sailOut 6 none 2 := ⟨zt_a3 57 rfl rfl, zt_a1 2 rfl rfl, by decide, by decide, by decide +kernel⟩
theorem mb_X9_sailBack : zMb yX9_sailBack cX9_sailBack 5 none 2 := ⟨zt_a3 77 rfl rfl, zt_a1 2 rfl rfl, by decide, by decide, by decide +kernel⟩
theorem mb_X9_isWilling : zMb yX9_isWilling cX9_isWilling 5 (some .boolean) 3 := ⟨zt_a3 62 rfl rfl, zt_a1 2 rfl rfl, by decide, by decide, by decide +kernel⟩
theorem mb_X9_goAboard : zMb yX9_goAboard cX9_goAboard 3 none 1 := ⟨zt_a2 232 rfl rfl, zt_a1 2 rfl rfl, by decide, by decide, by decide +kernel⟩
theorem mb_X9_comeBack : zMb yX9_comeBack cX9_comeBack 3 none 1 := ⟨zt_a3 31 rfl rfl, zt_a1 2 rfl rfl, by decide, by decide, by decide +kernel⟩
theorem mb_X9_runClock : zMb yX9_runClock cX9_runClock 3 none 0 := ⟨zt_a3 82 rfl rfl, zt_a1 2 rfl rfl, by decide, by decide, by decide +kernel⟩
theorem mb_X9_tells : zMb yX9_tells cX9_tells 6 (some .int) 2 := ⟨zt_a2 236 rfl rfl, zt_a1 2 rfl rfl, by decide, by decide, by decide +kernel⟩
theorem mb_X9_held : zMb yX9_held cX9_held 2 (some .int) 2 := ⟨zt_a3 23 rfl rfl, zt_a1 2 rfl rfl, by decide, by decide, by decide +kernel⟩
theorem mb_X9_valueOf : zMb yX9_valueOf cX9_valueOf 3 (some .int) 2 := ⟨zt_a3 4 rfl rfl, zt_a1 2 rfl rfl, by decide, by decide, by decide +kernel⟩
theorem mb_X10_init : zMb yX10_init cX10_init 2 none 0 := ⟨zt_a1 26 rfl rfl, zt_a1 1 rfl rfl, by decide, by decide, by decide +kernel⟩
theorem mb_X10_state : zMb yX10_state cX10_state 3 (some .int) 1 := ⟨zt_a2 174 rfl rfl, zt_a1 1 rfl rfl, by decide, by decide, by decide +kernel⟩
theorem mb_X10_islander : zMb yX10_islander cX10_islander 4 (some .int) 2 := ⟨zt_a2 182 rfl rfl, zt_a1 1 rfl rfl, by decide, by decide, by decide +kernel⟩
theorem mb_X10_set : zMb yX10_set cX10_set 5 (some .boolean) 3 := ⟨zt_a2 193 rfl rfl, zt_a1 1 rfl rfl, by decide, by decide, by decide +kernel⟩
theorem mb_X10_act : zMb yX10_act cX10_act 3 (some .boolean) 2 := ⟨zt_a2 205 rfl rfl, zt_a1 1 rfl rfl, by decide, by decide, by decide +kernel⟩
theorem mb_X10_days : zMb yX10_days cX10_days 4 (some .int) 1 := ⟨zt_a3 35 rfl rfl, zt_a1 1 rfl rfl, by decide, by decide, by decide +kernel⟩
theorem mb_X10_feed : zMb yX10_feed cX10_feed 6 (some .int) 5 := ⟨zt_a3 89 rfl rfl, zt_a1 1 rfl rfl, by decide, by decide, by decide +kernel⟩
theorem mb_X10_end : zMb yX10_end cX10_end 2 (some .boolean) 1 := ⟨zt_a3 97 rfl rfl, zt_a1 1 rfl rfl, by decide, by decide, by decide +kernel⟩
theorem mb_X10_text : zMb yX10_text cX10_text 4 (some .int) 1 := ⟨zt_a3 101 rfl rfl, zt_a1 1 rfl rfl, by decide, by decide, by decide +kernel⟩
theorem mb_X10_fault : zMb yX10_fault cX10_fault 2 (some .int) 1 := ⟨zt_a4 124 rfl rfl, zt_a1 1 rfl rfl, by decide, by decide, by decide +kernel⟩
theorem mb_X10_of : zMb yX10_of cX10_of 4 (some .int) 2 := ⟨zt_a4 128 rfl rfl, zt_a1 1 rfl rfl, by decide, by decide, by decide +kernel⟩
theorem mb_X10_book : zMb yX10_book cX10_book 4 (some .int) 2 := ⟨zt_a4 133 rfl rfl, zt_a1 1 rfl rfl, by decide, by decide, by decide +kernel⟩
theorem mb_X10_goes : zMb yX10_goes cX10_goes 4 (some .int) 2 := ⟨zt_a4 137 rfl rfl, zt_a1 1 rfl rfl, by decide, by decide, by decide +kernel⟩
theorem mb_X10_lonely : zMb yX10_lonely cX10_lonely 2 (some .int) 0 := ⟨zt_a4 160 rfl rfl, zt_a1 1 rfl rfl, by decide, by decide, by decide +kernel⟩
theorem mb_X10_must : zMb yX10_must cX10_must 4 (some .int) 2 := ⟨zt_a4 164 rfl rfl, zt_a1 1 rfl rfl, by decide, by decide, by decide +kernel⟩
theorem mb_X10_strokes : zMb yX10_strokes cX10_strokes 3 (some .int) 2 := ⟨zt_a4 186 rfl rfl, zt_a1 1 rfl rfl, by decide, by decide, by decide +kernel⟩
theorem mb_X10_hands : zMb yX10_hands cX10_hands 3 (some .int) 2 := ⟨zt_a4 191 rfl rfl, zt_a1 1 rfl rfl, by decide, by decide, by decide +kernel⟩
theorem mb_X10_wheel : zMb yX10_wheel cX10_wheel 3 (some .int) 2 := ⟨zt_a4 203 rfl rfl, zt_a1 1 rfl rfl, by decide, by decide, by decide +kernel⟩
theorem mb_X10_wheels : zMb yX10_wheels cX10_wheels 2 (some .int) 1 := ⟨zt_a4 212 rfl rfl, zt_a1 1 rfl rfl, by decide, by decide, by decide +kernel⟩
theorem mb_X10_couple : zMb yX10_couple cX10_couple 3 (some .int) 2 := ⟨zt_a4 228 rfl rfl, zt_a1 1 rfl rfl, by decide, by decide, by decide +kernel⟩
theorem mb_X10_ferry : zMb yX10_ferry cX10_ferry 3 (some .int) 2 := ⟨zt_a4 236 rfl rfl, zt_a1 1 rfl rfl, by decide, by decide, by decide +kernel⟩
theorem mb_X10_glasses : zMb yX10_glasses cX10_glasses 4 (some .int) 3 := ⟨zt_a5 10 rfl rfl, zt_a1 1 rfl rfl, by decide, by decide, by decide +kernel⟩
theorem mb_X10_seat : zMb yX10_seat cX10_seat 2 (some .int) 1 := ⟨zt_a5 23 rfl rfl, zt_a1 1 rfl rfl, by decide, by decide, by decide +kernel⟩
theorem mb_X10_level : zMb yX10_level cX10_level 1 (some .int) 0 := ⟨zt_a5 31 rfl rfl, zt_a1 1 rfl rfl, by decide, by decide, by decide +kernel⟩
theorem mb_X10_part : zMb yX10_part cX10_part 4 (some .int) 3 := ⟨zt_a5 39 rfl rfl, zt_a1 1 rfl rfl, by decide, by decide, by decide +kernel⟩
theorem mb_X10_bells : zMb yX10_bells cX10_bells 4 (some .int) 3 := ⟨zt_a5 49 rfl rfl, zt_a1 1 rfl rfl, by decide, by decide, by decide +kernel⟩
theorem mb_X10_against : zMb yX10_against cX10_against 4 (some .int) 3 := ⟨zt_a5 74 rfl rfl, zt_a1 1 rfl rfl, by decide, by decide, by decide +kernel⟩
theorem mb_X10_calendar : zMb yX10_calendar cX10_calendar 6 (some .int) 3 := ⟨zt_a5 85 rfl rfl, zt_a1 1 rfl rfl, by decide, by decide, by decide +kernel⟩
theorem mb_X10_rope : zMb yX10_rope cX10_rope 5 (some .int) 3 := ⟨zt_a5 89 rfl rfl, zt_a1 1 rfl rfl, by decide, by decide, by decide +kernel⟩
theorem mb_X10_meets : zMb yX10_meets cX10_meets 5 (some .int) 4 := ⟨zt_a5 93 rfl rfl, zt_a1 1 rfl rfl, by decide, by decide, by decide +kernel⟩
theorem mb_X10_arm : zMb yX10_arm cX10_arm 3 (some .int) 2 := ⟨zt_a5 100 rfl rfl, zt_a1 1 rfl rfl, by decide, by decide, by decide +kernel⟩
theorem mb_X10_hung : zMb yX10_hung cX10_hung 3 (some .int) 1 := ⟨zt_a5 108 rfl rfl, zt_a1 1 rfl rfl, by decide, by decide, by decide +kernel⟩
theorem mb_X10_game : zMb yX10_game cX10_game 5 (some .int) 4 := ⟨zt_a5 118 rfl rfl, zt_a1 1 rfl rfl, by decide, by decide, by decide +kernel⟩
theorem mb_X10_undo : zMb yX10_undo cX10_undo 1 (some .boolean) 0 := ⟨zt_a5 138 rfl rfl, zt_a1 1 rfl rfl, by decide, by decide, by decide +kernel⟩
theorem mb_X10_image : zMb yX10_image cX10_image 2 (some .boolean) 1 := ⟨zt_a5 142 rfl rfl, zt_a1 1 rfl rfl, by decide, by decide, by decide +kernel⟩
theorem mb_X10_look : zMb yX10_look cX10_look 3 (some .int) 1 := ⟨zt_a5 146 rfl rfl, zt_a1 1 rfl rfl, by decide, by decide, by decide +kernel⟩
theorem mb_X10_within : zMb yX10_within cX10_within 3 (some .boolean) 3 := ⟨zt_a2 185 rfl rfl, zt_a1 1 rfl rfl, by decide, by decide, by decide +kernel⟩
theorem mb_X10_canBeSet : zMb yX10_canBeSet cX10_canBeSet 4 (some .boolean) 3 := ⟨zt_a2 197 rfl rfl, zt_a1 1 rfl rfl, by decide, by decide, by decide +kernel⟩
theorem mb_X10_canAct : zMb yX10_canAct cX10_canAct 3 (some .boolean) 2 := ⟨zt_a2 209 rfl rfl, zt_a1 1 rfl rfl, by decide, by decide, by decide +kernel⟩
theorem mb_X10_forget : zMb yX10_forget cX10_forget 1 none 0 := ⟨zt_a2 178 rfl rfl, zt_a1 1 rfl rfl, by decide, by decide, by decide +kernel⟩
theorem mb_X10_remember : zMb yX10_remember cX10_remember 3 none 0 := ⟨zt_a2 221 rfl rfl, zt_a1 1 rfl rfl, by decide, by decide, by decide +kernel⟩
theorem mb_X10_fewestWinding : zMb yX10_fewestWinding cX10_fewestWinding 6 (some .int) 1 := ⟨zt_a4 168 rfl rfl, zt_a1 1 rfl rfl, by decide, by decide, by decide +kernel⟩
theorem mb_X10_addToSums : zMb yX10_addToSums cX10_addToSums 6 none 3 := ⟨zt_a4 181 rfl rfl, zt_a1 1 rfl rfl, by decide, by decide, by decide +kernel⟩
theorem mb_X11_init : zMb yX11_init cX11_init 1 none 0 := ⟨zt_a5 152 rfl rfl, zt_a1 12 rfl rfl, by decide, by decide, by decide +kernel⟩
theorem mb_X11_isIn : zMb yX11_isIn cX11_isIn 4 (some .boolean) 3 := ⟨zt_a6 117 rfl rfl, zt_a1 12 rfl rfl, by decide, by decide, by decide +kernel⟩
theorem mb_X11_held : zMb yX11_held cX11_held 4 (some .int) 3 := ⟨zt_a7 81 rfl rfl, zt_a1 12 rfl rfl, by decide, by decide, by decide +kernel⟩
theorem mb_X11_greater : zMb yX11_greater cX11_greater 3 (some .int) 2 := ⟨zt_a8 9 rfl rfl, zt_a1 12 rfl rfl, by decide, by decide, by decide +kernel⟩
theorem mb_X11_lesser : zMb yX11_lesser cX11_lesser 3 (some .int) 2 := ⟨zt_a7 167 rfl rfl, zt_a1 12 rfl rfl, by decide, by decide, by decide +kernel⟩
theorem mb_X11_plain : zMb yX11_plain cX11_plain 2 (some .int) 1 := ⟨zt_a7 163 rfl rfl, zt_a1 12 rfl rfl, by decide, by decide, by decide +kernel⟩
theorem mb_X11_common : zMb yX11_common cX11_common 6 (some .int) 2 := ⟨zt_a7 224 rfl rfl, zt_a1 12 rfl rfl, by decide, by decide, by decide +kernel⟩
theorem mb_X11_onesOf : zMb yX11_onesOf cX11_onesOf 4 (some .int) 1 := ⟨zt_a7 77 rfl rfl, zt_a1 12 rfl rfl, by decide, by decide, by decide +kernel⟩
theorem mb_X11_has : zMb yX11_has cX11_has 3 (some .boolean) 2 := ⟨zt_a7 89 rfl rfl, zt_a1 12 rfl rfl, by decide, by decide, by decide +kernel⟩
theorem mb_X11_keepsAhead : zMb yX11_keepsAhead cX11_keepsAhead 2 none 0 := ⟨zt_a7 57 rfl rfl, zt_a1 12 rfl rfl, by decide, by decide, by decide +kernel⟩
theorem mb_X11_undo : zMb yX11_undo cX11_undo 2 (some .boolean) 0 := ⟨zt_a6 105 rfl rfl, zt_a1 12 rfl rfl, by decide, by decide, by decide +kernel⟩
theorem mb_X11_thinks : zMb yX11_thinks cX11_thinks 2 none 0 := ⟨zt_a7 187 rfl rfl, zt_a1 12 rfl rfl, by decide, by decide, by decide +kernel⟩
theorem mb_X11_endsThought : zMb yX11_endsThought cX11_endsThought 2 none 0 := ⟨zt_a7 191 rfl rfl, zt_a1 12 rfl rfl, by decide, by decide, by decide +kernel⟩
theorem mb_X11_state : zMb yX11_state cX11_state 3 (some .int) 1 := ⟨zt_a6 109 rfl rfl, zt_a1 12 rfl rfl, by decide, by decide, by decide +kernel⟩
theorem mb_X11_draw : zMb yX11_draw cX11_draw 2 (some .int) 1 := ⟨zt_a7 145 rfl rfl, zt_a1 12 rfl rfl, by decide, by decide, by decide +kernel⟩
theorem mb_X11_isIslander : zMb yX11_isIslander cX11_isIslander 2 (some .boolean) 1 := ⟨zt_a6 129 rfl rfl, zt_a1 12 rfl rfl, by decide, by decide, by decide +kernel⟩
theorem mb_X11_isHere : zMb yX11_isHere cX11_isHere 2 (some .boolean) 1 := ⟨zt_a7 53 rfl rfl, zt_a1 12 rfl rfl, by decide, by decide, by decide +kernel⟩
theorem mb_X11_hereSet : zMb yX11_hereSet cX11_hereSet 3 (some .int) 0 := ⟨zt_a7 73 rfl rfl, zt_a1 12 rfl rfl, by decide, by decide, by decide +kernel⟩
theorem mb_X11_islander : zMb yX11_islander cX11_islander 3 (some .int) 2 := ⟨zt_a6 113 rfl rfl, zt_a1 12 rfl rfl, by decide, by decide, by decide +kernel⟩
theorem mb_X11_canSet : zMb yX11_canSet cX11_canSet 4 (some .boolean) 3 := ⟨zt_a6 125 rfl rfl, zt_a1 12 rfl rfl, by decide, by decide, by decide +kernel⟩
theorem mb_X11_set : zMb yX11_set cX11_set 4 (some .boolean) 3 := ⟨zt_a6 121 rfl rfl, zt_a1 12 rfl rfl, by decide, by decide, by decide +kernel⟩
theorem mb_X11_types : zMb yX11_types cX11_types 3 none 1 := ⟨zt_a6 137 rfl rfl, zt_a1 12 rfl rfl, by decide, by decide, by decide +kernel⟩
theorem mb_X11_feed : zMb yX11_feed cX11_feed 6 (some .int) 5 := ⟨zt_a6 133 rfl rfl, zt_a1 12 rfl rfl, by decide, by decide, by decide +kernel⟩
theorem mb_X11_end : zMb yX11_end cX11_end 2 (some .boolean) 1 := ⟨zt_a6 141 rfl rfl, zt_a1 12 rfl rfl, by decide, by decide, by decide +kernel⟩
theorem mb_X11_raw : zMb yX11_raw cX11_raw 2 (some .int) 1 := ⟨zt_a6 157 rfl rfl, zt_a1 12 rfl rfl, by decide, by decide, by decide +kernel⟩
theorem mb_X11_isLetter : zMb yX11_isLetter cX11_isLetter 2 (some .boolean) 1 := ⟨zt_a6 161 rfl rfl, zt_a1 12 rfl rfl, by decide, by decide, by decide +kernel⟩
theorem mb_X11_isDigit : zMb yX11_isDigit cX11_isDigit 2 (some .boolean) 1 := ⟨zt_a6 169 rfl rfl, zt_a1 12 rfl rfl, by decide, by decide, by decide +kernel⟩
theorem mb_X11_isMarkSign : zMb yX11_isMarkSign cX11_isMarkSign 2 (some .boolean) 1 := ⟨zt_a6 173 rfl rfl, zt_a1 12 rfl rfl, by decide, by decide, by decide +kernel⟩
theorem mb_X11_wordAt : zMb yX11_wordAt cX11_wordAt 6 (some .int) 2 := ⟨zt_a6 165 rfl rfl, zt_a1 12 rfl rfl, by decide, by decide, by decide +kernel⟩
theorem mb_X11_reads : zMb yX11_reads cX11_reads 2 none 0 := ⟨zt_a6 153 rfl rfl, zt_a1 12 rfl rfl, by decide, by decide, by decide +kernel⟩
theorem mb_X11_errs : zMb yX11_errs cX11_errs 2 (some .int) 1 := ⟨zt_a6 185 rfl rfl, zt_a1 12 rfl rfl, by decide, by decide, by decide +kernel⟩
theorem mb_X11_isWord : zMb yX11_isWord cX11_isWord 2 (some .boolean) 1 := ⟨zt_a6 181 rfl rfl, zt_a1 12 rfl rfl, by decide, by decide, by decide +kernel⟩
theorem mb_X11_isSign : zMb yX11_isSign cX11_isSign 2 (some .boolean) 1 := ⟨zt_a6 205 rfl rfl, zt_a1 12 rfl rfl, by decide, by decide, by decide +kernel⟩
theorem mb_X11_emits : zMb yX11_emits cX11_emits 3 none 2 := ⟨zt_a7 13 rfl rfl, zt_a1 12 rfl rfl, by decide, by decide, by decide +kernel⟩
theorem mb_X11_canAsk : zMb yX11_canAsk cX11_canAsk 2 (some .boolean) 1 := ⟨zt_a7 9 rfl rfl, zt_a1 12 rfl rfl, by decide, by decide, by decide +kernel⟩
theorem mb_X11_readUnit : zMb yX11_readUnit cX11_readUnit 2 (some .int) 0 := ⟨zt_a7 5 rfl rfl, zt_a1 12 rfl rfl, by decide, by decide, by decide +kernel⟩
theorem mb_X11_readProduct : zMb yX11_readProduct cX11_readProduct 2 (some .int) 0 := ⟨zt_a7 1 rfl rfl, zt_a1 12 rfl rfl, by decide, by decide, by decide +kernel⟩
theorem mb_X11_readSum : zMb yX11_readSum cX11_readSum 2 (some .int) 0 := ⟨zt_a6 237 rfl rfl, zt_a1 12 rfl rfl, by decide, by decide, by decide +kernel⟩
theorem mb_X11_readCompared : zMb yX11_readCompared cX11_readCompared 2 (some .int) 0 := ⟨zt_a7 25 rfl rfl, zt_a1 12 rfl rfl, by decide, by decide, by decide +kernel⟩
theorem mb_X11_waits : zMb yX11_waits cX11_waits 2 none 1 := ⟨zt_a7 21 rfl rfl, zt_a1 12 rfl rfl, by decide, by decide, by decide +kernel⟩
theorem mb_X11_settles : zMb yX11_settles cX11_settles 2 none 1 := ⟨zt_a7 29 rfl rfl, zt_a1 12 rfl rfl, by decide, by decide, by decide +kernel⟩
theorem mb_X11_readAny : zMb yX11_readAny cX11_readAny 4 (some .int) 0 := ⟨zt_a7 17 rfl rfl, zt_a1 12 rfl rfl, by decide, by decide, by decide +kernel⟩
theorem mb_X11_isLineWord : zMb yX11_isLineWord cX11_isLineWord 1 (some .boolean) 0 := ⟨zt_a6 233 rfl rfl, zt_a1 12 rfl rfl, by decide, by decide, by decide +kernel⟩
theorem mb_X11_readLaw : zMb yX11_readLaw cX11_readLaw 3 (some .int) 0 := ⟨zt_a6 229 rfl rfl, zt_a1 12 rfl rfl, by decide, by decide, by decide +kernel⟩
theorem mb_X11_takesLaw : zMb yX11_takesLaw cX11_takesLaw 3 none 1 := ⟨zt_a7 33 rfl rfl, zt_a1 12 rfl rfl, by decide, by decide, by decide +kernel⟩
theorem mb_X11_readNumber : zMb yX11_readNumber cX11_readNumber 4 (some .int) 2 := ⟨zt_a6 197 rfl rfl, zt_a1 12 rfl rfl, by decide, by decide, by decide +kernel⟩
theorem mb_X11_readMark : zMb yX11_readMark cX11_readMark 2 (some .int) 1 := ⟨zt_a6 201 rfl rfl, zt_a1 12 rfl rfl, by decide, by decide, by decide +kernel⟩
theorem mb_X11_readTold : zMb yX11_readTold cX11_readTold 4 (some .int) 3 := ⟨zt_a6 193 rfl rfl, zt_a1 12 rfl rfl, by decide, by decide, by decide +kernel⟩
theorem mb_X11_readBoat : zMb yX11_readBoat cX11_readBoat 2 (some .int) 1 := ⟨zt_a6 189 rfl rfl, zt_a1 12 rfl rfl, by decide, by decide, by decide +kernel⟩
theorem mb_X11_readBoats : zMb yX11_readBoats cX11_readBoats 2 (some .int) 0 := ⟨zt_a6 177 rfl rfl, zt_a1 12 rfl rfl, by decide, by decide, by decide +kernel⟩
theorem mb_X11_kindOfDeed : zMb yX11_kindOfDeed cX11_kindOfDeed 1 (some .int) 0 := ⟨zt_a6 217 rfl rfl, zt_a1 12 rfl rfl, by decide, by decide, by decide +kernel⟩
theorem mb_X11_readDeed : zMb yX11_readDeed cX11_readDeed 3 (some .int) 1 := ⟨zt_a6 213 rfl rfl, zt_a1 12 rfl rfl, by decide, by decide, by decide +kernel⟩
theorem mb_X11_readTown : zMb yX11_readTown cX11_readTown 2 (some .int) 0 := ⟨zt_a6 209 rfl rfl, zt_a1 12 rfl rfl, by decide, by decide, by decide +kernel⟩
theorem mb_X11_readKin : zMb yX11_readKin cX11_readKin 3 (some .int) 0 := ⟨zt_a6 225 rfl rfl, zt_a1 12 rfl rfl, by decide, by decide, by decide +kernel⟩
theorem mb_X11_readAllKin : zMb yX11_readAllKin cX11_readAllKin 2 (some .int) 0 := ⟨zt_a6 221 rfl rfl, zt_a1 12 rfl rfl, by decide, by decide, by decide +kernel⟩
theorem mb_X11_readsText : zMb yX11_readsText cX11_readsText 2 (some .int) 1 := ⟨zt_a6 149 rfl rfl, zt_a1 12 rfl rfl, by decide, by decide, by decide +kernel⟩
theorem mb_X11_takesOther : zMb yX11_takesOther cX11_takesOther 4 none 2 := ⟨zt_a7 37 rfl rfl, zt_a1 12 rfl rfl, by decide, by decide, by decide +kernel⟩
theorem mb_X11_text : zMb yX11_text cX11_text 3 (some .int) 1 := ⟨zt_a6 145 rfl rfl, zt_a1 12 rfl rfl, by decide, by decide, by decide +kernel⟩
theorem mb_X11_fault : zMb yX11_fault cX11_fault 2 (some .int) 1 := ⟨zt_a7 41 rfl rfl, zt_a1 12 rfl rfl, by decide, by decide, by decide +kernel⟩
theorem mb_X11_twoOf : zMb yX11_twoOf cX11_twoOf 4 (some .int) 3 := ⟨zt_a7 105 rfl rfl, zt_a1 12 rfl rfl, by decide, by decide, by decide +kernel⟩
theorem mb_X11_runs : zMb yX11_runs cX11_runs 6 (some .int) 3 := ⟨zt_a7 101 rfl rfl, zt_a1 12 rfl rfl, by decide, by decide, by decide +kernel⟩
theorem mb_X11_lineOf : zMb yX11_lineOf cX11_lineOf 3 (some .int) 1 := ⟨zt_a7 97 rfl rfl, zt_a1 12 rfl rfl, by decide, by decide, by decide +kernel⟩
theorem mb_X11_kinApart : zMb yX11_kinApart cX11_kinApart 4 (some .int) 1 := ⟨zt_a7 85 rfl rfl, zt_a1 12 rfl rfl, by decide, by decide, by decide +kernel⟩
theorem mb_X11_asks : zMb yX11_asks cX11_asks 2 none 1 := ⟨zt_a7 69 rfl rfl, zt_a1 12 rfl rfl, by decide, by decide, by decide +kernel⟩
theorem mb_X11_lawTells : zMb yX11_lawTells cX11_lawTells 5 (some .int) 3 := ⟨zt_a7 93 rfl rfl, zt_a1 12 rfl rfl, by decide, by decide, by decide +kernel⟩
theorem mb_X11_leavesOf : zMb yX11_leavesOf cX11_leavesOf 2 (some .int) 1 := ⟨zt_a7 137 rfl rfl, zt_a1 12 rfl rfl, by decide, by decide, by decide +kernel⟩
theorem mb_X11_windsOf : zMb yX11_windsOf cX11_windsOf 2 (some .int) 1 := ⟨zt_a7 65 rfl rfl, zt_a1 12 rfl rfl, by decide, by decide, by decide +kernel⟩
theorem mb_X11_returnsOf : zMb yX11_returnsOf cX11_returnsOf 2 (some .int) 1 := ⟨zt_a7 155 rfl rfl, zt_a1 12 rfl rfl, by decide, by decide, by decide +kernel⟩
theorem mb_X11_notes : zMb yX11_notes cX11_notes 5 none 3 := ⟨zt_a7 109 rfl rfl, zt_a1 12 rfl rfl, by decide, by decide, by decide +kernel⟩
theorem mb_X11_goesAboard : zMb yX11_goesAboard cX11_goesAboard 3 none 1 := ⟨zt_a7 61 rfl rfl, zt_a1 12 rfl rfl, by decide, by decide, by decide +kernel⟩
theorem mb_X11_comesBack : zMb yX11_comesBack cX11_comesBack 3 none 1 := ⟨zt_a7 113 rfl rfl, zt_a1 12 rfl rfl, by decide, by decide, by decide +kernel⟩
theorem mb_X11_canAct : zMb yX11_canAct cX11_canAct 3 (some .boolean) 2 := ⟨zt_a7 49 rfl rfl, zt_a1 12 rfl rfl, by decide, by decide, by decide +kernel⟩
theorem mb_X11_act : zMb yX11_act cX11_act 3 (some .boolean) 2 := ⟨zt_a7 45 rfl rfl, zt_a1 12 rfl rfl, by decide, by decide, by decide +kernel⟩
theorem mb_X11_happens : zMb yX11_happens cX11_happens 2 (some .boolean) 1 := ⟨zt_a7 141 rfl rfl, zt_a1 12 rfl rfl, by decide, by decide, by decide +kernel⟩
theorem mb_X11_isPushed : zMb yX11_isPushed cX11_isPushed 2 none 1 := ⟨zt_a7 129 rfl rfl, zt_a1 12 rfl rfl, by decide, by decide, by decide +kernel⟩
theorem mb_X11_does : zMb yX11_does cX11_does 4 none 1 := ⟨zt_a7 125 rfl rfl, zt_a1 12 rfl rfl, by decide, by decide, by decide +kernel⟩
theorem mb_X11_goesOut : zMb yX11_goesOut cX11_goesOut 5 none 1 := ⟨zt_a7 133 rfl rfl, zt_a1 12 rfl rfl, by decide, by decide, by decide +kernel⟩
theorem mb_X11_bringsBack : zMb yX11_bringsBack cX11_bringsBack 4 none 1 := ⟨zt_a7 151 rfl rfl, zt_a1 12 rfl rfl, by decide, by decide, by decide +kernel⟩
theorem mb_X11_strokesAt : zMb yX11_strokesAt cX11_strokesAt 2 (some .int) 1 := ⟨zt_a7 171 rfl rfl, zt_a1 12 rfl rfl, by decide, by decide, by decide +kernel⟩
theorem mb_X11_clockRuns : zMb yX11_clockRuns cX11_clockRuns 6 (some .int) 0 := ⟨zt_a7 159 rfl rfl, zt_a1 12 rfl rfl, by decide, by decide, by decide +kernel⟩
theorem mb_X11_goesBy : zMb yX11_goesBy cX11_goesBy 2 (some .int) 0 := ⟨zt_a7 121 rfl rfl, zt_a1 12 rfl rfl, by decide, by decide, by decide +kernel⟩
theorem mb_X11_days : zMb yX11_days cX11_days 4 (some .int) 1 := ⟨zt_a7 117 rfl rfl, zt_a1 12 rfl rfl, by decide, by decide, by decide +kernel⟩
theorem mb_X11_of : zMb yX11_of cX11_of 3 (some .int) 2 := ⟨zt_a7 175 rfl rfl, zt_a1 12 rfl rfl, by decide, by decide, by decide +kernel⟩
theorem mb_X11_book : zMb yX11_book cX11_book 3 (some .int) 2 := ⟨zt_a7 179 rfl rfl, zt_a1 12 rfl rfl, by decide, by decide, by decide +kernel⟩
theorem mb_X11_goes : zMb yX11_goes cX11_goes 4 (some .int) 2 := ⟨zt_a7 183 rfl rfl, zt_a1 12 rfl rfl, by decide, by decide, by decide +kernel⟩
theorem mb_X11_lonely : zMb yX11_lonely cX11_lonely 2 (some .int) 0 := ⟨zt_a7 195 rfl rfl, zt_a1 12 rfl rfl, by decide, by decide, by decide +kernel⟩
theorem mb_X11_must : zMb yX11_must cX11_must 8 (some .int) 2 := ⟨zt_a7 199 rfl rfl, zt_a1 12 rfl rfl, by decide, by decide, by decide +kernel⟩
theorem mb_X11_strokes : zMb yX11_strokes cX11_strokes 5 (some .int) 2 := ⟨zt_a7 203 rfl rfl, zt_a1 12 rfl rfl, by decide, by decide, by decide +kernel⟩
theorem mb_X11_handsAt : zMb yX11_handsAt cX11_handsAt 2 (some .int) 1 := ⟨zt_a7 211 rfl rfl, zt_a1 12 rfl rfl, by decide, by decide, by decide +kernel⟩
theorem mb_X11_hands : zMb yX11_hands cX11_hands 5 (some .int) 2 := ⟨zt_a7 207 rfl rfl, zt_a1 12 rfl rfl, by decide, by decide, by decide +kernel⟩
theorem mb_X11_wheel : zMb yX11_wheel cX11_wheel 3 (some .int) 2 := ⟨zt_a7 215 rfl rfl, zt_a1 12 rfl rfl, by decide, by decide, by decide +kernel⟩
theorem mb_X11_wheels : zMb yX11_wheels cX11_wheels 8 (some .int) 1 := ⟨zt_a7 219 rfl rfl, zt_a1 12 rfl rfl, by decide, by decide, by decide +kernel⟩
theorem mb_X11_couple : zMb yX11_couple cX11_couple 4 (some .int) 2 := ⟨zt_a7 228 rfl rfl, zt_a1 12 rfl rfl, by decide, by decide, by decide +kernel⟩
theorem mb_X11_isPeace : zMb yX11_isPeace cX11_isPeace 3 (some .boolean) 1 := ⟨zt_a7 237 rfl rfl, zt_a1 12 rfl rfl, by decide, by decide, by decide +kernel⟩
theorem mb_X11_ferry : zMb yX11_ferry cX11_ferry 10 (some .int) 2 := ⟨zt_a7 232 rfl rfl, zt_a1 12 rfl rfl, by decide, by decide, by decide +kernel⟩
theorem mb_X11_glassAt : zMb yX11_glassAt cX11_glassAt 4 (some .int) 3 := ⟨zt_a8 5 rfl rfl, zt_a1 12 rfl rfl, by decide, by decide, by decide +kernel⟩
theorem mb_X11_turns : zMb yX11_turns cX11_turns 5 none 4 := ⟨zt_a8 13 rfl rfl, zt_a1 12 rfl rfl, by decide, by decide, by decide +kernel⟩
theorem mb_X11_glasses : zMb yX11_glasses cX11_glasses 12 (some .int) 3 := ⟨zt_a8 1 rfl rfl, zt_a1 12 rfl rfl, by decide, by decide, by decide +kernel⟩
theorem mb_X11_seat : zMb yX11_seat cX11_seat 2 (some .int) 1 := ⟨zt_a8 17 rfl rfl, zt_a1 12 rfl rfl, by decide, by decide, by decide +kernel⟩
theorem mb_X11_isLevel : zMb yX11_isLevel cX11_isLevel 6 (some .boolean) 1 := ⟨zt_a8 25 rfl rfl, zt_a1 12 rfl rfl, by decide, by decide, by decide +kernel⟩
theorem mb_X11_level : zMb yX11_level cX11_level 4 (some .int) 0 := ⟨zt_a8 21 rfl rfl, zt_a1 12 rfl rfl, by decide, by decide, by decide +kernel⟩
theorem mb_X11_findsQuotients : zMb yX11_findsQuotients cX11_findsQuotients 7 (some .int) 2 := ⟨zt_a8 33 rfl rfl, zt_a1 12 rfl rfl, by decide, by decide, by decide +kernel⟩
theorem mb_X11_part : zMb yX11_part cX11_part 10 (some .int) 3 := ⟨zt_a8 29 rfl rfl, zt_a1 12 rfl rfl, by decide, by decide, by decide +kernel⟩
theorem mb_X11_changes : zMb yX11_changes cX11_changes 5 none 2 := ⟨zt_a8 45 rfl rfl, zt_a1 12 rfl rfl, by decide, by decide, by decide +kernel⟩
theorem mb_X11_areInOrder : zMb yX11_areInOrder cX11_areInOrder 3 (some .boolean) 1 := ⟨zt_a8 49 rfl rfl, zt_a1 12 rfl rfl, by decide, by decide, by decide +kernel⟩
theorem mb_X11_againAt : zMb yX11_againAt cX11_againAt 3 (some .int) 1 := ⟨zt_a8 41 rfl rfl, zt_a1 12 rfl rfl, by decide, by decide, by decide +kernel⟩
theorem mb_X11_bells : zMb yX11_bells cX11_bells 6 (some .int) 3 := ⟨zt_a8 37 rfl rfl, zt_a1 12 rfl rfl, by decide, by decide, by decide +kernel⟩
theorem mb_X11_against : zMb yX11_against cX11_against 7 (some .int) 3 := ⟨zt_a8 54 rfl rfl, zt_a1 12 rfl rfl, by decide, by decide, by decide +kernel⟩
theorem mb_X11_calendar : zMb yX11_calendar cX11_calendar 6 (some .int) 3 := ⟨zt_a8 58 rfl rfl, zt_a1 12 rfl rfl, by decide, by decide, by decide +kernel⟩
theorem mb_X11_rope : zMb yX11_rope cX11_rope 4 (some .int) 3 := ⟨zt_a8 63 rfl rfl, zt_a1 12 rfl rfl, by decide, by decide, by decide +kernel⟩
theorem mb_X11_meets : zMb yX11_meets cX11_meets 7 (some .int) 4 := ⟨zt_a8 67 rfl rfl, zt_a1 12 rfl rfl, by decide, by decide, by decide +kernel⟩
theorem mb_X11_arm : zMb yX11_arm cX11_arm 3 (some .int) 2 := ⟨zt_a8 71 rfl rfl, zt_a1 12 rfl rfl, by decide, by decide, by decide +kernel⟩
theorem mb_X11_goesToNextOrder : zMb yX11_goesToNextOrder cX11_goesToNextOrder 6 (some .boolean) 0 := ⟨zt_a8 79 rfl rfl, zt_a1 12 rfl rfl, by decide, by decide, by decide +kernel⟩
theorem mb_X11_hung : zMb yX11_hung cX11_hung 8 (some .int) 1 := ⟨zt_a8 75 rfl rfl, zt_a1 12 rfl rfl, by decide, by decide, by decide +kernel⟩
theorem mb_X11_leadsTo : zMb yX11_leadsTo cX11_leadsTo 4 (some .int) 3 := ⟨zt_a8 91 rfl rfl, zt_a1 12 rfl rfl, by decide, by decide, by decide +kernel⟩
theorem mb_X11_endOf : zMb yX11_endOf cX11_endOf 7 (some .int) 3 := ⟨zt_a8 87 rfl rfl, zt_a1 12 rfl rfl, by decide, by decide, by decide +kernel⟩
theorem mb_X11_keepsSo : zMb yX11_keepsSo cX11_keepsSo 6 (some .boolean) 4 := ⟨zt_a8 95 rfl rfl, zt_a1 12 rfl rfl, by decide, by decide, by decide +kernel⟩
theorem mb_X11_game : zMb yX11_game cX11_game 7 (some .int) 4 := ⟨zt_a8 83 rfl rfl, zt_a1 12 rfl rfl, by decide, by decide, by decide +kernel⟩
theorem mb_X11_keeps : zMb yX11_keeps cX11_keeps 2 (some .int) 1 := ⟨zt_a8 103 rfl rfl, zt_a1 12 rfl rfl, by decide, by decide, by decide +kernel⟩
theorem mb_X11_keepsLaw : zMb yX11_keepsLaw cX11_keepsLaw 2 none 0 := ⟨zt_a8 111 rfl rfl, zt_a1 12 rfl rfl, by decide, by decide, by decide +kernel⟩
theorem mb_X11_keepsTold : zMb yX11_keepsTold cX11_keepsTold 2 none 0 := ⟨zt_a8 107 rfl rfl, zt_a1 12 rfl rfl, by decide, by decide, by decide +kernel⟩
theorem mb_X11_image : zMb yX11_image cX11_image 3 (some .boolean) 1 := ⟨zt_a8 99 rfl rfl, zt_a1 12 rfl rfl, by decide, by decide, by decide +kernel⟩
theorem mb_X11_look : zMb yX11_look cX11_look 2 (some .int) 1 := ⟨zt_a8 115 rfl rfl, zt_a1 12 rfl rfl, by decide, by decide, by decide +kernel⟩
theorem mb_J6_bitCount_0f7a4 : zMb yJ6_bitCount_0f7a4 cJ6_bitCount_0f7a4 1 (some .int) 1 := ⟨zt_a3 7 rfl rfl, zt_a1 14 rfl rfl, by decide, by decide, by decide +kernel⟩
theorem mb_J9_floorDiv_7cf53 : zMb yJ9_floorDiv_7cf53 cJ9_floorDiv_7cf53 3 (some .int) 2 := ⟨zt_a3 50 rfl rfl, zt_a1 15 rfl rfl, by decide, by decide, by decide +kernel⟩
theorem mb_J9_floorMod_7cf53 : zMb yJ9_floorMod_7cf53 cJ9_floorMod_7cf53 3 (some .int) 2 := ⟨zt_a3 53 rfl rfl, zt_a1 15 rfl rfl, by decide, by decide, by decide +kernel⟩
theorem mb_J0_length_8abf5 : zMb yJ0_length_8abf5 cJ0_length_8abf5 1 (some .int) 0 := ⟨zt_a3 125 rfl rfl, zt_a1 16 rfl rfl, by decide, by decide, by decide +kernel⟩
theorem mb_J0_charAt_5068e : zMb yJ0_charAt_5068e cJ0_charAt_5068e 2 (some .char) 1 := ⟨zt_a3 135 rfl rfl, zt_a1 16 rfl rfl, by decide, by decide, by decide +kernel⟩
theorem mb_J0_indexOf_0f7a4 : zMb yJ0_indexOf_0f7a4 cJ0_indexOf_0f7a4 2 (some .int) 1 := ⟨zt_a3 189 rfl rfl, zt_a1 16 rfl rfl, by decide, by decide, by decide +kernel⟩
theorem mb_J0_indexOf_7cf53 : zMb yJ0_indexOf_7cf53 cJ0_indexOf_7cf53 3 (some .int) 2 := ⟨zt_a3 193 rfl rfl, zt_a1 16 rfl rfl, by decide, by decide, by decide +kernel⟩
theorem mb_J0_coder_7d493 : zMb yJ0_coder_7d493 cJ0_coder_7d493 1 (some .byte) 0 := ⟨zt_a3 129 rfl rfl, zt_a1 16 rfl rfl, by decide, by decide, by decide +kernel⟩
theorem mb_J0_isLatin1_aae02 : zMb yJ0_isLatin1_aae02 cJ0_isLatin1_aae02 1 (some .boolean) 0 := ⟨zt_a3 139 rfl rfl, zt_a1 16 rfl rfl, by decide, by decide, by decide +kernel⟩
theorem mb_J0_checkIndex_df160 : zMb yJ0_checkIndex_df160 cJ0_checkIndex_df160 2 none 2 := ⟨zt_a3 145 rfl rfl, zt_a1 16 rfl rfl, by decide, by decide, by decide +kernel⟩
theorem mb_J1_charAt_3b067 : zMb yJ1_charAt_3b067 cJ1_charAt_3b067 2 (some .char) 2 := ⟨zt_a3 142 rfl rfl, zt_a1 17 rfl rfl, by decide, by decide, by decide +kernel⟩
theorem mb_J1_canEncode_9a6ad : zMb yJ1_canEncode_9a6ad cJ1_canEncode_9a6ad 1 (some .boolean) 1 := ⟨zt_a3 200 rfl rfl, zt_a1 17 rfl rfl, by decide, by decide, by decide +kernel⟩
theorem mb_J1_indexOf_4cfef : zMb yJ1_indexOf_4cfef cJ1_indexOf_4cfef 4 (some .int) 4 := ⟨zt_a3 197 rfl rfl, zt_a1 17 rfl rfl, by decide, by decide, by decide +kernel⟩
theorem mb_J1_indexOfChar_4cfef : zMb yJ1_indexOfChar_4cfef cJ1_indexOfChar_4cfef 6 (some .int) 4 := ⟨zt_a3 205 rfl rfl, zt_a1 17 rfl rfl, by decide, by decide, by decide +kernel⟩
theorem mb_J7_rangeCheck_23922 : zMb yJ7_rangeCheck_23922 cJ7_rangeCheck_23922 3 none 3 := ⟨zt_a4 175 rfl rfl, zt_a1 21 rfl rfl, by decide, by decide, by decide +kernel⟩
theorem mb_J7_fill_53178 : zMb yJ7_fill_53178 cJ7_fill_53178 4 none 2 := ⟨zt_a4 105 rfl rfl, zt_a1 21 rfl rfl, by decide, by decide, by decide +kernel⟩
theorem mb_J7_fill_fda19 : zMb yJ7_fill_fda19 cJ7_fill_fda19 5 none 4 := ⟨zt_a4 172 rfl rfl, zt_a1 21 rfl rfl, by decide, by decide, by decide +kernel⟩
theorem mb_J3_checkIndex_8e157 : zMb yJ3_checkIndex_8e157 cJ3_checkIndex_8e157 3 (some .int) 3 := ⟨zt_a3 150 rfl rfl, zt_a1 18 rfl rfl, by decide, by decide, by decide +kernel⟩
theorem mi_RL_9 : zMI RL 9 yX10_init := ⟨zt_a1 25 rfl rfl, rfl, Or.inl (zt_a1 24 rfl rfl)⟩
theorem mi_RX10_31 : zMI RX10 31 yX7_init := ⟨zt_a2 104 rfl rfl, rfl, Or.inl (zt_a2 103 rfl rfl)⟩
theorem mv_RL_13 : zMV RL 13 yX10_state.cls yX10_state := ⟨zt_a2 171 rfl rfl, zt_a2 172 rfl rfl, zt_a2 173 rfl rfl⟩
theorem mv_RX10_74 : zMV RX10 74 yX10_forget.cls yX10_forget := ⟨zt_a2 175 rfl rfl, zt_a2 177 rfl rfl, zt_sel (n := 11) 0 (by decide +kernel)⟩
theorem mv_RL_18 : zMV RL 18 yX10_islander.cls yX10_islander := ⟨zt_a2 179 rfl rfl, zt_a2 180 rfl rfl, zt_a2 181 rfl rfl⟩
theorem ms_RX10_77 : zMS RX10 77 yX10_within := ⟨zt_a2 184 rfl rfl, Or.inl (zt_a2 183 rfl rfl)⟩
theorem mv_RX10_84 : zMV RX10 84 yX1_comes.cls yX1_comes := ⟨zt_a2 186 rfl rfl, zt_a2 187 rfl rfl, zt_a2 188 rfl rfl⟩
theorem mv_RL_23 : zMV RL 23 yX10_set.cls yX10_set := ⟨zt_a2 190 rfl rfl, zt_a2 191 rfl rfl, zt_a2 192 rfl rfl⟩
theorem mv_RX10_88 : zMV RX10 88 yX10_canBeSet.cls yX10_canBeSet := ⟨zt_a2 194 rfl rfl, zt_a2 196 rfl rfl, zt_sel (n := 11) 1 (by decide +kernel)⟩
theorem mv_RX10_106 : zMV RX10 106 yX1_knows.cls yX1_knows := ⟨zt_a2 198 rfl rfl, zt_a2 199 rfl rfl, zt_a2 200 rfl rfl⟩
theorem mv_RL_28 : zMV RL 28 yX10_act.cls yX10_act := ⟨zt_a2 202 rfl rfl, zt_a2 203 rfl rfl, zt_a2 204 rfl rfl⟩
theorem mv_RX10_110 : zMV RX10 110 yX10_canAct.cls yX10_canAct := ⟨zt_a2 206 rfl rfl, zt_a2 208 rfl rfl, zt_sel (n := 11) 2 (by decide +kernel)⟩
theorem mv_RX10_204 : zMV RX10 204 yX1_isHere.cls yX1_isHere := ⟨zt_a2 210 rfl rfl, zt_a2 211 rfl rfl, zt_a2 212 rfl rfl⟩
theorem mv_RX10_207 : zMV RX10 207 yX1_isBegged.cls yX1_isBegged := ⟨zt_a2 214 rfl rfl, zt_a2 215 rfl rfl, zt_a2 216 rfl rfl⟩
theorem mv_RX10_114 : zMV RX10 114 yX10_remember.cls yX10_remember := ⟨zt_a2 218 rfl rfl, zt_a2 220 rfl rfl, zt_sel (n := 11) 3 (by decide +kernel)⟩
theorem mv_RX10_332 : zMV RX10 332 yX1_copyFrom.cls yX1_copyFrom := ⟨zt_a2 222 rfl rfl, zt_a2 223 rfl rfl, zt_a2 224 rfl rfl⟩
theorem mv_RX10_117 : zMV RX10 117 yX9_goAboard.cls yX9_goAboard := ⟨zt_a2 229 rfl rfl, zt_a2 230 rfl rfl, zt_a2 231 rfl rfl⟩
theorem mv_RX9_145 : zMV RX9 145 yX9_tells.cls yX9_tells := ⟨zt_a2 233 rfl rfl, zt_a2 234 rfl rfl, zt_a2 235 rfl rfl⟩
theorem mv_RX9_192 : zMV RX9 192 yX3_run.cls yX3_run := ⟨zt_a2 237 rfl rfl, zt_a2 238 rfl rfl, zt_a2 239 rfl rfl⟩
theorem mv_RX3_45 : zMV RX3 45 yX9_valueOf.cls yX9_valueOf := ⟨zt_a3 1 rfl rfl, zt_a3 2 rfl rfl, zt_a3 3 rfl rfl⟩
theorem ms_RX9_208 : zMS RX9 208 yJ6_bitCount_0f7a4 := ⟨zt_a3 6 rfl rfl, Or.inl (zt_a3 5 rfl rfl)⟩
theorem mv_RX9_124 : zMV RX9 124 yX1_isHere.cls yX1_isHere := ⟨zt_a3 17 rfl rfl, zt_a2 211 rfl rfl, zt_a2 212 rfl rfl⟩
theorem ms_RX3_51 : zMS RX3 51 yX3_joined := ⟨zt_a3 19 rfl rfl, Or.inl (zt_a3 18 rfl rfl)⟩
theorem ms_RX9_199 : zMS RX9 199 yX9_held := ⟨zt_a3 22 rfl rfl, Or.inl (zt_a3 21 rfl rfl)⟩
theorem mv_RX9_162 : zMV RX9 162 yX0_write.cls yX0_write := ⟨zt_a3 24 rfl rfl, zt_a3 25 rfl rfl, zt_a3 26 rfl rfl⟩
theorem mv_RX10_121 : zMV RX10 121 yX9_comeBack.cls yX9_comeBack := ⟨zt_a3 28 rfl rfl, zt_a3 29 rfl rfl, zt_a3 30 rfl rfl⟩
theorem mv_RL_33 : zMV RL 33 yX10_days.cls yX10_days := ⟨zt_a3 32 rfl rfl, zt_a3 33 rfl rfl, zt_a3 34 rfl rfl⟩
theorem mv_RX10_133 : zMV RX10 133 yX9_passDay.cls yX9_passDay := ⟨zt_a3 36 rfl rfl, zt_a3 37 rfl rfl, zt_a3 38 rfl rfl⟩
theorem mv_RX9_91 : zMV RX9 91 yX9_happen.cls yX9_happen := ⟨zt_a3 40 rfl rfl, zt_a3 42 rfl rfl, zt_sel (n := 7) 4 (by decide +kernel)⟩
theorem mv_RX9_117 : zMV RX9 117 yX1_moveHands.cls yX1_moveHands := ⟨zt_a3 44 rfl rfl, zt_a3 45 rfl rfl, zt_a3 46 rfl rfl⟩
theorem ms_RX1_63 : zMS RX1 63 yJ9_floorDiv_7cf53 := ⟨zt_a3 49 rfl rfl, Or.inl (zt_a3 48 rfl rfl)⟩
theorem ms_RX1_69 : zMS RX1 69 yJ9_floorMod_7cf53 := ⟨zt_a3 52 rfl rfl, Or.inl (zt_a3 51 rfl rfl)⟩
theorem mv_RX9_95 : zMV RX9 95 yX9_sailOut.cls yX9_sailOut := ⟨zt_a3 54 rfl rfl, zt_a3 56 rfl rfl, zt_sel (n := 7) 5 (by decide +kernel)⟩
theorem mv_RX9_128 : zMV RX9 128 yX1_isBegged.cls yX1_isBegged := ⟨zt_a3 58 rfl rfl, zt_a2 215 rfl rfl, zt_a2 216 rfl rfl⟩
theorem mv_RX9_131 : zMV RX9 131 yX9_isWilling.cls yX9_isWilling := ⟨zt_a3 59 rfl rfl, zt_a3 61 rfl rfl, zt_sel (n := 7) 6 (by decide +kernel)⟩
theorem mv_RX9_149 : zMV RX9 149 yX1_drawOfThousand.cls yX1_drawOfThousand := ⟨zt_a3 63 rfl rfl, zt_a3 64 rfl rfl, zt_a3 65 rfl rfl⟩
theorem mv_RX9_135 : zMV RX9 135 yX9_goAboard.cls yX9_goAboard := ⟨zt_a3 69 rfl rfl, zt_a2 230 rfl rfl, zt_a2 231 rfl rfl⟩
theorem mv_RX9_138 : zMV RX9 138 yX2_areKin.cls yX2_areKin := ⟨zt_a3 70 rfl rfl, zt_a3 71 rfl rfl, zt_a3 72 rfl rfl⟩
theorem mv_RX9_99 : zMV RX9 99 yX9_sailBack.cls yX9_sailBack := ⟨zt_a3 74 rfl rfl, zt_a3 76 rfl rfl, zt_sel (n := 7) 7 (by decide +kernel)⟩
theorem mv_RX9_142 : zMV RX9 142 yX9_comeBack.cls yX9_comeBack := ⟨zt_a3 78 rfl rfl, zt_a3 29 rfl rfl, zt_a3 30 rfl rfl⟩
theorem mv_RX9_102 : zMV RX9 102 yX9_runClock.cls yX9_runClock := ⟨zt_a3 79 rfl rfl, zt_a3 81 rfl rfl, zt_sel (n := 7) 8 (by decide +kernel)⟩
theorem ms_RX9_174 : zMS RX9 174 yX8_strokesOver := ⟨zt_a3 84 rfl rfl, Or.inl (zt_a3 83 rfl rfl)⟩
theorem mv_RL_37 : zMV RL 37 yX10_feed.cls yX10_feed := ⟨zt_a3 86 rfl rfl, zt_a3 87 rfl rfl, zt_a3 88 rfl rfl⟩
theorem mv_RX10_140 : zMV RX10 140 yX6_putFour.cls yX6_putFour := ⟨zt_a3 90 rfl rfl, zt_a3 91 rfl rfl, zt_a3 92 rfl rfl⟩
theorem mv_RL_42 : zMV RL 42 yX10_end.cls yX10_end := ⟨zt_a3 94 rfl rfl, zt_a3 95 rfl rfl, zt_a3 96 rfl rfl⟩
theorem mv_RL_47 : zMV RL 47 yX10_text.cls yX10_text := ⟨zt_a3 98 rfl rfl, zt_a3 99 rfl rfl, zt_a3 100 rfl rfl⟩
theorem mv_RX10_143 : zMV RX10 143 yX6_rewind.cls yX6_rewind := ⟨zt_a3 102 rfl rfl, zt_a3 103 rfl rfl, zt_a3 104 rfl rfl⟩
theorem mv_RX10_150 : zMV RX10 150 yX7_readLaw.cls yX7_readLaw := ⟨zt_a3 106 rfl rfl, zt_a3 107 rfl rfl, zt_a3 108 rfl rfl⟩
theorem mv_RX7_19 : zMV RX7 19 yX6_cut.cls yX6_cut := ⟨zt_a3 111 rfl rfl, zt_a3 112 rfl rfl, zt_a3 113 rfl rfl⟩
theorem ms_RX6_43 : zMS RX6 43 yX6_isLetter := ⟨zt_a3 116 rfl rfl, Or.inl (zt_a3 115 rfl rfl)⟩
theorem mv_RX6_47 : zMV RX6 47 yX6_wordAt.cls yX6_wordAt := ⟨zt_a3 118 rfl rfl, zt_a3 120 rfl rfl, zt_sel (n := 10) 9 (by decide +kernel)⟩
theorem mv_RX6_70 : zMV RX6 70 yJ0_length_8abf5.cls yJ0_length_8abf5 := ⟨zt_a3 122 rfl rfl, zt_a3 123 rfl rfl, zt_a3 124 rfl rfl⟩
theorem mv_RJ0_335 : zMV RJ0 335 yJ0_coder_7d493.cls yJ0_coder_7d493 := ⟨zt_a3 126 rfl rfl, zt_a3 127 rfl rfl, zt_a3 128 rfl rfl⟩
theorem mv_RX6_73 : zMV RX6 73 yJ0_charAt_5068e.cls yJ0_charAt_5068e := ⟨zt_a3 132 rfl rfl, zt_a3 133 rfl rfl, zt_a3 134 rfl rfl⟩
theorem mv_RJ0_492 : zMV RJ0 492 yJ0_isLatin1_aae02.cls yJ0_isLatin1_aae02 := ⟨zt_a3 136 rfl rfl, zt_a3 137 rfl rfl, zt_a3 138 rfl rfl⟩
theorem ms_RJ0_495 : zMS RJ0 495 yJ1_charAt_3b067 := ⟨zt_a3 141 rfl rfl, Or.inl (zt_a3 140 rfl rfl)⟩
theorem ms_RJ1_9 : zMS RJ1 9 yJ0_checkIndex_df160 := ⟨zt_a3 144 rfl rfl, Or.inl (zt_a3 143 rfl rfl)⟩
theorem ms_RJ0_1059 : zMS RJ0 1059 yJ3_checkIndex_8e157 := ⟨zt_a3 149 rfl rfl, Or.inl (zt_a3 148 rfl rfl)⟩
theorem mv_RX6_77 : zMV RX6 77 yX6_isSame.cls yX6_isSame := ⟨zt_a3 170 rfl rfl, zt_a3 172 rfl rfl, zt_sel (n := 10) 10 (by decide +kernel)⟩
theorem mv_RX6_51 : zMV RX6 51 yX6_putToken.cls yX6_putToken := ⟨zt_a3 174 rfl rfl, zt_a3 176 rfl rfl, zt_sel (n := 10) 11 (by decide +kernel)⟩
theorem ms_RX6_55 : zMS RX6 55 yX6_isDigit := ⟨zt_a3 179 rfl rfl, Or.inl (zt_a3 178 rfl rfl)⟩
theorem mv_RX6_58 : zMV RX6 58 yX6_numberAt.cls yX6_numberAt := ⟨zt_a3 181 rfl rfl, zt_a3 183 rfl rfl, zt_sel (n := 10) 12 (by decide +kernel)⟩
theorem mv_RX6_64 : zMV RX6 64 yJ0_indexOf_0f7a4.cls yJ0_indexOf_0f7a4 := ⟨zt_a3 186 rfl rfl, zt_a3 187 rfl rfl, zt_a3 188 rfl rfl⟩
theorem mv_RJ0_633 : zMV RJ0 633 yJ0_indexOf_7cf53.cls yJ0_indexOf_7cf53 := ⟨zt_a3 190 rfl rfl, zt_a3 191 rfl rfl, zt_a3 192 rfl rfl⟩
theorem mv_RJ0_505 : zMV RJ0 505 yJ0_length_8abf5.cls yJ0_length_8abf5 := ⟨zt_a3 194 rfl rfl, zt_a3 123 rfl rfl, zt_a3 124 rfl rfl⟩
theorem ms_RJ0_637 : zMS RJ0 637 yJ1_indexOf_4cfef := ⟨zt_a3 196 rfl rfl, Or.inl (zt_a3 195 rfl rfl)⟩
theorem ms_RJ1_88 : zMS RJ1 88 yJ1_canEncode_9a6ad := ⟨zt_a3 199 rfl rfl, Or.inl (zt_a3 198 rfl rfl)⟩
theorem ms_RJ1_95 : zMS RJ1 95 yJ1_indexOfChar_4cfef := ⟨zt_a3 204 rfl rfl, Or.inl (zt_a3 203 rfl rfl)⟩
theorem mv_RX7_35 : zMV RX7 35 yX6_opensLine.cls yX6_opensLine := ⟨zt_a4 1 rfl rfl, zt_a4 2 rfl rfl, zt_a4 3 rfl rfl⟩
theorem mv_RX6_95 : zMV RX6 95 yX6_isWord.cls yX6_isWord := ⟨zt_a4 5 rfl rfl, zt_a4 6 rfl rfl, zt_a4 7 rfl rfl⟩
theorem mv_RX6_81 : zMV RX6 81 yX6_refuse.cls yX6_refuse := ⟨zt_a4 9 rfl rfl, zt_a4 10 rfl rfl, zt_a4 11 rfl rfl⟩
theorem mv_RX7_39 : zMV RX7 39 yX7_readLawLine.cls yX7_readLawLine := ⟨zt_a4 13 rfl rfl, zt_a4 15 rfl rfl, zt_sel (n := 1) 13 (by decide +kernel)⟩
theorem mv_RX7_47 : zMV RX7 47 yX6_pass.cls yX6_pass := ⟨zt_a4 17 rfl rfl, zt_a4 18 rfl rfl, zt_a4 19 rfl rfl⟩
theorem mv_RX7_53 : zMV RX7 53 yX7_readSum.cls yX7_readSum := ⟨zt_a4 21 rfl rfl, zt_a4 23 rfl rfl, zt_sel (n := 1) 14 (by decide +kernel)⟩
theorem mv_RX7_84 : zMV RX7 84 yX7_readOperand.cls yX7_readOperand := ⟨zt_a4 25 rfl rfl, zt_a4 27 rfl rfl, zt_sel (n := 1) 15 (by decide +kernel)⟩
theorem mv_RX7_88 : zMV RX7 88 yX6_isNumber.cls yX6_isNumber := ⟨zt_a4 29 rfl rfl, zt_a4 30 rfl rfl, zt_a4 31 rfl rfl⟩
theorem mv_RX7_81 : zMV RX7 81 yX6_refuse.cls yX6_refuse := ⟨zt_a4 33 rfl rfl, zt_a4 10 rfl rfl, zt_a4 11 rfl rfl⟩
theorem mv_RX7_77 : zMV RX7 77 yX3_put.cls yX3_put := ⟨zt_a4 34 rfl rfl, zt_a4 35 rfl rfl, zt_a4 36 rfl rfl⟩
theorem mv_RX7_60 : zMV RX7 60 yX6_isWord.cls yX6_isWord := ⟨zt_a4 38 rfl rfl, zt_a4 6 rfl rfl, zt_a4 7 rfl rfl⟩
theorem mv_RX7_64 : zMV RX7 64 yX7_readChoice.cls yX7_readChoice := ⟨zt_a4 39 rfl rfl, zt_a4 41 rfl rfl, zt_sel (n := 1) 16 (by decide +kernel)⟩
theorem mv_RX7_74 : zMV RX7 74 yX7_readSingle.cls yX7_readSingle := ⟨zt_a4 43 rfl rfl, zt_a4 45 rfl rfl, zt_sel (n := 1) 17 (by decide +kernel)⟩
theorem mv_RX7_70 : zMV RX7 70 yX6_takes.cls yX6_takes := ⟨zt_a4 47 rfl rfl, zt_a4 48 rfl rfl, zt_a4 49 rfl rfl⟩
theorem mv_RX6_84 : zMV RX6 84 yX6_pass.cls yX6_pass := ⟨zt_a4 51 rfl rfl, zt_a4 18 rfl rfl, zt_a4 19 rfl rfl⟩
theorem mv_RX10_154 : zMV RX10 154 yX3_copyFrom.cls yX3_copyFrom := ⟨zt_a4 52 rfl rfl, zt_a4 53 rfl rfl, zt_a4 54 rfl rfl⟩
theorem mv_RX10_167 : zMV RX10 167 yX7_readBoats.cls yX7_readBoats := ⟨zt_a4 57 rfl rfl, zt_a4 58 rfl rfl, zt_a4 59 rfl rfl⟩
theorem mv_RX7_97 : zMV RX7 97 yX7_readBoat.cls yX7_readBoat := ⟨zt_a4 62 rfl rfl, zt_a4 64 rfl rfl, zt_sel (n := 1) 18 (by decide +kernel)⟩
theorem mv_RX7_101 : zMV RX7 101 yX7_readDay.cls yX7_readDay := ⟨zt_a4 66 rfl rfl, zt_a4 68 rfl rfl, zt_sel (n := 1) 19 (by decide +kernel)⟩
theorem mv_RX7_104 : zMV RX7 104 yX6_takesNumber.cls yX6_takesNumber := ⟨zt_a4 70 rfl rfl, zt_a4 71 rfl rfl, zt_a4 72 rfl rfl⟩
theorem mv_RX6_87 : zMV RX6 87 yX6_isNumber.cls yX6_isNumber := ⟨zt_a4 74 rfl rfl, zt_a4 30 rfl rfl, zt_a4 31 rfl rfl⟩
theorem mv_RX10_171 : zMV RX10 171 yX4_copyFrom.cls yX4_copyFrom := ⟨zt_a4 76 rfl rfl, zt_a4 77 rfl rfl, zt_a4 78 rfl rfl⟩
theorem mv_RX10_180 : zMV RX10 180 yX7_readTown.cls yX7_readTown := ⟨zt_a4 81 rfl rfl, zt_a4 82 rfl rfl, zt_a4 83 rfl rfl⟩
theorem mv_RX7_121 : zMV RX7 121 yX7_readDoing.cls yX7_readDoing := ⟨zt_a4 86 rfl rfl, zt_a4 88 rfl rfl, zt_sel (n := 1) 20 (by decide +kernel)⟩
theorem mv_RX7_125 : zMV RX7 125 yX7_readAmount.cls yX7_readAmount := ⟨zt_a4 90 rfl rfl, zt_a4 92 rfl rfl, zt_sel (n := 1) 21 (by decide +kernel)⟩
theorem mv_RX10_188 : zMV RX10 188 yX7_readKin.cls yX7_readKin := ⟨zt_a4 94 rfl rfl, zt_a4 95 rfl rfl, zt_a4 96 rfl rfl⟩
theorem mv_RX7_132 : zMV RX7 132 yX2_clear.cls yX2_clear := ⟨zt_a4 99 rfl rfl, zt_a4 100 rfl rfl, zt_a4 101 rfl rfl⟩
theorem ms_RX2_25 : zMS RX2 25 yJ7_fill_53178 := ⟨zt_a4 104 rfl rfl, Or.inl (zt_a4 103 rfl rfl)⟩
theorem mv_RX7_135 : zMV RX7 135 yX7_readKinLine.cls yX7_readKinLine := ⟨zt_a4 106 rfl rfl, zt_a4 108 rfl rfl, zt_sel (n := 1) 22 (by decide +kernel)⟩
theorem mv_RX7_140 : zMV RX7 140 yX2_join.cls yX2_join := ⟨zt_a4 110 rfl rfl, zt_a4 111 rfl rfl, zt_a4 112 rfl rfl⟩
theorem mv_RX10_192 : zMV RX10 192 yX2_copyFrom.cls yX2_copyFrom := ⟨zt_a4 115 rfl rfl, zt_a4 116 rfl rfl, zt_a4 117 rfl rfl⟩
theorem mv_RL_51 : zMV RL 51 yX10_fault.cls yX10_fault := ⟨zt_a4 121 rfl rfl, zt_a4 122 rfl rfl, zt_a4 123 rfl rfl⟩
theorem mv_RL_55 : zMV RL 55 yX10_of.cls yX10_of := ⟨zt_a4 125 rfl rfl, zt_a4 126 rfl rfl, zt_a4 127 rfl rfl⟩
theorem mv_RX10_213 : zMV RX10 213 yX9_tells.cls yX9_tells := ⟨zt_a4 129 rfl rfl, zt_a2 234 rfl rfl, zt_a2 235 rfl rfl⟩
theorem mv_RL_59 : zMV RL 59 yX10_book.cls yX10_book := ⟨zt_a4 130 rfl rfl, zt_a4 131 rfl rfl, zt_a4 132 rfl rfl⟩
theorem mv_RL_63 : zMV RL 63 yX10_goes.cls yX10_goes := ⟨zt_a4 134 rfl rfl, zt_a4 135 rfl rfl, zt_a4 136 rfl rfl⟩
theorem mv_RX10_237 : zMV RX10 237 yX9_copyFrom.cls yX9_copyFrom := ⟨zt_a4 138 rfl rfl, zt_a4 139 rfl rfl, zt_a4 140 rfl rfl⟩
theorem mv_RX9_56 : zMV RX9 56 yX1_copyFrom.cls yX1_copyFrom := ⟨zt_a4 142 rfl rfl, zt_a2 223 rfl rfl, zt_a2 224 rfl rfl⟩
theorem mv_RX9_60 : zMV RX9 60 yX3_copyFrom.cls yX3_copyFrom := ⟨zt_a4 143 rfl rfl, zt_a4 53 rfl rfl, zt_a4 54 rfl rfl⟩
theorem mv_RX9_63 : zMV RX9 63 yX4_copyFrom.cls yX4_copyFrom := ⟨zt_a4 144 rfl rfl, zt_a4 77 rfl rfl, zt_a4 78 rfl rfl⟩
theorem mv_RX9_66 : zMV RX9 66 yX2_copyFrom.cls yX2_copyFrom := ⟨zt_a4 145 rfl rfl, zt_a4 116 rfl rfl, zt_a4 117 rfl rfl⟩
theorem mv_RX9_69 : zMV RX9 69 yX0_copyFrom.cls yX0_copyFrom := ⟨zt_a4 146 rfl rfl, zt_a4 147 rfl rfl, zt_a4 148 rfl rfl⟩
theorem mv_RX9_72 : zMV RX9 72 yX5_copyFrom.cls yX5_copyFrom := ⟨zt_a4 151 rfl rfl, zt_a4 152 rfl rfl, zt_a4 153 rfl rfl⟩
theorem ms_RX10_243 : zMS RX10 243 yJ6_bitCount_0f7a4 := ⟨zt_a3 6 rfl rfl, Or.inl (zt_a4 156 rfl rfl)⟩
theorem mv_RL_67 : zMV RL 67 yX10_lonely.cls yX10_lonely := ⟨zt_a4 157 rfl rfl, zt_a4 158 rfl rfl, zt_a4 159 rfl rfl⟩
theorem mv_RL_72 : zMV RL 72 yX10_must.cls yX10_must := ⟨zt_a4 161 rfl rfl, zt_a4 162 rfl rfl, zt_a4 163 rfl rfl⟩
theorem mv_RX10_249 : zMV RX10 249 yX10_fewestWinding.cls yX10_fewestWinding := ⟨zt_a4 165 rfl rfl, zt_a4 167 rfl rfl, zt_sel (n := 11) 23 (by decide +kernel)⟩
theorem ms_RX10_342 : zMS RX10 342 yJ7_fill_fda19 := ⟨zt_a4 171 rfl rfl, Or.inl (zt_a4 170 rfl rfl)⟩
theorem ms_RJ7_13 : zMS RJ7 13 yJ7_rangeCheck_23922 := ⟨zt_a4 174 rfl rfl, Or.inl (zt_a4 173 rfl rfl)⟩
theorem mv_RX10_354 : zMV RX10 354 yX10_addToSums.cls yX10_addToSums := ⟨zt_a4 178 rfl rfl, zt_a4 180 rfl rfl, zt_sel (n := 11) 24 (by decide +kernel)⟩
theorem mv_RL_76 : zMV RL 76 yX10_strokes.cls yX10_strokes := ⟨zt_a4 183 rfl rfl, zt_a4 184 rfl rfl, zt_a4 185 rfl rfl⟩
theorem ms_RX10_254 : zMS RX10 254 yX8_strokesOver := ⟨zt_a3 84 rfl rfl, Or.inl (zt_a4 187 rfl rfl)⟩
theorem mv_RL_80 : zMV RL 80 yX10_hands.cls yX10_hands := ⟨zt_a4 188 rfl rfl, zt_a4 189 rfl rfl, zt_a4 190 rfl rfl⟩
theorem ms_RX10_257 : zMS RX10 257 yX8_handsApart := ⟨zt_a4 193 rfl rfl, Or.inl (zt_a4 192 rfl rfl)⟩
theorem ms_RX10_260 : zMS RX10 260 yX8_minutesApartBy := ⟨zt_a4 197 rfl rfl, Or.inl (zt_a4 196 rfl rfl)⟩
theorem ms_RX8_33 : zMS RX8 33 yX8_handsApart := ⟨zt_a4 193 rfl rfl, Or.inl (zt_a4 199 rfl rfl)⟩
theorem mv_RL_84 : zMV RL 84 yX10_wheel.cls yX10_wheel := ⟨zt_a4 200 rfl rfl, zt_a4 201 rfl rfl, zt_a4 202 rfl rfl⟩
theorem mv_RX10_267 : zMV RX10 267 yX5_tellWheel.cls yX5_tellWheel := ⟨zt_a4 204 rfl rfl, zt_a4 205 rfl rfl, zt_a4 206 rfl rfl⟩
theorem mv_RL_89 : zMV RL 89 yX10_wheels.cls yX10_wheels := ⟨zt_a4 209 rfl rfl, zt_a4 210 rfl rfl, zt_a4 211 rfl rfl⟩
theorem mv_RX10_273 : zMV RX10 273 yX5_turnOf.cls yX5_turnOf := ⟨zt_a4 213 rfl rfl, zt_a4 214 rfl rfl, zt_a4 215 rfl rfl⟩
theorem ms_RX5_60 : zMS RX5 60 yX8_commonPart := ⟨zt_a4 221 rfl rfl, Or.inl (zt_a4 220 rfl rfl)⟩
theorem mv_RL_93 : zMV RL 93 yX10_couple.cls yX10_couple := ⟨zt_a4 225 rfl rfl, zt_a4 226 rfl rfl, zt_a4 227 rfl rfl⟩
theorem mv_RX10_277 : zMV RX10 277 yX5_tellCouple.cls yX5_tellCouple := ⟨zt_a4 229 rfl rfl, zt_a4 230 rfl rfl, zt_a4 231 rfl rfl⟩
theorem mv_RL_97 : zMV RL 97 yX10_ferry.cls yX10_ferry := ⟨zt_a4 233 rfl rfl, zt_a4 234 rfl rfl, zt_a4 235 rfl rfl⟩
theorem mv_RX10_280 : zMV RX10 280 yX8_fewestCrossings.cls yX8_fewestCrossings := ⟨zt_a4 237 rfl rfl, zt_a4 238 rfl rfl, zt_a4 239 rfl rfl⟩
theorem ms_RX8_40 : zMS RX8 40 yJ7_fill_53178 := ⟨zt_a4 104 rfl rfl, Or.inl (zt_a5 1 rfl rfl)⟩
theorem ms_RX8_46 : zMS RX8 46 yJ6_bitCount_0f7a4 := ⟨zt_a3 6 rfl rfl, Or.inl (zt_a5 2 rfl rfl)⟩
theorem mv_RX8_51 : zMV RX8 51 yX5_isSafe.cls yX5_isSafe := ⟨zt_a5 3 rfl rfl, zt_a5 4 rfl rfl, zt_a5 5 rfl rfl⟩
theorem mv_RL_101 : zMV RL 101 yX10_glasses.cls yX10_glasses := ⟨zt_a5 7 rfl rfl, zt_a5 8 rfl rfl, zt_a5 9 rfl rfl⟩
theorem mv_RX10_284 : zMV RX10 284 yX8_fewestTurnings.cls yX8_fewestTurnings := ⟨zt_a5 11 rfl rfl, zt_a5 12 rfl rfl, zt_a5 13 rfl rfl⟩
theorem mv_RX8_58 : zMV RX8 58 yX8_turnInto.cls yX8_turnInto := ⟨zt_a5 16 rfl rfl, zt_a5 18 rfl rfl, zt_sel (n := 5) 25 (by decide +kernel)⟩
theorem mv_RL_106 : zMV RL 106 yX10_seat.cls yX10_seat := ⟨zt_a5 20 rfl rfl, zt_a5 21 rfl rfl, zt_a5 22 rfl rfl⟩
theorem mv_RX10_288 : zMV RX10 288 yX5_tellSeat.cls yX5_tellSeat := ⟨zt_a5 24 rfl rfl, zt_a5 25 rfl rfl, zt_a5 26 rfl rfl⟩
theorem mv_RL_110 : zMV RL 110 yX10_level.cls yX10_level := ⟨zt_a5 28 rfl rfl, zt_a5 29 rfl rfl, zt_a5 30 rfl rfl⟩
theorem ms_RX8_69 : zMS RX8 69 yX8_waysToSit := ⟨zt_a5 33 rfl rfl, Or.inl (zt_a5 35 rfl rfl)⟩
theorem mv_RL_114 : zMV RL 114 yX10_part.cls yX10_part := ⟨zt_a5 36 rfl rfl, zt_a5 37 rfl rfl, zt_a5 38 rfl rfl⟩
theorem ms_RX10_295 : zMS RX10 295 yX8_quotients := ⟨zt_a5 41 rfl rfl, Or.inl (zt_a5 40 rfl rfl)⟩
theorem ms_RX10_298 : zMS RX10 298 yX8_partOf := ⟨zt_a5 44 rfl rfl, Or.inl (zt_a5 43 rfl rfl)⟩
theorem mv_RL_118 : zMV RL 118 yX10_bells.cls yX10_bells := ⟨zt_a5 46 rfl rfl, zt_a5 47 rfl rfl, zt_a5 48 rfl rfl⟩
theorem mv_RX10_303 : zMV RX10 303 yX8_changesTillInOrder.cls yX8_changesTillInOrder := ⟨zt_a5 51 rfl rfl, zt_a5 52 rfl rfl, zt_a5 53 rfl rfl⟩
theorem mv_RX8_90 : zMV RX8 90 yX8_ringInOrder.cls yX8_ringInOrder := ⟨zt_a5 55 rfl rfl, zt_a5 57 rfl rfl, zt_sel (n := 5) 26 (by decide +kernel)⟩
theorem mv_RX8_94 : zMV RX8 94 yX8_change.cls yX8_change := ⟨zt_a5 59 rfl rfl, zt_a5 61 rfl rfl, zt_sel (n := 5) 27 (by decide +kernel)⟩
theorem mv_RX8_98 : zMV RX8 98 yX8_isInOrder.cls yX8_isInOrder := ⟨zt_a5 63 rfl rfl, zt_a5 65 rfl rfl, zt_sel (n := 5) 28 (by decide +kernel)⟩
theorem mv_RX10_306 : zMV RX10 306 yX8_bellAt.cls yX8_bellAt := ⟨zt_a5 67 rfl rfl, zt_a5 68 rfl rfl, zt_a5 69 rfl rfl⟩
theorem mv_RL_122 : zMV RL 122 yX10_against.cls yX10_against := ⟨zt_a5 71 rfl rfl, zt_a5 72 rfl rfl, zt_a5 73 rfl rfl⟩
theorem ms_RX10_309 : zMS RX10 309 yX8_opponent := ⟨zt_a5 76 rfl rfl, Or.inl (zt_a5 75 rfl rfl)⟩
theorem ms_RX8_101 : zMS RX8 101 yX8_meetsLast := ⟨zt_a5 79 rfl rfl, Or.inl (zt_a5 78 rfl rfl)⟩
theorem ms_RX8_104 : zMS RX8 104 yJ9_floorMod_7cf53 := ⟨zt_a3 52 rfl rfl, Or.inl (zt_a5 81 rfl rfl)⟩
theorem mv_RL_126 : zMV RL 126 yX10_calendar.cls yX10_calendar := ⟨zt_a5 82 rfl rfl, zt_a5 83 rfl rfl, zt_a5 84 rfl rfl⟩
theorem mv_RL_130 : zMV RL 130 yX10_rope.cls yX10_rope := ⟨zt_a5 86 rfl rfl, zt_a5 87 rfl rfl, zt_a5 88 rfl rfl⟩
theorem mv_RL_134 : zMV RL 134 yX10_meets.cls yX10_meets := ⟨zt_a5 90 rfl rfl, zt_a5 91 rfl rfl, zt_a5 92 rfl rfl⟩
theorem ms_RX10_312 : zMS RX10 312 yX8_firstMeeting := ⟨zt_a5 95 rfl rfl, Or.inl (zt_a5 94 rfl rfl)⟩
theorem mv_RL_139 : zMV RL 139 yX10_arm.cls yX10_arm := ⟨zt_a5 97 rfl rfl, zt_a5 98 rfl rfl, zt_a5 99 rfl rfl⟩
theorem mv_RX10_315 : zMV RX10 315 yX5_tellArm.cls yX5_tellArm := ⟨zt_a5 101 rfl rfl, zt_a5 102 rfl rfl, zt_a5 103 rfl rfl⟩
theorem mv_RL_143 : zMV RL 143 yX10_hung.cls yX10_hung := ⟨zt_a5 105 rfl rfl, zt_a5 106 rfl rfl, zt_a5 107 rfl rfl⟩
theorem ms_RX8_86 : zMS RX8 86 yX8_leastLean := ⟨zt_a5 110 rfl rfl, Or.inl (zt_a5 114 rfl rfl)⟩
theorem mv_RL_147 : zMV RL 147 yX10_game.cls yX10_game := ⟨zt_a5 115 rfl rfl, zt_a5 116 rfl rfl, zt_a5 117 rfl rfl⟩
theorem mv_RX10_322 : zMV RX10 322 yX8_judgeHours.cls yX8_judgeHours := ⟨zt_a5 119 rfl rfl, zt_a5 120 rfl rfl, zt_a5 121 rfl rfl⟩
theorem mv_RX8_107 : zMV RX8 107 yX8_bestFrom.cls yX8_bestFrom := ⟨zt_a5 123 rfl rfl, zt_a5 125 rfl rfl, zt_sel (n := 5) 29 (by decide +kernel)⟩
theorem mv_RX8_111 : zMV RX8 111 yX8_worthOfStep.cls yX8_worthOfStep := ⟨zt_a5 127 rfl rfl, zt_a5 129 rfl rfl, zt_sel (n := 5) 30 (by decide +kernel)⟩
theorem mv_RX10_329 : zMV RX10 329 yX8_stepThatKeeps.cls yX8_stepThatKeeps := ⟨zt_a5 131 rfl rfl, zt_a5 132 rfl rfl, zt_a5 133 rfl rfl⟩
theorem mv_RL_151 : zMV RL 151 yX10_undo.cls yX10_undo := ⟨zt_a5 135 rfl rfl, zt_a5 136 rfl rfl, zt_a5 137 rfl rfl⟩
theorem mv_RL_156 : zMV RL 156 yX10_image.cls yX10_image := ⟨zt_a5 139 rfl rfl, zt_a5 140 rfl rfl, zt_a5 141 rfl rfl⟩
theorem mv_RL_161 : zMV RL 161 yX10_look.cls yX10_look := ⟨zt_a5 143 rfl rfl, zt_a5 144 rfl rfl, zt_a5 145 rfl rfl⟩
theorem mi_RL_12 : zMI RL 12 yX11_init := ⟨zt_a5 151 rfl rfl, rfl, Or.inl (zt_a5 150 rfl rfl)⟩
theorem mv_RL_155 : zMV RL 155 yX11_undo.cls yX11_undo := ⟨zt_a6 102 rfl rfl, zt_a6 103 rfl rfl, zt_a6 104 rfl rfl⟩
theorem mv_RL_17 : zMV RL 17 yX11_state.cls yX11_state := ⟨zt_a6 106 rfl rfl, zt_a6 107 rfl rfl, zt_a6 108 rfl rfl⟩
theorem mv_RL_22 : zMV RL 22 yX11_islander.cls yX11_islander := ⟨zt_a6 110 rfl rfl, zt_a6 111 rfl rfl, zt_a6 112 rfl rfl⟩
theorem mv_RX11_139 : zMV RX11 139 yX11_isIn.cls yX11_isIn := ⟨zt_a6 114 rfl rfl, zt_a6 116 rfl rfl, zt_sel (n := 62) 31 (by decide +kernel)⟩
theorem mv_RL_27 : zMV RL 27 yX11_set.cls yX11_set := ⟨zt_a6 118 rfl rfl, zt_a6 119 rfl rfl, zt_a6 120 rfl rfl⟩
theorem mv_RX11_146 : zMV RX11 146 yX11_canSet.cls yX11_canSet := ⟨zt_a6 122 rfl rfl, zt_a6 124 rfl rfl, zt_sel (n := 62) 32 (by decide +kernel)⟩
theorem mv_RX11_143 : zMV RX11 143 yX11_isIslander.cls yX11_isIslander := ⟨zt_a6 126 rfl rfl, zt_a6 128 rfl rfl, zt_sel (n := 62) 33 (by decide +kernel)⟩
theorem mv_RL_41 : zMV RL 41 yX11_feed.cls yX11_feed := ⟨zt_a6 130 rfl rfl, zt_a6 131 rfl rfl, zt_a6 132 rfl rfl⟩
theorem mv_RX11_152 : zMV RX11 152 yX11_types.cls yX11_types := ⟨zt_a6 134 rfl rfl, zt_a6 136 rfl rfl, zt_sel (n := 62) 34 (by decide +kernel)⟩
theorem mv_RL_46 : zMV RL 46 yX11_end.cls yX11_end := ⟨zt_a6 138 rfl rfl, zt_a6 139 rfl rfl, zt_a6 140 rfl rfl⟩
theorem mv_RL_50 : zMV RL 50 yX11_text.cls yX11_text := ⟨zt_a6 142 rfl rfl, zt_a6 143 rfl rfl, zt_a6 144 rfl rfl⟩
theorem mv_RX11_294 : zMV RX11 294 yX11_readsText.cls yX11_readsText := ⟨zt_a6 146 rfl rfl, zt_a6 148 rfl rfl, zt_sel (n := 62) 35 (by decide +kernel)⟩
theorem mv_RX11_204 : zMV RX11 204 yX11_reads.cls yX11_reads := ⟨zt_a6 150 rfl rfl, zt_a6 152 rfl rfl, zt_sel (n := 62) 36 (by decide +kernel)⟩
theorem mv_RX11_159 : zMV RX11 159 yX11_raw.cls yX11_raw := ⟨zt_a6 154 rfl rfl, zt_a6 156 rfl rfl, zt_sel (n := 62) 37 (by decide +kernel)⟩
theorem mv_RX11_172 : zMV RX11 172 yX11_isLetter.cls yX11_isLetter := ⟨zt_a6 158 rfl rfl, zt_a6 160 rfl rfl, zt_sel (n := 62) 38 (by decide +kernel)⟩
theorem mv_RX11_175 : zMV RX11 175 yX11_wordAt.cls yX11_wordAt := ⟨zt_a6 162 rfl rfl, zt_a6 164 rfl rfl, zt_sel (n := 62) 39 (by decide +kernel)⟩
theorem mv_RX11_179 : zMV RX11 179 yX11_isDigit.cls yX11_isDigit := ⟨zt_a6 166 rfl rfl, zt_a6 168 rfl rfl, zt_sel (n := 62) 40 (by decide +kernel)⟩
theorem mv_RX11_182 : zMV RX11 182 yX11_isMarkSign.cls yX11_isMarkSign := ⟨zt_a6 170 rfl rfl, zt_a6 172 rfl rfl, zt_sel (n := 62) 41 (by decide +kernel)⟩
theorem mv_RX11_270 : zMV RX11 270 yX11_readBoats.cls yX11_readBoats := ⟨zt_a6 174 rfl rfl, zt_a6 176 rfl rfl, zt_sel (n := 62) 42 (by decide +kernel)⟩
theorem mv_RX11_226 : zMV RX11 226 yX11_isWord.cls yX11_isWord := ⟨zt_a6 178 rfl rfl, zt_a6 180 rfl rfl, zt_sel (n := 62) 43 (by decide +kernel)⟩
theorem mv_RX11_197 : zMV RX11 197 yX11_errs.cls yX11_errs := ⟨zt_a6 182 rfl rfl, zt_a6 184 rfl rfl, zt_sel (n := 62) 44 (by decide +kernel)⟩
theorem mv_RX11_258 : zMV RX11 258 yX11_readBoat.cls yX11_readBoat := ⟨zt_a6 186 rfl rfl, zt_a6 188 rfl rfl, zt_sel (n := 62) 45 (by decide +kernel)⟩
theorem mv_RX11_251 : zMV RX11 251 yX11_readTold.cls yX11_readTold := ⟨zt_a6 190 rfl rfl, zt_a6 192 rfl rfl, zt_sel (n := 62) 46 (by decide +kernel)⟩
theorem mv_RX11_248 : zMV RX11 248 yX11_readNumber.cls yX11_readNumber := ⟨zt_a6 194 rfl rfl, zt_a6 196 rfl rfl, zt_sel (n := 62) 47 (by decide +kernel)⟩
theorem mv_RX11_255 : zMV RX11 255 yX11_readMark.cls yX11_readMark := ⟨zt_a6 198 rfl rfl, zt_a6 200 rfl rfl, zt_sel (n := 62) 48 (by decide +kernel)⟩
theorem mv_RX11_211 : zMV RX11 211 yX11_isSign.cls yX11_isSign := ⟨zt_a6 202 rfl rfl, zt_a6 204 rfl rfl, zt_sel (n := 62) 49 (by decide +kernel)⟩
theorem mv_RX11_273 : zMV RX11 273 yX11_readTown.cls yX11_readTown := ⟨zt_a6 206 rfl rfl, zt_a6 208 rfl rfl, zt_sel (n := 62) 50 (by decide +kernel)⟩
theorem mv_RX11_264 : zMV RX11 264 yX11_readDeed.cls yX11_readDeed := ⟨zt_a6 210 rfl rfl, zt_a6 212 rfl rfl, zt_sel (n := 62) 51 (by decide +kernel)⟩
theorem mv_RX11_261 : zMV RX11 261 yX11_kindOfDeed.cls yX11_kindOfDeed := ⟨zt_a6 214 rfl rfl, zt_a6 216 rfl rfl, zt_sel (n := 62) 52 (by decide +kernel)⟩
theorem mv_RX11_276 : zMV RX11 276 yX11_readAllKin.cls yX11_readAllKin := ⟨zt_a6 218 rfl rfl, zt_a6 220 rfl rfl, zt_sel (n := 62) 53 (by decide +kernel)⟩
theorem mv_RX11_267 : zMV RX11 267 yX11_readKin.cls yX11_readKin := ⟨zt_a6 222 rfl rfl, zt_a6 224 rfl rfl, zt_sel (n := 62) 54 (by decide +kernel)⟩
theorem mv_RX11_279 : zMV RX11 279 yX11_readLaw.cls yX11_readLaw := ⟨zt_a6 226 rfl rfl, zt_a6 228 rfl rfl, zt_sel (n := 62) 55 (by decide +kernel)⟩
theorem mv_RX11_238 : zMV RX11 238 yX11_isLineWord.cls yX11_isLineWord := ⟨zt_a6 230 rfl rfl, zt_a6 232 rfl rfl, zt_sel (n := 62) 56 (by decide +kernel)⟩
theorem mv_RX11_217 : zMV RX11 217 yX11_readSum.cls yX11_readSum := ⟨zt_a6 234 rfl rfl, zt_a6 236 rfl rfl, zt_sel (n := 62) 57 (by decide +kernel)⟩
theorem mv_RX11_214 : zMV RX11 214 yX11_readProduct.cls yX11_readProduct := ⟨zt_a6 238 rfl rfl, zt_a7 0 rfl rfl, zt_sel (n := 62) 58 (by decide +kernel)⟩
theorem mv_RX11_207 : zMV RX11 207 yX11_readUnit.cls yX11_readUnit := ⟨zt_a7 2 rfl rfl, zt_a7 4 rfl rfl, zt_sel (n := 62) 59 (by decide +kernel)⟩
theorem mv_RX11_194 : zMV RX11 194 yX11_canAsk.cls yX11_canAsk := ⟨zt_a7 6 rfl rfl, zt_a7 8 rfl rfl, zt_sel (n := 62) 60 (by decide +kernel)⟩
theorem mv_RX11_200 : zMV RX11 200 yX11_emits.cls yX11_emits := ⟨zt_a7 10 rfl rfl, zt_a7 12 rfl rfl, zt_sel (n := 62) 61 (by decide +kernel)⟩
theorem mv_RX11_242 : zMV RX11 242 yX11_readAny.cls yX11_readAny := ⟨zt_a7 14 rfl rfl, zt_a7 16 rfl rfl, zt_sel (n := 62) 62 (by decide +kernel)⟩
theorem mv_RX11_229 : zMV RX11 229 yX11_waits.cls yX11_waits := ⟨zt_a7 18 rfl rfl, zt_a7 20 rfl rfl, zt_sel (n := 62) 63 (by decide +kernel)⟩
theorem mv_RX11_232 : zMV RX11 232 yX11_readCompared.cls yX11_readCompared := ⟨zt_a7 22 rfl rfl, zt_a7 24 rfl rfl, zt_sel (n := 62) 64 (by decide +kernel)⟩
theorem mv_RX11_235 : zMV RX11 235 yX11_settles.cls yX11_settles := ⟨zt_a7 26 rfl rfl, zt_a7 28 rfl rfl, zt_sel (n := 62) 65 (by decide +kernel)⟩
theorem mv_RX11_297 : zMV RX11 297 yX11_takesLaw.cls yX11_takesLaw := ⟨zt_a7 30 rfl rfl, zt_a7 32 rfl rfl, zt_sel (n := 62) 66 (by decide +kernel)⟩
theorem mv_RX11_300 : zMV RX11 300 yX11_takesOther.cls yX11_takesOther := ⟨zt_a7 34 rfl rfl, zt_a7 36 rfl rfl, zt_sel (n := 62) 67 (by decide +kernel)⟩
theorem mv_RL_54 : zMV RL 54 yX11_fault.cls yX11_fault := ⟨zt_a7 38 rfl rfl, zt_a7 39 rfl rfl, zt_a7 40 rfl rfl⟩
theorem mv_RL_32 : zMV RL 32 yX11_act.cls yX11_act := ⟨zt_a7 42 rfl rfl, zt_a7 43 rfl rfl, zt_a7 44 rfl rfl⟩
theorem mv_RX11_341 : zMV RX11 341 yX11_canAct.cls yX11_canAct := ⟨zt_a7 46 rfl rfl, zt_a7 48 rfl rfl, zt_sel (n := 62) 68 (by decide +kernel)⟩
theorem mv_RX11_135 : zMV RX11 135 yX11_isHere.cls yX11_isHere := ⟨zt_a7 50 rfl rfl, zt_a7 52 rfl rfl, zt_sel (n := 62) 69 (by decide +kernel)⟩
theorem mv_RX11_344 : zMV RX11 344 yX11_keepsAhead.cls yX11_keepsAhead := ⟨zt_a7 54 rfl rfl, zt_a7 56 rfl rfl, zt_sel (n := 62) 70 (by decide +kernel)⟩
theorem mv_RX11_347 : zMV RX11 347 yX11_goesAboard.cls yX11_goesAboard := ⟨zt_a7 58 rfl rfl, zt_a7 60 rfl rfl, zt_sel (n := 62) 71 (by decide +kernel)⟩
theorem mv_RX11_334 : zMV RX11 334 yX11_windsOf.cls yX11_windsOf := ⟨zt_a7 62 rfl rfl, zt_a7 64 rfl rfl, zt_sel (n := 62) 72 (by decide +kernel)⟩
theorem mv_RX11_328 : zMV RX11 328 yX11_asks.cls yX11_asks := ⟨zt_a7 66 rfl rfl, zt_a7 68 rfl rfl, zt_sel (n := 62) 73 (by decide +kernel)⟩
theorem mv_RX11_313 : zMV RX11 313 yX11_hereSet.cls yX11_hereSet := ⟨zt_a7 70 rfl rfl, zt_a7 72 rfl rfl, zt_sel (n := 62) 74 (by decide +kernel)⟩
theorem mv_RX11_316 : zMV RX11 316 yX11_onesOf.cls yX11_onesOf := ⟨zt_a7 74 rfl rfl, zt_a7 76 rfl rfl, zt_sel (n := 62) 75 (by decide +kernel)⟩
theorem mv_RX11_319 : zMV RX11 319 yX11_held.cls yX11_held := ⟨zt_a7 78 rfl rfl, zt_a7 80 rfl rfl, zt_sel (n := 62) 76 (by decide +kernel)⟩
theorem mv_RX11_322 : zMV RX11 322 yX11_kinApart.cls yX11_kinApart := ⟨zt_a7 82 rfl rfl, zt_a7 84 rfl rfl, zt_sel (n := 62) 77 (by decide +kernel)⟩
theorem mv_RX11_309 : zMV RX11 309 yX11_has.cls yX11_has := ⟨zt_a7 86 rfl rfl, zt_a7 88 rfl rfl, zt_sel (n := 62) 78 (by decide +kernel)⟩
theorem mv_RX11_331 : zMV RX11 331 yX11_lawTells.cls yX11_lawTells := ⟨zt_a7 90 rfl rfl, zt_a7 92 rfl rfl, zt_sel (n := 62) 79 (by decide +kernel)⟩
theorem mv_RX11_325 : zMV RX11 325 yX11_lineOf.cls yX11_lineOf := ⟨zt_a7 94 rfl rfl, zt_a7 96 rfl rfl, zt_sel (n := 62) 80 (by decide +kernel)⟩
theorem mv_RX11_306 : zMV RX11 306 yX11_runs.cls yX11_runs := ⟨zt_a7 98 rfl rfl, zt_a7 100 rfl rfl, zt_sel (n := 62) 81 (by decide +kernel)⟩
theorem mv_RX11_303 : zMV RX11 303 yX11_twoOf.cls yX11_twoOf := ⟨zt_a7 102 rfl rfl, zt_a7 104 rfl rfl, zt_sel (n := 62) 82 (by decide +kernel)⟩
theorem mv_RX11_337 : zMV RX11 337 yX11_notes.cls yX11_notes := ⟨zt_a7 106 rfl rfl, zt_a7 108 rfl rfl, zt_sel (n := 62) 83 (by decide +kernel)⟩
theorem mv_RX11_350 : zMV RX11 350 yX11_comesBack.cls yX11_comesBack := ⟨zt_a7 110 rfl rfl, zt_a7 112 rfl rfl, zt_sel (n := 62) 84 (by decide +kernel)⟩
theorem mv_RL_36 : zMV RL 36 yX11_days.cls yX11_days := ⟨zt_a7 114 rfl rfl, zt_a7 115 rfl rfl, zt_a7 116 rfl rfl⟩
theorem mv_RX11_389 : zMV RX11 389 yX11_goesBy.cls yX11_goesBy := ⟨zt_a7 118 rfl rfl, zt_a7 120 rfl rfl, zt_sel (n := 62) 85 (by decide +kernel)⟩
theorem mv_RX11_377 : zMV RX11 377 yX11_does.cls yX11_does := ⟨zt_a7 122 rfl rfl, zt_a7 124 rfl rfl, zt_sel (n := 62) 86 (by decide +kernel)⟩
theorem mv_RX11_356 : zMV RX11 356 yX11_isPushed.cls yX11_isPushed := ⟨zt_a7 126 rfl rfl, zt_a7 128 rfl rfl, zt_sel (n := 62) 87 (by decide +kernel)⟩
theorem mv_RX11_380 : zMV RX11 380 yX11_goesOut.cls yX11_goesOut := ⟨zt_a7 130 rfl rfl, zt_a7 132 rfl rfl, zt_sel (n := 62) 88 (by decide +kernel)⟩
theorem mv_RX11_359 : zMV RX11 359 yX11_leavesOf.cls yX11_leavesOf := ⟨zt_a7 134 rfl rfl, zt_a7 136 rfl rfl, zt_sel (n := 62) 89 (by decide +kernel)⟩
theorem mv_RX11_362 : zMV RX11 362 yX11_happens.cls yX11_happens := ⟨zt_a7 138 rfl rfl, zt_a7 140 rfl rfl, zt_sel (n := 62) 90 (by decide +kernel)⟩
theorem mv_RX11_353 : zMV RX11 353 yX11_draw.cls yX11_draw := ⟨zt_a7 142 rfl rfl, zt_a7 144 rfl rfl, zt_sel (n := 62) 91 (by decide +kernel)⟩
theorem mv_RX11_383 : zMV RX11 383 yX11_bringsBack.cls yX11_bringsBack := ⟨zt_a7 148 rfl rfl, zt_a7 150 rfl rfl, zt_sel (n := 62) 92 (by decide +kernel)⟩
theorem mv_RX11_365 : zMV RX11 365 yX11_returnsOf.cls yX11_returnsOf := ⟨zt_a7 152 rfl rfl, zt_a7 154 rfl rfl, zt_sel (n := 62) 93 (by decide +kernel)⟩
theorem mv_RX11_386 : zMV RX11 386 yX11_clockRuns.cls yX11_clockRuns := ⟨zt_a7 156 rfl rfl, zt_a7 158 rfl rfl, zt_sel (n := 62) 94 (by decide +kernel)⟩
theorem mv_RX11_368 : zMV RX11 368 yX11_plain.cls yX11_plain := ⟨zt_a7 160 rfl rfl, zt_a7 162 rfl rfl, zt_sel (n := 62) 95 (by decide +kernel)⟩
theorem mv_RX11_371 : zMV RX11 371 yX11_lesser.cls yX11_lesser := ⟨zt_a7 164 rfl rfl, zt_a7 166 rfl rfl, zt_sel (n := 62) 96 (by decide +kernel)⟩
theorem mv_RX11_374 : zMV RX11 374 yX11_strokesAt.cls yX11_strokesAt := ⟨zt_a7 168 rfl rfl, zt_a7 170 rfl rfl, zt_sel (n := 62) 97 (by decide +kernel)⟩
theorem mv_RL_58 : zMV RL 58 yX11_of.cls yX11_of := ⟨zt_a7 172 rfl rfl, zt_a7 173 rfl rfl, zt_a7 174 rfl rfl⟩
theorem mv_RL_62 : zMV RL 62 yX11_book.cls yX11_book := ⟨zt_a7 176 rfl rfl, zt_a7 177 rfl rfl, zt_a7 178 rfl rfl⟩
theorem mv_RL_66 : zMV RL 66 yX11_goes.cls yX11_goes := ⟨zt_a7 180 rfl rfl, zt_a7 181 rfl rfl, zt_a7 182 rfl rfl⟩
theorem mv_RX11_392 : zMV RX11 392 yX11_thinks.cls yX11_thinks := ⟨zt_a7 184 rfl rfl, zt_a7 186 rfl rfl, zt_sel (n := 62) 98 (by decide +kernel)⟩
theorem mv_RX11_395 : zMV RX11 395 yX11_endsThought.cls yX11_endsThought := ⟨zt_a7 188 rfl rfl, zt_a7 190 rfl rfl, zt_sel (n := 62) 99 (by decide +kernel)⟩
theorem mv_RL_71 : zMV RL 71 yX11_lonely.cls yX11_lonely := ⟨zt_a7 192 rfl rfl, zt_a7 193 rfl rfl, zt_a7 194 rfl rfl⟩
theorem mv_RL_75 : zMV RL 75 yX11_must.cls yX11_must := ⟨zt_a7 196 rfl rfl, zt_a7 197 rfl rfl, zt_a7 198 rfl rfl⟩
theorem mv_RL_79 : zMV RL 79 yX11_strokes.cls yX11_strokes := ⟨zt_a7 200 rfl rfl, zt_a7 201 rfl rfl, zt_a7 202 rfl rfl⟩
theorem mv_RL_83 : zMV RL 83 yX11_hands.cls yX11_hands := ⟨zt_a7 204 rfl rfl, zt_a7 205 rfl rfl, zt_a7 206 rfl rfl⟩
theorem mv_RX11_398 : zMV RX11 398 yX11_handsAt.cls yX11_handsAt := ⟨zt_a7 208 rfl rfl, zt_a7 210 rfl rfl, zt_sel (n := 62) 100 (by decide +kernel)⟩
theorem mv_RL_88 : zMV RL 88 yX11_wheel.cls yX11_wheel := ⟨zt_a7 212 rfl rfl, zt_a7 213 rfl rfl, zt_a7 214 rfl rfl⟩
theorem mv_RL_92 : zMV RL 92 yX11_wheels.cls yX11_wheels := ⟨zt_a7 216 rfl rfl, zt_a7 217 rfl rfl, zt_a7 218 rfl rfl⟩
theorem mv_RX11_405 : zMV RX11 405 yX11_common.cls yX11_common := ⟨zt_a7 221 rfl rfl, zt_a7 223 rfl rfl, zt_sel (n := 62) 101 (by decide +kernel)⟩
theorem mv_RL_96 : zMV RL 96 yX11_couple.cls yX11_couple := ⟨zt_a7 225 rfl rfl, zt_a7 226 rfl rfl, zt_a7 227 rfl rfl⟩
theorem mv_RL_100 : zMV RL 100 yX11_ferry.cls yX11_ferry := ⟨zt_a7 229 rfl rfl, zt_a7 230 rfl rfl, zt_a7 231 rfl rfl⟩
theorem mv_RX11_412 : zMV RX11 412 yX11_isPeace.cls yX11_isPeace := ⟨zt_a7 234 rfl rfl, zt_a7 236 rfl rfl, zt_sel (n := 62) 102 (by decide +kernel)⟩
theorem mv_RL_105 : zMV RL 105 yX11_glasses.cls yX11_glasses := ⟨zt_a7 238 rfl rfl, zt_a7 239 rfl rfl, zt_a8 0 rfl rfl⟩
theorem mv_RX11_415 : zMV RX11 415 yX11_glassAt.cls yX11_glassAt := ⟨zt_a8 2 rfl rfl, zt_a8 4 rfl rfl, zt_sel (n := 62) 103 (by decide +kernel)⟩
theorem mv_RX11_418 : zMV RX11 418 yX11_greater.cls yX11_greater := ⟨zt_a8 6 rfl rfl, zt_a8 8 rfl rfl, zt_sel (n := 62) 104 (by decide +kernel)⟩
theorem mv_RX11_421 : zMV RX11 421 yX11_turns.cls yX11_turns := ⟨zt_a8 10 rfl rfl, zt_a8 12 rfl rfl, zt_sel (n := 62) 105 (by decide +kernel)⟩
theorem mv_RL_109 : zMV RL 109 yX11_seat.cls yX11_seat := ⟨zt_a8 14 rfl rfl, zt_a8 15 rfl rfl, zt_a8 16 rfl rfl⟩
theorem mv_RL_113 : zMV RL 113 yX11_level.cls yX11_level := ⟨zt_a8 18 rfl rfl, zt_a8 19 rfl rfl, zt_a8 20 rfl rfl⟩
theorem mv_RX11_428 : zMV RX11 428 yX11_isLevel.cls yX11_isLevel := ⟨zt_a8 22 rfl rfl, zt_a8 24 rfl rfl, zt_sel (n := 62) 106 (by decide +kernel)⟩
theorem mv_RL_117 : zMV RL 117 yX11_part.cls yX11_part := ⟨zt_a8 26 rfl rfl, zt_a8 27 rfl rfl, zt_a8 28 rfl rfl⟩
theorem mv_RX11_431 : zMV RX11 431 yX11_findsQuotients.cls yX11_findsQuotients := ⟨zt_a8 30 rfl rfl, zt_a8 32 rfl rfl, zt_sel (n := 62) 107 (by decide +kernel)⟩
theorem mv_RL_121 : zMV RL 121 yX11_bells.cls yX11_bells := ⟨zt_a8 34 rfl rfl, zt_a8 35 rfl rfl, zt_a8 36 rfl rfl⟩
theorem mv_RX11_440 : zMV RX11 440 yX11_againAt.cls yX11_againAt := ⟨zt_a8 38 rfl rfl, zt_a8 40 rfl rfl, zt_sel (n := 62) 108 (by decide +kernel)⟩
theorem mv_RX11_434 : zMV RX11 434 yX11_changes.cls yX11_changes := ⟨zt_a8 42 rfl rfl, zt_a8 44 rfl rfl, zt_sel (n := 62) 109 (by decide +kernel)⟩
theorem mv_RX11_437 : zMV RX11 437 yX11_areInOrder.cls yX11_areInOrder := ⟨zt_a8 46 rfl rfl, zt_a8 48 rfl rfl, zt_sel (n := 62) 110 (by decide +kernel)⟩
theorem mv_RL_125 : zMV RL 125 yX11_against.cls yX11_against := ⟨zt_a8 51 rfl rfl, zt_a8 52 rfl rfl, zt_a8 53 rfl rfl⟩
theorem mv_RL_129 : zMV RL 129 yX11_calendar.cls yX11_calendar := ⟨zt_a8 55 rfl rfl, zt_a8 56 rfl rfl, zt_a8 57 rfl rfl⟩
theorem mv_RL_133 : zMV RL 133 yX11_rope.cls yX11_rope := ⟨zt_a8 60 rfl rfl, zt_a8 61 rfl rfl, zt_a8 62 rfl rfl⟩
theorem mv_RL_138 : zMV RL 138 yX11_meets.cls yX11_meets := ⟨zt_a8 64 rfl rfl, zt_a8 65 rfl rfl, zt_a8 66 rfl rfl⟩
theorem mv_RL_142 : zMV RL 142 yX11_arm.cls yX11_arm := ⟨zt_a8 68 rfl rfl, zt_a8 69 rfl rfl, zt_a8 70 rfl rfl⟩
theorem mv_RL_146 : zMV RL 146 yX11_hung.cls yX11_hung := ⟨zt_a8 72 rfl rfl, zt_a8 73 rfl rfl, zt_a8 74 rfl rfl⟩
theorem mv_RX11_448 : zMV RX11 448 yX11_goesToNextOrder.cls yX11_goesToNextOrder := ⟨zt_a8 76 rfl rfl, zt_a8 78 rfl rfl, zt_sel (n := 62) 111 (by decide +kernel)⟩
theorem mv_RL_150 : zMV RL 150 yX11_game.cls yX11_game := ⟨zt_a8 80 rfl rfl, zt_a8 81 rfl rfl, zt_a8 82 rfl rfl⟩
theorem mv_RX11_454 : zMV RX11 454 yX11_endOf.cls yX11_endOf := ⟨zt_a8 84 rfl rfl, zt_a8 86 rfl rfl, zt_sel (n := 62) 112 (by decide +kernel)⟩
theorem mv_RX11_451 : zMV RX11 451 yX11_leadsTo.cls yX11_leadsTo := ⟨zt_a8 88 rfl rfl, zt_a8 90 rfl rfl, zt_sel (n := 62) 113 (by decide +kernel)⟩
theorem mv_RX11_457 : zMV RX11 457 yX11_keepsSo.cls yX11_keepsSo := ⟨zt_a8 92 rfl rfl, zt_a8 94 rfl rfl, zt_sel (n := 62) 114 (by decide +kernel)⟩
theorem mv_RL_160 : zMV RL 160 yX11_image.cls yX11_image := ⟨zt_a8 96 rfl rfl, zt_a8 97 rfl rfl, zt_a8 98 rfl rfl⟩
theorem mv_RX11_467 : zMV RX11 467 yX11_keeps.cls yX11_keeps := ⟨zt_a8 100 rfl rfl, zt_a8 102 rfl rfl, zt_sel (n := 62) 115 (by decide +kernel)⟩
theorem mv_RX11_473 : zMV RX11 473 yX11_keepsTold.cls yX11_keepsTold := ⟨zt_a8 104 rfl rfl, zt_a8 106 rfl rfl, zt_sel (n := 62) 116 (by decide +kernel)⟩
theorem mv_RX11_476 : zMV RX11 476 yX11_keepsLaw.cls yX11_keepsLaw := ⟨zt_a8 108 rfl rfl, zt_a8 110 rfl rfl, zt_sel (n := 62) 117 (by decide +kernel)⟩
theorem mv_RL_164 : zMV RL 164 yX11_look.cls yX11_look := ⟨zt_a8 112 rfl rfl, zt_a8 113 rfl rfl, zt_a8 114 rfl rfl⟩
theorem mi_RX10_9 : zMI RX10 9 yX9_init := ⟨zt_a1 33 rfl rfl, rfl, Or.inr ⟨_, List.mem_of_getElem? (i := 0) rfl⟩⟩
theorem mi_RX10_24 : zMI RX10 24 yX6_init := ⟨zt_a2 62 rfl rfl, rfl, Or.inr ⟨_, List.mem_of_getElem? (i := 1) rfl⟩⟩
theorem mi_RX10_40 : zMI RX10 40 yX8_init := ⟨zt_a2 114 rfl rfl, rfl, Or.inr ⟨_, List.mem_of_getElem? (i := 2) rfl⟩⟩
theorem mi_RX10_66 : zMI RX10 66 yX1_init := ⟨zt_a1 39 rfl rfl, rfl, Or.inr ⟨_, List.mem_of_getElem? (i := 3) rfl⟩⟩
theorem ms_RX10_291 : zMS RX10 291 yX8_waysToSit := ⟨zt_a5 33 rfl rfl, Or.inr ⟨_, List.mem_of_getElem? (i := 4) rfl⟩⟩
theorem ms_RX10_318 : zMS RX10 318 yX8_leastLean := ⟨zt_a5 110 rfl rfl, Or.inr ⟨_, List.mem_of_getElem? (i := 5) rfl⟩⟩
theorem ms_RX2_31 : zMS RX2 31 yX10_within := ⟨zt_a2 184 rfl rfl, Or.inr ⟨_, List.mem_of_getElem? (i := 6) rfl⟩⟩
theorem ms_RX5_50 : zMS RX5 50 yX10_within := ⟨zt_a2 184 rfl rfl, Or.inr ⟨_, List.mem_of_getElem? (i := 7) rfl⟩⟩
theorem ms_RX6_91 : zMS RX6 91 yX10_within := ⟨zt_a2 184 rfl rfl, Or.inr ⟨_, List.mem_of_getElem? (i := 8) rfl⟩⟩
theorem mi_RX9_11 : zMI RX9 11 yX1_init := ⟨zt_a1 39 rfl rfl, rfl, Or.inr ⟨_, List.mem_of_getElem? (i := 9) rfl⟩⟩
theorem mi_RX9_20 : zMI RX9 20 yX3_init := ⟨zt_a1 115 rfl rfl, rfl, Or.inr ⟨_, List.mem_of_getElem? (i := 10) rfl⟩⟩
theorem mi_RX9_27 : zMI RX9 27 yX4_init := ⟨zt_a1 158 rfl rfl, rfl, Or.inr ⟨_, List.mem_of_getElem? (i := 11) rfl⟩⟩
theorem mi_RX9_37 : zMI RX9 37 yX2_init := ⟨zt_a1 186 rfl rfl, rfl, Or.inr ⟨_, List.mem_of_getElem? (i := 12) rfl⟩⟩
theorem mi_RX9_44 : zMI RX9 44 yX0_init := ⟨zt_a1 203 rfl rfl, rfl, Or.inr ⟨_, List.mem_of_getElem? (i := 13) rfl⟩⟩
theorem mi_RX9_51 : zMI RX9 51 yX5_init := ⟨zt_a1 230 rfl rfl, rfl, Or.inr ⟨_, List.mem_of_getElem? (i := 14) rfl⟩⟩

