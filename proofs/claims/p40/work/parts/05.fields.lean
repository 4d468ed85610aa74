theorem wX0 : ∀ w ∈ u_ws RX0 TX0 6, w ∈ TT := by
  intro w hw
  obtain ⟨k, hk, rfl⟩ := List.mem_map.mp hw
  have hk := List.mem_range.mp hk
  match k, hk with
  | 0, _ => exact TT_at 199 (by decide +kernel) rfl
  | 1, _ => exact TT_at 201 (by decide +kernel) rfl
  | 2, _ => exact TT_at 203 (by decide +kernel) rfl
  | 3, _ => exact TT_at 205 (by decide +kernel) rfl
  | 4, _ => exact TT_at 207 (by decide +kernel) rfl
  | 5, _ => exact TT_at 209 (by decide +kernel) rfl
  | k + 6, h => exact absurd h (by omega)
theorem cX0_ok : CLk 0 TX0 := ⟨RX0, 6, rfl, rfl, wX0, ⟨tyX0, tyX0_ok, by decide +kernel⟩, nmX0⟩
theorem wX1 : ∀ w ∈ u_ws RX1 TX1 9, w ∈ TT := by
  intro w hw
  obtain ⟨k, hk, rfl⟩ := List.mem_map.mp hw
  have hk := List.mem_range.mp hk
  match k, hk with
  | 0, _ => exact TT_at 170 (by decide +kernel) rfl
  | 1, _ => exact TT_at 172 (by decide +kernel) rfl
  | 2, _ => exact TT_at 174 (by decide +kernel) rfl
  | 3, _ => exact TT_at 176 (by decide +kernel) rfl
  | 4, _ => exact TT_at 178 (by decide +kernel) rfl
  | 5, _ => exact TT_at 180 (by decide +kernel) rfl
  | 6, _ => exact TT_at 182 (by decide +kernel) rfl
  | 7, _ => exact TT_at 184 (by decide +kernel) rfl
  | 8, _ => exact TT_at 186 (by decide +kernel) rfl
  | k + 9, h => exact absurd h (by omega)
theorem cX1_ok : CLk 1 TX1 := ⟨RX1, 9, rfl, rfl, wX1, ⟨tyX1, tyX1_ok, by decide +kernel⟩, nmX1⟩
theorem wX2 : ∀ w ∈ u_ws RX2 TX2 15, w ∈ TT := by
  intro w hw
  obtain ⟨k, hk, rfl⟩ := List.mem_map.mp hw
  have hk := List.mem_range.mp hk
  match k, hk with
  | 0, _ => exact TT_at 91 (by decide +kernel) rfl
  | 1, _ => exact TT_at 93 (by decide +kernel) rfl
  | 2, _ => exact TT_at 95 (by decide +kernel) rfl
  | 3, _ => exact TT_at 97 (by decide +kernel) rfl
  | 4, _ => exact TT_at 99 (by decide +kernel) rfl
  | 5, _ => exact TT_at 101 (by decide +kernel) rfl
  | 6, _ => exact TT_at 103 (by decide +kernel) rfl
  | 7, _ => exact TT_at 105 (by decide +kernel) rfl
  | 8, _ => exact TT_at 107 (by decide +kernel) rfl
  | 9, _ => exact TT_at 109 (by decide +kernel) rfl
  | 10, _ => exact TT_at 111 (by decide +kernel) rfl
  | 11, _ => exact TT_at 113 (by decide +kernel) rfl
  | 12, _ => exact TT_at 115 (by decide +kernel) rfl
  | 13, _ => exact TT_at 117 (by decide +kernel) rfl
  | 14, _ => exact TT_at 119 (by decide +kernel) rfl
  | k + 15, h => exact absurd h (by omega)
theorem cX2_ok : CLk 2 TX2 := ⟨RX2, 15, rfl, rfl, wX2, ⟨tyX2, tyX2_ok, by decide +kernel⟩, nmX2⟩
theorem wX3 : ∀ w ∈ u_ws RX3 TX3 3, w ∈ TT := by
  intro w hw
  obtain ⟨k, hk, rfl⟩ := List.mem_map.mp hw
  have hk := List.mem_range.mp hk
  match k, hk with
  | 0, _ => exact TT_at 145 (by decide +kernel) rfl
  | 1, _ => exact TT_at 147 (by decide +kernel) rfl
  | 2, _ => exact TT_at 149 (by decide +kernel) rfl
  | k + 3, h => exact absurd h (by omega)
theorem cX3_ok : CLk 3 TX3 := ⟨RX3, 3, rfl, rfl, wX3, ⟨tyX3, tyX3_ok, by decide +kernel⟩, nmX3⟩
theorem wX4 : ∀ w ∈ u_ws RX4 TX4 5, w ∈ TT := by
  intro w hw
  obtain ⟨k, hk, rfl⟩ := List.mem_map.mp hw
  have hk := List.mem_range.mp hk
  match k, hk with
  | 0, _ => exact TT_at 229 (by decide +kernel) rfl
  | 1, _ => exact TT_at 231 (by decide +kernel) rfl
  | 2, _ => exact TT_at 233 (by decide +kernel) rfl
  | 3, _ => exact TT_at 235 (by decide +kernel) rfl
  | 4, _ => exact TT_at 237 (by decide +kernel) rfl
  | k + 5, h => exact absurd h (by omega)
theorem cX4_ok : CLk 4 TX4 := ⟨RX4, 5, rfl, rfl, wX4, ⟨tyX4, tyX4_ok, by decide +kernel⟩, nmX4⟩
theorem wX5 : ∀ w ∈ u_ws RX5 TX5 1, w ∈ TT := by
  intro w hw
  obtain ⟨k, hk, rfl⟩ := List.mem_map.mp hw
  have hk := List.mem_range.mp hk
  match k, hk with
  | 0, _ => exact TT_at 131 (by decide +kernel) rfl
  | k + 1, h => exact absurd h (by omega)
theorem cX5_ok : CLk 5 TX5 := ⟨RX5, 1, rfl, rfl, wX5, ⟨tyX5, tyX5_ok, by decide +kernel⟩, nmX5⟩
theorem wX6 : ∀ w ∈ u_ws RX6 TX6 9, w ∈ TT := by
  intro w hw
  obtain ⟨k, hk, rfl⟩ := List.mem_map.mp hw
  have hk := List.mem_range.mp hk
  match k, hk with
  | 0, _ => exact TT_at 50 (by decide +kernel) rfl
  | 1, _ => exact TT_at 52 (by decide +kernel) rfl
  | 2, _ => exact TT_at 54 (by decide +kernel) rfl
  | 3, _ => exact TT_at 56 (by decide +kernel) rfl
  | 4, _ => exact TT_at 58 (by decide +kernel) rfl
  | 5, _ => exact TT_at 60 (by decide +kernel) rfl
  | 6, _ => exact TT_at 62 (by decide +kernel) rfl
  | 7, _ => exact TT_at 64 (by decide +kernel) rfl
  | 8, _ => exact TT_at 66 (by decide +kernel) rfl
  | k + 9, h => exact absurd h (by omega)
theorem cX6_ok : CLk 6 TX6 := ⟨RX6, 9, rfl, rfl, wX6, ⟨tyX6, tyX6_ok, by decide +kernel⟩, nmX6⟩
theorem wX7 : ∀ w ∈ u_ws RX7 TX7 9, w ∈ TT := by
  intro w hw
  obtain ⟨k, hk, rfl⟩ := List.mem_map.mp hw
  have hk := List.mem_range.mp hk
  match k, hk with
  | 0, _ => exact TT_at 250 (by decide +kernel) rfl
  | 1, _ => exact TT_at 252 (by decide +kernel) rfl
  | 2, _ => exact TT_at 254 (by decide +kernel) rfl
  | 3, _ => exact TT_at 256 (by decide +kernel) rfl
  | 4, _ => exact TT_at 258 (by decide +kernel) rfl
  | 5, _ => exact TT_at 260 (by decide +kernel) rfl
  | 6, _ => exact TT_at 262 (by decide +kernel) rfl
  | 7, _ => exact TT_at 264 (by decide +kernel) rfl
  | 8, _ => exact TT_at 266 (by decide +kernel) rfl
  | k + 9, h => exact absurd h (by omega)
theorem cX7_ok : CLk 7 TX7 := ⟨RX7, 9, rfl, rfl, wX7, ⟨tyX7, tyX7_ok, by decide +kernel⟩, nmX7⟩
