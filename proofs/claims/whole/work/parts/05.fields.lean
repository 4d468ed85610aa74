theorem wX0 : ∀ w ∈ u_ws RX0 TX0 6, w ∈ TT := by
  intro w hw
  obtain ⟨k, hk, rfl⟩ := List.mem_map.mp hw
  have hk := List.mem_range.mp hk
  match k, hk with
  | 0, _ => exact TT_at 206 (by decide +kernel) rfl
  | 1, _ => exact TT_at 208 (by decide +kernel) rfl
  | 2, _ => exact TT_at 210 (by decide +kernel) rfl
  | 3, _ => exact TT_at 212 (by decide +kernel) rfl
  | 4, _ => exact TT_at 214 (by decide +kernel) rfl
  | 5, _ => exact TT_at 216 (by decide +kernel) rfl
  | k + 6, h => exact absurd h (by omega)
theorem cX0_ok : CLk 0 TX0 := ⟨RX0, 6, rfl, rfl, wX0, ⟨tyX0, tyX0_ok, by decide +kernel⟩, nmX0⟩
theorem wX1 : ∀ w ∈ u_ws RX1 TX1 9, w ∈ TT := by
  intro w hw
  obtain ⟨k, hk, rfl⟩ := List.mem_map.mp hw
  have hk := List.mem_range.mp hk
  match k, hk with
  | 0, _ => exact TT_at 171 (by decide +kernel) rfl
  | 1, _ => exact TT_at 173 (by decide +kernel) rfl
  | 2, _ => exact TT_at 175 (by decide +kernel) rfl
  | 3, _ => exact TT_at 177 (by decide +kernel) rfl
  | 4, _ => exact TT_at 179 (by decide +kernel) rfl
  | 5, _ => exact TT_at 181 (by decide +kernel) rfl
  | 6, _ => exact TT_at 183 (by decide +kernel) rfl
  | 7, _ => exact TT_at 185 (by decide +kernel) rfl
  | 8, _ => exact TT_at 187 (by decide +kernel) rfl
  | k + 9, h => exact absurd h (by omega)
theorem cX1_ok : CLk 1 TX1 := ⟨RX1, 9, rfl, rfl, wX1, ⟨tyX1, tyX1_ok, by decide +kernel⟩, nmX1⟩
theorem wX2 : ∀ w ∈ u_ws RX2 TX2 15, w ∈ TT := by
  intro w hw
  obtain ⟨k, hk, rfl⟩ := List.mem_map.mp hw
  have hk := List.mem_range.mp hk
  match k, hk with
  | 0, _ => exact TT_at 91 (by decide +kernel) rfl
  | 1, _ => exact TT_at 93 (by decide +kernel) rfl
  | 2, _ => exact TT_at 95 (by decide +kernel) rfl
  | 3, _ => exact TT_at 97 (by decide +kernel) rfl
  | 4, _ => exact TT_at 99 (by decide +kernel) rfl
  | 5, _ => exact TT_at 101 (by decide +kernel) rfl
  | 6, _ => exact TT_at 103 (by decide +kernel) rfl
  | 7, _ => exact TT_at 105 (by decide +kernel) rfl
  | 8, _ => exact TT_at 107 (by decide +kernel) rfl
  | 9, _ => exact TT_at 109 (by decide +kernel) rfl
  | 10, _ => exact TT_at 111 (by decide +kernel) rfl
  | 11, _ => exact TT_at 113 (by decide +kernel) rfl
  | 12, _ => exact TT_at 115 (by decide +kernel) rfl
  | 13, _ => exact TT_at 117 (by decide +kernel) rfl
  | 14, _ => exact TT_at 119 (by decide +kernel) rfl
  | k + 15, h => exact absurd h (by omega)
theorem cX2_ok : CLk 2 TX2 := ⟨RX2, 15, rfl, rfl, wX2, ⟨tyX2, tyX2_ok, by decide +kernel⟩, nmX2⟩
theorem wX3 : ∀ w ∈ u_ws RX3 TX3 3, w ∈ TT := by
  intro w hw
  obtain ⟨k, hk, rfl⟩ := List.mem_map.mp hw
  have hk := List.mem_range.mp hk
  match k, hk with
  | 0, _ => exact TT_at 145 (by decide +kernel) rfl
  | 1, _ => exact TT_at 147 (by decide +kernel) rfl
  | 2, _ => exact TT_at 149 (by decide +kernel) rfl
  | k + 3, h => exact absurd h (by omega)
theorem cX3_ok : CLk 3 TX3 := ⟨RX3, 3, rfl, rfl, wX3, ⟨tyX3, tyX3_ok, by decide +kernel⟩, nmX3⟩
theorem wX4 : ∀ w ∈ u_ws RX4 TX4 5, w ∈ TT := by
  intro w hw
  obtain ⟨k, hk, rfl⟩ := List.mem_map.mp hw
  have hk := List.mem_range.mp hk
  match k, hk with
  | 0, _ => exact TT_at 237 (by decide +kernel) rfl
  | 1, _ => exact TT_at 239 (by decide +kernel) rfl
  | 2, _ => exact TT_at 241 (by decide +kernel) rfl
  | 3, _ => exact TT_at 243 (by decide +kernel) rfl
  | 4, _ => exact TT_at 245 (by decide +kernel) rfl
  | k + 5, h => exact absurd h (by omega)
theorem cX4_ok : CLk 4 TX4 := ⟨RX4, 5, rfl, rfl, wX4, ⟨tyX4, tyX4_ok, by decide +kernel⟩, nmX4⟩
theorem wX5 : ∀ w ∈ u_ws RX5 TX5 1, w ∈ TT := by
  intro w hw
  obtain ⟨k, hk, rfl⟩ := List.mem_map.mp hw
  have hk := List.mem_range.mp hk
  match k, hk with
  | 0, _ => exact TT_at 131 (by decide +kernel) rfl
  | k + 1, h => exact absurd h (by omega)
theorem cX5_ok : CLk 5 TX5 := ⟨RX5, 1, rfl, rfl, wX5, ⟨tyX5, tyX5_ok, by decide +kernel⟩, nmX5⟩
theorem wX6 : ∀ w ∈ u_ws RX6 TX6 9, w ∈ TT := by
  intro w hw
  obtain ⟨k, hk, rfl⟩ := List.mem_map.mp hw
  have hk := List.mem_range.mp hk
  match k, hk with
  | 0, _ => exact TT_at 50 (by decide +kernel) rfl
  | 1, _ => exact TT_at 52 (by decide +kernel) rfl
  | 2, _ => exact TT_at 54 (by decide +kernel) rfl
  | 3, _ => exact TT_at 56 (by decide +kernel) rfl
  | 4, _ => exact TT_at 58 (by decide +kernel) rfl
  | 5, _ => exact TT_at 60 (by decide +kernel) rfl
  | 6, _ => exact TT_at 62 (by decide +kernel) rfl
  | 7, _ => exact TT_at 64 (by decide +kernel) rfl
  | 8, _ => exact TT_at 66 (by decide +kernel) rfl
  | k + 9, h => exact absurd h (by omega)
theorem cX6_ok : CLk 6 TX6 := ⟨RX6, 9, rfl, rfl, wX6, ⟨tyX6, tyX6_ok, by decide +kernel⟩, nmX6⟩
theorem wX7 : ∀ w ∈ u_ws RX7 TX7 9, w ∈ TT := by
  intro w hw
  obtain ⟨k, hk, rfl⟩ := List.mem_map.mp hw
  have hk := List.mem_range.mp hk
  match k, hk with
  | 0, _ => exact TT_at 258 (by decide +kernel) rfl
  | 1, _ => exact TT_at 260 (by decide +kernel) rfl
  | 2, _ => exact TT_at 262 (by decide +kernel) rfl
  | 3, _ => exact TT_at 264 (by decide +kernel) rfl
  | 4, _ => exact TT_at 266 (by decide +kernel) rfl
  | 5, _ => exact TT_at 268 (by decide +kernel) rfl
  | 6, _ => exact TT_at 270 (by decide +kernel) rfl
  | 7, _ => exact TT_at 272 (by decide +kernel) rfl
  | 8, _ => exact TT_at 274 (by decide +kernel) rfl
  | k + 9, h => exact absurd h (by omega)
theorem cX7_ok : CLk 7 TX7 := ⟨RX7, 9, rfl, rfl, wX7, ⟨tyX7, tyX7_ok, by decide +kernel⟩, nmX7⟩
theorem wX8 : ∀ w ∈ u_ws RX8 TX8 58, w ∈ TT := by
  intro w hw
  obtain ⟨k, hk, rfl⟩ := List.mem_map.mp hw
  have hk := List.mem_range.mp hk
  match k, hk with
  | 0, _ => exact TT_at 850 (by decide +kernel) rfl
  | 1, _ => exact TT_at 852 (by decide +kernel) rfl
  | 2, _ => exact TT_at 854 (by decide +kernel) rfl
  | 3, _ => exact TT_at 856 (by decide +kernel) rfl
  | 4, _ => exact TT_at 858 (by decide +kernel) rfl
  | 5, _ => exact TT_at 860 (by decide +kernel) rfl
  | 6, _ => exact TT_at 862 (by decide +kernel) rfl
  | 7, _ => exact TT_at 864 (by decide +kernel) rfl
  | 8, _ => exact TT_at 866 (by decide +kernel) rfl
  | 9, _ => exact TT_at 868 (by decide +kernel) rfl
  | 10, _ => exact TT_at 870 (by decide +kernel) rfl
  | 11, _ => exact TT_at 872 (by decide +kernel) rfl
  | 12, _ => exact TT_at 874 (by decide +kernel) rfl
  | 13, _ => exact TT_at 876 (by decide +kernel) rfl
  | 14, _ => exact TT_at 878 (by decide +kernel) rfl
  | 15, _ => exact TT_at 880 (by decide +kernel) rfl
  | 16, _ => exact TT_at 882 (by decide +kernel) rfl
  | 17, _ => exact TT_at 884 (by decide +kernel) rfl
  | 18, _ => exact TT_at 886 (by decide +kernel) rfl
  | 19, _ => exact TT_at 888 (by decide +kernel) rfl
  | 20, _ => exact TT_at 890 (by decide +kernel) rfl
  | 21, _ => exact TT_at 892 (by decide +kernel) rfl
  | 22, _ => exact TT_at 894 (by decide +kernel) rfl
  | 23, _ => exact TT_at 896 (by decide +kernel) rfl
  | 24, _ => exact TT_at 898 (by decide +kernel) rfl
  | 25, _ => exact TT_at 900 (by decide +kernel) rfl
  | 26, _ => exact TT_at 902 (by decide +kernel) rfl
  | 27, _ => exact TT_at 904 (by decide +kernel) rfl
  | 28, _ => exact TT_at 906 (by decide +kernel) rfl
  | 29, _ => exact TT_at 908 (by decide +kernel) rfl
  | 30, _ => exact TT_at 910 (by decide +kernel) rfl
  | 31, _ => exact TT_at 912 (by decide +kernel) rfl
  | 32, _ => exact TT_at 914 (by decide +kernel) rfl
  | 33, _ => exact TT_at 916 (by decide +kernel) rfl
  | 34, _ => exact TT_at 918 (by decide +kernel) rfl
  | 35, _ => exact TT_at 920 (by decide +kernel) rfl
  | 36, _ => exact TT_at 922 (by decide +kernel) rfl
  | 37, _ => exact TT_at 924 (by decide +kernel) rfl
  | 38, _ => exact TT_at 926 (by decide +kernel) rfl
  | 39, _ => exact TT_at 928 (by decide +kernel) rfl
  | 40, _ => exact TT_at 930 (by decide +kernel) rfl
  | 41, _ => exact TT_at 932 (by decide +kernel) rfl
  | 42, _ => exact TT_at 934 (by decide +kernel) rfl
  | 43, _ => exact TT_at 936 (by decide +kernel) rfl
  | 44, _ => exact TT_at 938 (by decide +kernel) rfl
  | 45, _ => exact TT_at 940 (by decide +kernel) rfl
  | 46, _ => exact TT_at 942 (by decide +kernel) rfl
  | 47, _ => exact TT_at 944 (by decide +kernel) rfl
  | 48, _ => exact TT_at 946 (by decide +kernel) rfl
  | 49, _ => exact TT_at 948 (by decide +kernel) rfl
  | 50, _ => exact TT_at 950 (by decide +kernel) rfl
  | 51, _ => exact TT_at 952 (by decide +kernel) rfl
  | 52, _ => exact TT_at 954 (by decide +kernel) rfl
  | 53, _ => exact TT_at 956 (by decide +kernel) rfl
  | 54, _ => exact TT_at 958 (by decide +kernel) rfl
  | 55, _ => exact TT_at 960 (by decide +kernel) rfl
  | 56, _ => exact TT_at 962 (by decide +kernel) rfl
  | 57, _ => exact TT_at 964 (by decide +kernel) rfl
  | k + 58, h => exact absurd h (by omega)
theorem cX8_ok : CLk 8 TX8 := ⟨RX8, 58, rfl, rfl, wX8, ⟨tyX8, tyX8_ok, by decide +kernel⟩, nmX8⟩
