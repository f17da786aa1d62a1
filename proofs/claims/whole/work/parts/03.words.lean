def FU : Nat := 4000
theorem wObjI : Cond.instanceMethod objectInit ∈ GW := gw1 (List.mem_of_getElem? (i := 24) (by decide +kernel)) rfl
theorem wObjC : Cond.code objectInit ⟨#[0xb1]⟩ 1 none ∈ GW := gw1 (List.mem_of_getElem? (i := 25) (by decide +kernel)) rfl
theorem inC0 : ∀ w ∈ u_ws RX0 TX0 3, w ∈ GW := by
  intro w hw
  obtain ⟨k, hk, rfl⟩ := List.mem_map.mp hw
  have hk : k < 3 := List.mem_range.mp hk
  match k, hk with
  | 0, _ => exact gw1 (List.mem_of_getElem? (i := 68) (by decide +kernel)) rfl
  | 1, _ => exact gw1 (List.mem_of_getElem? (i := 70) (by decide +kernel)) rfl
  | 2, _ => exact gw1 (List.mem_of_getElem? (i := 72) (by decide +kernel)) rfl
  | k + 3, hk => exact absurd hk (by omega)
theorem cl0 : CLo 0 := ⟨_, _, _, tyX0, rfl, inC0, tyX0_ok, nmX0⟩
theorem cw0 : ∃ C T N, vwCl[0]? = some (C, T, N) ∧ C = RX0 := ⟨_, _, _, rfl, rfl⟩
theorem inC1 : ∀ w ∈ u_ws RX1 TX1 3, w ∈ GW := by
  intro w hw
  obtain ⟨k, hk, rfl⟩ := List.mem_map.mp hw
  have hk : k < 3 := List.mem_range.mp hk
  match k, hk with
  | 0, _ => exact gw1 (List.mem_of_getElem? (i := 112) (by decide +kernel)) rfl
  | 1, _ => exact gw1 (List.mem_of_getElem? (i := 114) (by decide +kernel)) rfl
  | 2, _ => exact gw1 (List.mem_of_getElem? (i := 116) (by decide +kernel)) rfl
  | k + 3, hk => exact absurd hk (by omega)
theorem cl1 : CLo 1 := ⟨_, _, _, tyX1, rfl, inC1, tyX1_ok, nmX1⟩
theorem cw1 : ∃ C T N, vwCl[1]? = some (C, T, N) ∧ C = RX1 := ⟨_, _, _, rfl, rfl⟩
theorem inC2 : ∀ w ∈ u_ws RX2 TX2 9, w ∈ GW := by
  intro w hw
  obtain ⟨k, hk, rfl⟩ := List.mem_map.mp hw
  have hk : k < 9 := List.mem_range.mp hk
  match k, hk with
  | 0, _ => exact gw1 (List.mem_of_getElem? (i := 192) (by decide +kernel)) rfl
  | 1, _ => exact gw1 (List.mem_of_getElem? (i := 194) (by decide +kernel)) rfl
  | 2, _ => exact gw1 (List.mem_of_getElem? (i := 196) (by decide +kernel)) rfl
  | 3, _ => exact gw1 (List.mem_of_getElem? (i := 198) (by decide +kernel)) rfl
  | 4, _ => exact gw1 (List.mem_of_getElem? (i := 200) (by decide +kernel)) rfl
  | 5, _ => exact gw1 (List.mem_of_getElem? (i := 202) (by decide +kernel)) rfl
  | 6, _ => exact gw1 (List.mem_of_getElem? (i := 204) (by decide +kernel)) rfl
  | 7, _ => exact gw1 (List.mem_of_getElem? (i := 206) (by decide +kernel)) rfl
  | 8, _ => exact gw1 (List.mem_of_getElem? (i := 208) (by decide +kernel)) rfl
  | k + 9, hk => exact absurd hk (by omega)
theorem cl2 : CLo 2 := ⟨_, _, _, tyX2, rfl, inC2, tyX2_ok, nmX2⟩
theorem cw2 : ∃ C T N, vwCl[2]? = some (C, T, N) ∧ C = RX2 := ⟨_, _, _, rfl, rfl⟩
theorem inC3 : ∀ w ∈ u_ws RX3 TX3 5, w ∈ GW := by
  intro w hw
  obtain ⟨k, hk, rfl⟩ := List.mem_map.mp hw
  have hk : k < 5 := List.mem_range.mp hk
  match k, hk with
  | 0, _ => exact gw1 (List.mem_of_getElem? (i := 147) (by decide +kernel)) rfl
  | 1, _ => exact gw1 (List.mem_of_getElem? (i := 149) (by decide +kernel)) rfl
  | 2, _ => exact gw1 (List.mem_of_getElem? (i := 151) (by decide +kernel)) rfl
  | 3, _ => exact gw1 (List.mem_of_getElem? (i := 153) (by decide +kernel)) rfl
  | 4, _ => exact gw1 (List.mem_of_getElem? (i := 155) (by decide +kernel)) rfl
  | k + 5, hk => exact absurd hk (by omega)
theorem cl3 : CLo 3 := ⟨_, _, _, tyX3, rfl, inC3, tyX3_ok, nmX3⟩
theorem cw3 : ∃ C T N, vwCl[3]? = some (C, T, N) ∧ C = RX3 := ⟨_, _, _, rfl, rfl⟩
theorem inC4 : ∀ w ∈ u_ws RX4 TX4 6, w ∈ GW := by
  intro w hw
  obtain ⟨k, hk, rfl⟩ := List.mem_map.mp hw
  have hk : k < 6 := List.mem_range.mp hk
  match k, hk with
  | 0, _ => exact gw1 (List.mem_of_getElem? (i := 225) (by decide +kernel)) rfl
  | 1, _ => exact gw1 (List.mem_of_getElem? (i := 227) (by decide +kernel)) rfl
  | 2, _ => exact gw1 (List.mem_of_getElem? (i := 229) (by decide +kernel)) rfl
  | 3, _ => exact gw1 (List.mem_of_getElem? (i := 231) (by decide +kernel)) rfl
  | 4, _ => exact gw1 (List.mem_of_getElem? (i := 233) (by decide +kernel)) rfl
  | 5, _ => exact gw1 (List.mem_of_getElem? (i := 235) (by decide +kernel)) rfl
  | k + 6, hk => exact absurd hk (by omega)
theorem cl4 : CLo 4 := ⟨_, _, _, tyX4, rfl, inC4, tyX4_ok, nmX4⟩
theorem cw4 : ∃ C T N, vwCl[4]? = some (C, T, N) ∧ C = RX4 := ⟨_, _, _, rfl, rfl⟩
theorem inC5 : ∀ w ∈ u_ws RX5 TX5 5, w ∈ GW := by
  intro w hw
  obtain ⟨k, hk, rfl⟩ := List.mem_map.mp hw
  have hk : k < 5 := List.mem_range.mp hk
  match k, hk with
  | 0, _ => exact gw2 (List.mem_of_getElem? (i := 61) (by decide +kernel)) rfl
  | 1, _ => exact gw2 (List.mem_of_getElem? (i := 63) (by decide +kernel)) rfl
  | 2, _ => exact gw2 (List.mem_of_getElem? (i := 65) (by decide +kernel)) rfl
  | 3, _ => exact gw2 (List.mem_of_getElem? (i := 67) (by decide +kernel)) rfl
  | 4, _ => exact gw2 (List.mem_of_getElem? (i := 69) (by decide +kernel)) rfl
  | k + 5, hk => exact absurd hk (by omega)
theorem cl5 : CLo 5 := ⟨_, _, _, tyX5, rfl, inC5, tyX5_ok, nmX5⟩
theorem cw5 : ∃ C T N, vwCl[5]? = some (C, T, N) ∧ C = RX5 := ⟨_, _, _, rfl, rfl⟩
theorem inC6 : ∀ w ∈ u_ws RX6 TX6 5, w ∈ GW := by
  intro w hw
  obtain ⟨k, hk, rfl⟩ := List.mem_map.mp hw
  have hk : k < 5 := List.mem_range.mp hk
  match k, hk with
  | 0, _ => exact gw1 (List.mem_of_getElem? (i := 165) (by decide +kernel)) rfl
  | 1, _ => exact gw1 (List.mem_of_getElem? (i := 167) (by decide +kernel)) rfl
  | 2, _ => exact gw1 (List.mem_of_getElem? (i := 169) (by decide +kernel)) rfl
  | 3, _ => exact gw1 (List.mem_of_getElem? (i := 171) (by decide +kernel)) rfl
  | 4, _ => exact gw1 (List.mem_of_getElem? (i := 173) (by decide +kernel)) rfl
  | k + 5, hk => exact absurd hk (by omega)
theorem cl6 : CLo 6 := ⟨_, _, _, tyX6, rfl, inC6, tyX6_ok, nmX6⟩
theorem cw6 : ∃ C T N, vwCl[6]? = some (C, T, N) ∧ C = RX6 := ⟨_, _, _, rfl, rfl⟩
theorem inC7 : ∀ w ∈ u_ws RX7 TX7 5, w ∈ GW := by
  intro w hw
  obtain ⟨k, hk, rfl⟩ := List.mem_map.mp hw
  have hk : k < 5 := List.mem_range.mp hk
  match k, hk with
  | 0, _ => exact gw1 (List.mem_of_getElem? (i := 44) (by decide +kernel)) rfl
  | 1, _ => exact gw1 (List.mem_of_getElem? (i := 46) (by decide +kernel)) rfl
  | 2, _ => exact gw1 (List.mem_of_getElem? (i := 48) (by decide +kernel)) rfl
  | 3, _ => exact gw1 (List.mem_of_getElem? (i := 50) (by decide +kernel)) rfl
  | 4, _ => exact gw1 (List.mem_of_getElem? (i := 52) (by decide +kernel)) rfl
  | k + 5, hk => exact absurd hk (by omega)
theorem cl7 : CLo 7 := ⟨_, _, _, tyX7, rfl, inC7, tyX7_ok, nmX7⟩
theorem cw7 : ∃ C T N, vwCl[7]? = some (C, T, N) ∧ C = RX7 := ⟨_, _, _, rfl, rfl⟩
theorem inC8 : ∀ w ∈ u_ws RX8 TX8 5, w ∈ GW := by
  intro w hw
  obtain ⟨k, hk, rfl⟩ := List.mem_map.mp hw
  have hk : k < 5 := List.mem_range.mp hk
  match k, hk with
  | 0, _ => exact gw1 (List.mem_of_getElem? (i := 97) (by decide +kernel)) rfl
  | 1, _ => exact gw1 (List.mem_of_getElem? (i := 99) (by decide +kernel)) rfl
  | 2, _ => exact gw1 (List.mem_of_getElem? (i := 101) (by decide +kernel)) rfl
  | 3, _ => exact gw1 (List.mem_of_getElem? (i := 103) (by decide +kernel)) rfl
  | 4, _ => exact gw1 (List.mem_of_getElem? (i := 105) (by decide +kernel)) rfl
  | k + 5, hk => exact absurd hk (by omega)
theorem cl8 : CLo 8 := ⟨_, _, _, tyX8, rfl, inC8, tyX8_ok, nmX8⟩
theorem cw8 : ∃ C T N, vwCl[8]? = some (C, T, N) ∧ C = RX8 := ⟨_, _, _, rfl, rfl⟩
theorem inC9 : ∀ w ∈ u_ws RX9 TX9 10, w ∈ GW := by
  intro w hw
  obtain ⟨k, hk, rfl⟩ := List.mem_map.mp hw
  have hk : k < 10 := List.mem_range.mp hk
  match k, hk with
  | 0, _ => exact gw2 (List.mem_of_getElem? (i := 8) (by decide +kernel)) rfl
  | 1, _ => exact gw2 (List.mem_of_getElem? (i := 10) (by decide +kernel)) rfl
  | 2, _ => exact gw2 (List.mem_of_getElem? (i := 12) (by decide +kernel)) rfl
  | 3, _ => exact gw2 (List.mem_of_getElem? (i := 14) (by decide +kernel)) rfl
  | 4, _ => exact gw2 (List.mem_of_getElem? (i := 16) (by decide +kernel)) rfl
  | 5, _ => exact gw2 (List.mem_of_getElem? (i := 18) (by decide +kernel)) rfl
  | 6, _ => exact gw2 (List.mem_of_getElem? (i := 20) (by decide +kernel)) rfl
  | 7, _ => exact gw2 (List.mem_of_getElem? (i := 22) (by decide +kernel)) rfl
  | 8, _ => exact gw2 (List.mem_of_getElem? (i := 24) (by decide +kernel)) rfl
  | 9, _ => exact gw2 (List.mem_of_getElem? (i := 26) (by decide +kernel)) rfl
  | k + 10, hk => exact absurd hk (by omega)
theorem cl9 : CLo 9 := ⟨_, _, _, tyX9, rfl, inC9, tyX9_ok, nmX9⟩
theorem cw9 : ∃ C T N, vwCl[9]? = some (C, T, N) ∧ C = RX9 := ⟨_, _, _, rfl, rfl⟩
theorem inC10 : ∀ w ∈ u_ws RX10 TX10 44, w ∈ GW := by
  intro w hw
  obtain ⟨k, hk, rfl⟩ := List.mem_map.mp hw
  have hk : k < 44 := List.mem_range.mp hk
  match k, hk with
  | 0, _ => exact gw4 (List.mem_of_getElem? (i := 25) (by decide +kernel)) rfl
  | 1, _ => exact gw4 (List.mem_of_getElem? (i := 27) (by decide +kernel)) rfl
  | 2, _ => exact gw4 (List.mem_of_getElem? (i := 29) (by decide +kernel)) rfl
  | 3, _ => exact gw4 (List.mem_of_getElem? (i := 31) (by decide +kernel)) rfl
  | 4, _ => exact gw4 (List.mem_of_getElem? (i := 33) (by decide +kernel)) rfl
  | 5, _ => exact gw4 (List.mem_of_getElem? (i := 35) (by decide +kernel)) rfl
  | 6, _ => exact gw4 (List.mem_of_getElem? (i := 37) (by decide +kernel)) rfl
  | 7, _ => exact gw4 (List.mem_of_getElem? (i := 39) (by decide +kernel)) rfl
  | 8, _ => exact gw4 (List.mem_of_getElem? (i := 41) (by decide +kernel)) rfl
  | 9, _ => exact gw4 (List.mem_of_getElem? (i := 43) (by decide +kernel)) rfl
  | 10, _ => exact gw4 (List.mem_of_getElem? (i := 45) (by decide +kernel)) rfl
  | 11, _ => exact gw4 (List.mem_of_getElem? (i := 47) (by decide +kernel)) rfl
  | 12, _ => exact gw4 (List.mem_of_getElem? (i := 49) (by decide +kernel)) rfl
  | 13, _ => exact gw4 (List.mem_of_getElem? (i := 51) (by decide +kernel)) rfl
  | 14, _ => exact gw4 (List.mem_of_getElem? (i := 53) (by decide +kernel)) rfl
  | 15, _ => exact gw4 (List.mem_of_getElem? (i := 55) (by decide +kernel)) rfl
  | 16, _ => exact gw4 (List.mem_of_getElem? (i := 57) (by decide +kernel)) rfl
  | 17, _ => exact gw4 (List.mem_of_getElem? (i := 59) (by decide +kernel)) rfl
  | 18, _ => exact gw4 (List.mem_of_getElem? (i := 61) (by decide +kernel)) rfl
  | 19, _ => exact gw4 (List.mem_of_getElem? (i := 63) (by decide +kernel)) rfl
  | 20, _ => exact gw4 (List.mem_of_getElem? (i := 65) (by decide +kernel)) rfl
  | 21, _ => exact gw4 (List.mem_of_getElem? (i := 67) (by decide +kernel)) rfl
  | 22, _ => exact gw4 (List.mem_of_getElem? (i := 69) (by decide +kernel)) rfl
  | 23, _ => exact gw4 (List.mem_of_getElem? (i := 71) (by decide +kernel)) rfl
  | 24, _ => exact gw4 (List.mem_of_getElem? (i := 73) (by decide +kernel)) rfl
  | 25, _ => exact gw4 (List.mem_of_getElem? (i := 75) (by decide +kernel)) rfl
  | 26, _ => exact gw4 (List.mem_of_getElem? (i := 77) (by decide +kernel)) rfl
  | 27, _ => exact gw4 (List.mem_of_getElem? (i := 79) (by decide +kernel)) rfl
  | 28, _ => exact gw4 (List.mem_of_getElem? (i := 81) (by decide +kernel)) rfl
  | 29, _ => exact gw4 (List.mem_of_getElem? (i := 83) (by decide +kernel)) rfl
  | 30, _ => exact gw4 (List.mem_of_getElem? (i := 85) (by decide +kernel)) rfl
  | 31, _ => exact gw4 (List.mem_of_getElem? (i := 87) (by decide +kernel)) rfl
  | 32, _ => exact gw4 (List.mem_of_getElem? (i := 89) (by decide +kernel)) rfl
  | 33, _ => exact gw4 (List.mem_of_getElem? (i := 91) (by decide +kernel)) rfl
  | 34, _ => exact gw4 (List.mem_of_getElem? (i := 93) (by decide +kernel)) rfl
  | 35, _ => exact gw4 (List.mem_of_getElem? (i := 95) (by decide +kernel)) rfl
  | 36, _ => exact gw4 (List.mem_of_getElem? (i := 97) (by decide +kernel)) rfl
  | 37, _ => exact gw4 (List.mem_of_getElem? (i := 99) (by decide +kernel)) rfl
  | 38, _ => exact gw4 (List.mem_of_getElem? (i := 101) (by decide +kernel)) rfl
  | 39, _ => exact gw4 (List.mem_of_getElem? (i := 103) (by decide +kernel)) rfl
  | 40, _ => exact gw4 (List.mem_of_getElem? (i := 105) (by decide +kernel)) rfl
  | 41, _ => exact gw4 (List.mem_of_getElem? (i := 107) (by decide +kernel)) rfl
  | 42, _ => exact gw4 (List.mem_of_getElem? (i := 109) (by decide +kernel)) rfl
  | 43, _ => exact gw4 (List.mem_of_getElem? (i := 111) (by decide +kernel)) rfl
  | k + 44, hk => exact absurd hk (by omega)
theorem cl10 : CLo 10 := ⟨_, _, _, tyX10, rfl, inC10, tyX10_ok, nmX10⟩
theorem cw10 : ∃ C T N, vwCl[10]? = some (C, T, N) ∧ C = RX10 := ⟨_, _, _, rfl, rfl⟩
theorem ft0_0 : FT 0 0 false .int := ⟨_, _, _, rfl, rfl, rfl, by decide +kernel⟩
theorem ft0_1 : FT 0 1 false .int := ⟨_, _, _, rfl, rfl, rfl, by decide +kernel⟩
theorem ft0_2 : FT 0 2 false .int := ⟨_, _, _, rfl, rfl, rfl, by decide +kernel⟩
theorem ft1_0 : FT 1 0 true (.object "GoldLeaves$Tape") := ⟨_, _, _, rfl, rfl, rfl, by decide +kernel⟩
theorem ft1_1 : FT 1 1 true (.array .int) := ⟨_, _, _, rfl, rfl, rfl, by decide +kernel⟩
theorem ft1_2 : FT 1 2 true (.array .int) := ⟨_, _, _, rfl, rfl, rfl, by decide +kernel⟩
theorem ft2_0 : FT 2 0 true (.array .int) := ⟨_, _, _, rfl, rfl, rfl, by decide +kernel⟩
theorem ft2_1 : FT 2 1 true (.array .int) := ⟨_, _, _, rfl, rfl, rfl, by decide +kernel⟩
theorem ft2_2 : FT 2 2 true (.array .int) := ⟨_, _, _, rfl, rfl, rfl, by decide +kernel⟩
theorem ft2_3 : FT 2 3 true (.array .int) := ⟨_, _, _, rfl, rfl, rfl, by decide +kernel⟩
theorem ft2_4 : FT 2 4 false .int := ⟨_, _, _, rfl, rfl, rfl, by decide +kernel⟩
theorem ft2_5 : FT 2 5 true (.array .int) := ⟨_, _, _, rfl, rfl, rfl, by decide +kernel⟩
theorem ft2_6 : FT 2 6 true (.array .int) := ⟨_, _, _, rfl, rfl, rfl, by decide +kernel⟩
theorem ft2_7 : FT 2 7 true (.array .int) := ⟨_, _, _, rfl, rfl, rfl, by decide +kernel⟩
theorem ft2_8 : FT 2 8 false .int := ⟨_, _, _, rfl, rfl, rfl, by decide +kernel⟩
theorem ft3_0 : FT 3 0 false .int := ⟨_, _, _, rfl, rfl, rfl, by decide +kernel⟩
theorem ft3_1 : FT 3 1 false .int := ⟨_, _, _, rfl, rfl, rfl, by decide +kernel⟩
theorem ft3_2 : FT 3 2 false .int := ⟨_, _, _, rfl, rfl, rfl, by decide +kernel⟩
theorem ft3_3 : FT 3 3 false .int := ⟨_, _, _, rfl, rfl, rfl, by decide +kernel⟩
theorem ft3_4 : FT 3 4 false .int := ⟨_, _, _, rfl, rfl, rfl, by decide +kernel⟩
theorem ft4_0 : FT 4 0 false .int := ⟨_, _, _, rfl, rfl, rfl, by decide +kernel⟩
theorem ft4_1 : FT 4 1 false .int := ⟨_, _, _, rfl, rfl, rfl, by decide +kernel⟩
theorem ft4_2 : FT 4 2 true (.array .int) := ⟨_, _, _, rfl, rfl, rfl, by decide +kernel⟩
theorem ft4_3 : FT 4 3 true (.array .int) := ⟨_, _, _, rfl, rfl, rfl, by decide +kernel⟩
theorem ft4_4 : FT 4 4 true (.array .int) := ⟨_, _, _, rfl, rfl, rfl, by decide +kernel⟩
theorem ft4_5 : FT 4 5 true (.array .int) := ⟨_, _, _, rfl, rfl, rfl, by decide +kernel⟩
theorem ft5_0 : FT 5 0 true (.array .int) := ⟨_, _, _, rfl, rfl, rfl, by decide +kernel⟩
theorem ft5_1 : FT 5 1 false .int := ⟨_, _, _, rfl, rfl, rfl, by decide +kernel⟩
theorem ft5_2 : FT 5 2 false .int := ⟨_, _, _, rfl, rfl, rfl, by decide +kernel⟩
theorem ft5_3 : FT 5 3 false .int := ⟨_, _, _, rfl, rfl, rfl, by decide +kernel⟩
theorem ft5_4 : FT 5 4 false .boolean := ⟨_, _, _, rfl, rfl, rfl, by decide +kernel⟩
theorem ft6_0 : FT 6 0 true (.array (.object "GoldLeaves$PackNeed")) := ⟨_, _, _, rfl, rfl, rfl, by decide +kernel⟩
theorem ft6_1 : FT 6 1 true (.array .int) := ⟨_, _, _, rfl, rfl, rfl, by decide +kernel⟩
theorem ft6_2 : FT 6 2 true (.array .int) := ⟨_, _, _, rfl, rfl, rfl, by decide +kernel⟩
theorem ft6_3 : FT 6 3 true (.array .boolean) := ⟨_, _, _, rfl, rfl, rfl, by decide +kernel⟩
theorem ft6_4 : FT 6 4 false .int := ⟨_, _, _, rfl, rfl, rfl, by decide +kernel⟩
theorem ft7_0 : FT 7 0 true (.array (.object "GoldLeaves$Piece")) := ⟨_, _, _, rfl, rfl, rfl, by decide +kernel⟩
theorem ft7_1 : FT 7 1 true (.array (.array .int)) := ⟨_, _, _, rfl, rfl, rfl, by decide +kernel⟩
theorem ft7_2 : FT 7 2 true (.array .long) := ⟨_, _, _, rfl, rfl, rfl, by decide +kernel⟩
theorem ft7_3 : FT 7 3 false .int := ⟨_, _, _, rfl, rfl, rfl, by decide +kernel⟩
theorem ft7_4 : FT 7 4 false .int := ⟨_, _, _, rfl, rfl, rfl, by decide +kernel⟩
theorem ft8_0 : FT 8 0 true (.array .int) := ⟨_, _, _, rfl, rfl, rfl, by decide +kernel⟩
theorem ft8_1 : FT 8 1 false .int := ⟨_, _, _, rfl, rfl, rfl, by decide +kernel⟩
theorem ft8_2 : FT 8 2 false .int := ⟨_, _, _, rfl, rfl, rfl, by decide +kernel⟩
theorem ft8_3 : FT 8 3 false .int := ⟨_, _, _, rfl, rfl, rfl, by decide +kernel⟩
theorem ft8_4 : FT 8 4 false .int := ⟨_, _, _, rfl, rfl, rfl, by decide +kernel⟩
theorem ft9_0 : FT 9 0 true (.object "GoldLeaves$Stock") := ⟨_, _, _, rfl, rfl, rfl, by decide +kernel⟩
theorem ft9_1 : FT 9 1 true (.object "GoldLeaves$Bindery") := ⟨_, _, _, rfl, rfl, rfl, by decide +kernel⟩
theorem ft9_2 : FT 9 2 true (.object "GoldLeaves$ColourReader") := ⟨_, _, _, rfl, rfl, rfl, by decide +kernel⟩
theorem ft9_3 : FT 9 3 true (.object "GoldLeaves$Tape") := ⟨_, _, _, rfl, rfl, rfl, by decide +kernel⟩
theorem ft9_4 : FT 9 4 true (.object "GoldLeaves$SkinChest") := ⟨_, _, _, rfl, rfl, rfl, by decide +kernel⟩
theorem ft9_5 : FT 9 5 true (.object "GoldLeaves$Gatehouse") := ⟨_, _, _, rfl, rfl, rfl, by decide +kernel⟩
theorem ft9_6 : FT 9 6 false (.object "GoldLeaves$Palette") := ⟨_, _, _, rfl, rfl, rfl, by decide +kernel⟩
theorem ft9_7 : FT 9 7 false (.object "GoldLeaves$Palette") := ⟨_, _, _, rfl, rfl, rfl, by decide +kernel⟩
theorem ft9_8 : FT 9 8 false .int := ⟨_, _, _, rfl, rfl, rfl, by decide +kernel⟩
theorem ft9_9 : FT 9 9 false .int := ⟨_, _, _, rfl, rfl, rfl, by decide +kernel⟩
theorem ft10_0 : FT 10 0 false .int := ⟨_, _, _, rfl, rfl, rfl, by decide +kernel⟩
theorem ft10_1 : FT 10 1 false .int := ⟨_, _, _, rfl, rfl, rfl, by decide +kernel⟩
theorem ft10_2 : FT 10 2 false .int := ⟨_, _, _, rfl, rfl, rfl, by decide +kernel⟩
theorem ft10_3 : FT 10 3 true (.array .int) := ⟨_, _, _, rfl, rfl, rfl, by decide +kernel⟩
theorem ft10_4 : FT 10 4 false .int := ⟨_, _, _, rfl, rfl, rfl, by decide +kernel⟩
theorem ft10_5 : FT 10 5 true (.array .boolean) := ⟨_, _, _, rfl, rfl, rfl, by decide +kernel⟩
theorem ft10_6 : FT 10 6 true (.array .int) := ⟨_, _, _, rfl, rfl, rfl, by decide +kernel⟩
theorem ft10_7 : FT 10 7 true (.array .int) := ⟨_, _, _, rfl, rfl, rfl, by decide +kernel⟩
theorem ft10_8 : FT 10 8 true (.array .int) := ⟨_, _, _, rfl, rfl, rfl, by decide +kernel⟩
theorem ft10_9 : FT 10 9 false .int := ⟨_, _, _, rfl, rfl, rfl, by decide +kernel⟩
theorem ft10_10 : FT 10 10 false .int := ⟨_, _, _, rfl, rfl, rfl, by decide +kernel⟩
theorem ft10_11 : FT 10 11 true (.array .int) := ⟨_, _, _, rfl, rfl, rfl, by decide +kernel⟩
theorem ft10_12 : FT 10 12 true (.array .int) := ⟨_, _, _, rfl, rfl, rfl, by decide +kernel⟩
theorem ft10_13 : FT 10 13 false .int := ⟨_, _, _, rfl, rfl, rfl, by decide +kernel⟩
theorem ft10_14 : FT 10 14 false .int := ⟨_, _, _, rfl, rfl, rfl, by decide +kernel⟩
theorem ft10_15 : FT 10 15 true (.array .int) := ⟨_, _, _, rfl, rfl, rfl, by decide +kernel⟩
theorem ft10_16 : FT 10 16 true (.array .int) := ⟨_, _, _, rfl, rfl, rfl, by decide +kernel⟩
theorem ft10_17 : FT 10 17 true (.array .int) := ⟨_, _, _, rfl, rfl, rfl, by decide +kernel⟩
theorem ft10_18 : FT 10 18 true (.array .int) := ⟨_, _, _, rfl, rfl, rfl, by decide +kernel⟩
theorem ft10_19 : FT 10 19 true (.array .int) := ⟨_, _, _, rfl, rfl, rfl, by decide +kernel⟩
theorem ft10_20 : FT 10 20 false .int := ⟨_, _, _, rfl, rfl, rfl, by decide +kernel⟩
theorem ft10_21 : FT 10 21 false .int := ⟨_, _, _, rfl, rfl, rfl, by decide +kernel⟩
theorem ft10_22 : FT 10 22 false .int := ⟨_, _, _, rfl, rfl, rfl, by decide +kernel⟩
theorem ft10_23 : FT 10 23 false .int := ⟨_, _, _, rfl, rfl, rfl, by decide +kernel⟩
theorem ft10_24 : FT 10 24 false .long := ⟨_, _, _, rfl, rfl, rfl, by decide +kernel⟩
theorem ft10_25 : FT 10 25 false .int := ⟨_, _, _, rfl, rfl, rfl, by decide +kernel⟩
theorem ft10_26 : FT 10 26 false .boolean := ⟨_, _, _, rfl, rfl, rfl, by decide +kernel⟩
theorem ft10_27 : FT 10 27 false .int := ⟨_, _, _, rfl, rfl, rfl, by decide +kernel⟩
theorem ft10_28 : FT 10 28 true (.array .int) := ⟨_, _, _, rfl, rfl, rfl, by decide +kernel⟩
theorem ft10_29 : FT 10 29 true (.array .int) := ⟨_, _, _, rfl, rfl, rfl, by decide +kernel⟩
theorem ft10_30 : FT 10 30 true (.array .boolean) := ⟨_, _, _, rfl, rfl, rfl, by decide +kernel⟩
theorem ft10_31 : FT 10 31 true (.array .int) := ⟨_, _, _, rfl, rfl, rfl, by decide +kernel⟩
theorem ft10_32 : FT 10 32 true (.array .int) := ⟨_, _, _, rfl, rfl, rfl, by decide +kernel⟩
theorem ft10_33 : FT 10 33 true (.array .int) := ⟨_, _, _, rfl, rfl, rfl, by decide +kernel⟩
theorem ft10_34 : FT 10 34 false .int := ⟨_, _, _, rfl, rfl, rfl, by decide +kernel⟩
theorem ft10_35 : FT 10 35 false .int := ⟨_, _, _, rfl, rfl, rfl, by decide +kernel⟩
theorem ft10_36 : FT 10 36 true (.array .int) := ⟨_, _, _, rfl, rfl, rfl, by decide +kernel⟩
theorem ft10_37 : FT 10 37 true (.array .int) := ⟨_, _, _, rfl, rfl, rfl, by decide +kernel⟩
theorem ft10_38 : FT 10 38 true (.array .int) := ⟨_, _, _, rfl, rfl, rfl, by decide +kernel⟩
theorem ft10_39 : FT 10 39 true (.array .int) := ⟨_, _, _, rfl, rfl, rfl, by decide +kernel⟩
theorem ft10_40 : FT 10 40 false .int := ⟨_, _, _, rfl, rfl, rfl, by decide +kernel⟩
theorem ft10_41 : FT 10 41 true (.array .int) := ⟨_, _, _, rfl, rfl, rfl, by decide +kernel⟩
theorem ft10_42 : FT 10 42 true (.array .int) := ⟨_, _, _, rfl, rfl, rfl, by decide +kernel⟩
theorem ft10_43 : FT 10 43 true (.array .int) := ⟨_, _, _, rfl, rfl, rfl, by decide +kernel⟩
theorem flX9_10 : FL RX9 10 9 0 := ⟨_, _, _, rfl, by decide, inC9, gw1 (List.mem_of_getElem? (i := 238) (by decide +kernel)) rfl⟩
theorem flX9_19 : FL RX9 19 9 1 := ⟨_, _, _, rfl, by decide, inC9, gw1 (List.mem_of_getElem? (i := 239) (by decide +kernel)) rfl⟩
theorem flX9_26 : FL RX9 26 9 2 := ⟨_, _, _, rfl, by decide, inC9, gw2 (List.mem_of_getElem? (i := 0) (by decide +kernel)) rfl⟩
theorem flX9_30 : FL RX9 30 1 0 := ⟨_, _, _, rfl, by decide, inC1, gw1 (List.mem_of_getElem? (i := 109) (by decide +kernel)) rfl⟩
theorem flX9_34 : FL RX9 34 9 3 := ⟨_, _, _, rfl, by decide, inC9, gw2 (List.mem_of_getElem? (i := 1) (by decide +kernel)) rfl⟩
theorem flX9_38 : FL RX9 38 9 4 := ⟨_, _, _, rfl, by decide, inC9, gw2 (List.mem_of_getElem? (i := 2) (by decide +kernel)) rfl⟩
theorem flX9_45 : FL RX9 45 9 5 := ⟨_, _, _, rfl, by decide, inC9, gw2 (List.mem_of_getElem? (i := 3) (by decide +kernel)) rfl⟩
theorem flX9_52 : FL RX9 52 9 6 := ⟨_, _, _, rfl, by decide, inC9, gw2 (List.mem_of_getElem? (i := 4) (by decide +kernel)) rfl⟩
theorem flX9_56 : FL RX9 56 9 7 := ⟨_, _, _, rfl, by decide, inC9, gw2 (List.mem_of_getElem? (i := 5) (by decide +kernel)) rfl⟩
theorem flX9_59 : FL RX9 59 9 8 := ⟨_, _, _, rfl, by decide, inC9, gw2 (List.mem_of_getElem? (i := 6) (by decide +kernel)) rfl⟩
theorem flX9_63 : FL RX9 63 9 9 := ⟨_, _, _, rfl, by decide, inC9, gw2 (List.mem_of_getElem? (i := 7) (by decide +kernel)) rfl⟩
theorem flX9_85 : FL RX9 85 5 1 := ⟨_, _, _, rfl, by decide, inC5, gw2 (List.mem_of_getElem? (i := 51) (by decide +kernel)) rfl⟩
theorem flX9_90 : FL RX9 90 7 3 := ⟨_, _, _, rfl, by decide, inC7, gw1 (List.mem_of_getElem? (i := 40) (by decide +kernel)) rfl⟩
theorem flX9_93 : FL RX9 93 5 0 := ⟨_, _, _, rfl, by decide, inC5, gw2 (List.mem_of_getElem? (i := 48) (by decide +kernel)) rfl⟩
theorem flX9_107 : FL RX9 107 8 1 := ⟨_, _, _, rfl, by decide, inC8, gw1 (List.mem_of_getElem? (i := 89) (by decide +kernel)) rfl⟩
theorem flX9_120 : FL RX9 120 8 3 := ⟨_, _, _, rfl, by decide, inC8, gw1 (List.mem_of_getElem? (i := 94) (by decide +kernel)) rfl⟩
theorem flX9_123 : FL RX9 123 4 0 := ⟨_, _, _, rfl, by decide, inC4, gw1 (List.mem_of_getElem? (i := 219) (by decide +kernel)) rfl⟩
theorem flX9_140 : FL RX9 140 6 1 := ⟨_, _, _, rfl, by decide, inC6, gw1 (List.mem_of_getElem? (i := 160) (by decide +kernel)) rfl⟩
theorem flX9_150 : FL RX9 150 3 0 := ⟨_, _, _, rfl, by decide, inC3, gw1 (List.mem_of_getElem? (i := 134) (by decide +kernel)) rfl⟩
theorem flX9_155 : FL RX9 155 3 1 := ⟨_, _, _, rfl, by decide, inC3, gw1 (List.mem_of_getElem? (i := 137) (by decide +kernel)) rfl⟩
theorem flX9_158 : FL RX9 158 3 2 := ⟨_, _, _, rfl, by decide, inC3, gw1 (List.mem_of_getElem? (i := 140) (by decide +kernel)) rfl⟩
theorem flX9_161 : FL RX9 161 3 3 := ⟨_, _, _, rfl, by decide, inC3, gw1 (List.mem_of_getElem? (i := 143) (by decide +kernel)) rfl⟩
theorem flX9_164 : FL RX9 164 3 4 := ⟨_, _, _, rfl, by decide, inC3, gw1 (List.mem_of_getElem? (i := 146) (by decide +kernel)) rfl⟩
theorem flX9_178 : FL RX9 178 5 2 := ⟨_, _, _, rfl, by decide, inC5, gw2 (List.mem_of_getElem? (i := 55) (by decide +kernel)) rfl⟩
theorem flX9_191 : FL RX9 191 5 3 := ⟨_, _, _, rfl, by decide, inC5, gw2 (List.mem_of_getElem? (i := 58) (by decide +kernel)) rfl⟩
theorem flX9_219 : FL RX9 219 7 4 := ⟨_, _, _, rfl, by decide, inC7, gw1 (List.mem_of_getElem? (i := 43) (by decide +kernel)) rfl⟩
theorem flX9_222 : FL RX9 222 0 0 := ⟨_, _, _, rfl, by decide, inC0, gw1 (List.mem_of_getElem? (i := 64) (by decide +kernel)) rfl⟩
theorem flX9_225 : FL RX9 225 0 1 := ⟨_, _, _, rfl, by decide, inC0, gw1 (List.mem_of_getElem? (i := 66) (by decide +kernel)) rfl⟩
theorem flX9_228 : FL RX9 228 6 4 := ⟨_, _, _, rfl, by decide, inC6, gw1 (List.mem_of_getElem? (i := 164) (by decide +kernel)) rfl⟩
theorem flX0_9 : FL RX0 9 0 0 := ⟨_, _, _, rfl, by decide, inC0, gw1 (List.mem_of_getElem? (i := 63) (by decide +kernel)) rfl⟩
theorem flX0_15 : FL RX0 15 0 1 := ⟨_, _, _, rfl, by decide, inC0, gw1 (List.mem_of_getElem? (i := 65) (by decide +kernel)) rfl⟩
theorem flX0_18 : FL RX0 18 0 2 := ⟨_, _, _, rfl, by decide, inC0, gw1 (List.mem_of_getElem? (i := 67) (by decide +kernel)) rfl⟩
theorem flX0_31 : FL RX0 31 5 2 := ⟨_, _, _, rfl, by decide, inC5, gw2 (List.mem_of_getElem? (i := 54) (by decide +kernel)) rfl⟩
theorem flX0_34 : FL RX0 34 7 4 := ⟨_, _, _, rfl, by decide, inC7, gw1 (List.mem_of_getElem? (i := 42) (by decide +kernel)) rfl⟩
theorem flX0_43 : FL RX0 43 5 3 := ⟨_, _, _, rfl, by decide, inC5, gw2 (List.mem_of_getElem? (i := 57) (by decide +kernel)) rfl⟩
theorem flX1_12 : FL RX1 12 1 0 := ⟨_, _, _, rfl, by decide, inC1, gw1 (List.mem_of_getElem? (i := 108) (by decide +kernel)) rfl⟩
theorem flX1_18 : FL RX1 18 1 1 := ⟨_, _, _, rfl, by decide, inC1, gw1 (List.mem_of_getElem? (i := 110) (by decide +kernel)) rfl⟩
theorem flX1_22 : FL RX1 22 1 2 := ⟨_, _, _, rfl, by decide, inC1, gw1 (List.mem_of_getElem? (i := 111) (by decide +kernel)) rfl⟩
theorem flX1_33 : FL RX1 33 8 2 := ⟨_, _, _, rfl, by decide, inC8, gw1 (List.mem_of_getElem? (i := 91) (by decide +kernel)) rfl⟩
theorem flX1_45 : FL RX1 45 4 0 := ⟨_, _, _, rfl, by decide, inC4, gw1 (List.mem_of_getElem? (i := 218) (by decide +kernel)) rfl⟩
theorem flX1_65 : FL RX1 65 8 3 := ⟨_, _, _, rfl, by decide, inC8, gw1 (List.mem_of_getElem? (i := 93) (by decide +kernel)) rfl⟩
theorem flX1_68 : FL RX1 68 8 4 := ⟨_, _, _, rfl, by decide, inC8, gw1 (List.mem_of_getElem? (i := 96) (by decide +kernel)) rfl⟩
theorem flX2_9 : FL RX2 9 2 0 := ⟨_, _, _, rfl, by decide, inC2, gw1 (List.mem_of_getElem? (i := 183) (by decide +kernel)) rfl⟩
theorem flX2_15 : FL RX2 15 2 1 := ⟨_, _, _, rfl, by decide, inC2, gw1 (List.mem_of_getElem? (i := 184) (by decide +kernel)) rfl⟩
theorem flX2_18 : FL RX2 18 2 2 := ⟨_, _, _, rfl, by decide, inC2, gw1 (List.mem_of_getElem? (i := 185) (by decide +kernel)) rfl⟩
theorem flX2_21 : FL RX2 21 2 3 := ⟨_, _, _, rfl, by decide, inC2, gw1 (List.mem_of_getElem? (i := 186) (by decide +kernel)) rfl⟩
theorem flX2_24 : FL RX2 24 2 4 := ⟨_, _, _, rfl, by decide, inC2, gw1 (List.mem_of_getElem? (i := 187) (by decide +kernel)) rfl⟩
theorem flX2_28 : FL RX2 28 2 5 := ⟨_, _, _, rfl, by decide, inC2, gw1 (List.mem_of_getElem? (i := 188) (by decide +kernel)) rfl⟩
theorem flX2_31 : FL RX2 31 2 6 := ⟨_, _, _, rfl, by decide, inC2, gw1 (List.mem_of_getElem? (i := 189) (by decide +kernel)) rfl⟩
theorem flX2_34 : FL RX2 34 2 7 := ⟨_, _, _, rfl, by decide, inC2, gw1 (List.mem_of_getElem? (i := 190) (by decide +kernel)) rfl⟩
theorem flX2_37 : FL RX2 37 2 8 := ⟨_, _, _, rfl, by decide, inC2, gw1 (List.mem_of_getElem? (i := 191) (by decide +kernel)) rfl⟩
theorem flX3_9 : FL RX3 9 3 0 := ⟨_, _, _, rfl, by decide, inC3, gw1 (List.mem_of_getElem? (i := 132) (by decide +kernel)) rfl⟩
theorem flX3_15 : FL RX3 15 3 1 := ⟨_, _, _, rfl, by decide, inC3, gw1 (List.mem_of_getElem? (i := 135) (by decide +kernel)) rfl⟩
theorem flX3_18 : FL RX3 18 3 2 := ⟨_, _, _, rfl, by decide, inC3, gw1 (List.mem_of_getElem? (i := 138) (by decide +kernel)) rfl⟩
theorem flX3_21 : FL RX3 21 3 3 := ⟨_, _, _, rfl, by decide, inC3, gw1 (List.mem_of_getElem? (i := 141) (by decide +kernel)) rfl⟩
theorem flX3_24 : FL RX3 24 3 4 := ⟨_, _, _, rfl, by decide, inC3, gw1 (List.mem_of_getElem? (i := 144) (by decide +kernel)) rfl⟩
theorem flX4_9 : FL RX4 9 4 0 := ⟨_, _, _, rfl, by decide, inC4, gw1 (List.mem_of_getElem? (i := 217) (by decide +kernel)) rfl⟩
theorem flX4_15 : FL RX4 15 4 1 := ⟨_, _, _, rfl, by decide, inC4, gw1 (List.mem_of_getElem? (i := 220) (by decide +kernel)) rfl⟩
theorem flX4_18 : FL RX4 18 4 2 := ⟨_, _, _, rfl, by decide, inC4, gw1 (List.mem_of_getElem? (i := 221) (by decide +kernel)) rfl⟩
theorem flX4_22 : FL RX4 22 4 3 := ⟨_, _, _, rfl, by decide, inC4, gw1 (List.mem_of_getElem? (i := 222) (by decide +kernel)) rfl⟩
theorem flX4_25 : FL RX4 25 4 4 := ⟨_, _, _, rfl, by decide, inC4, gw1 (List.mem_of_getElem? (i := 223) (by decide +kernel)) rfl⟩
theorem flX4_28 : FL RX4 28 4 5 := ⟨_, _, _, rfl, by decide, inC4, gw1 (List.mem_of_getElem? (i := 224) (by decide +kernel)) rfl⟩
theorem flX4_44 : FL RX4 44 5 1 := ⟨_, _, _, rfl, by decide, inC5, gw2 (List.mem_of_getElem? (i := 52) (by decide +kernel)) rfl⟩
theorem flX5_9 : FL RX5 9 5 0 := ⟨_, _, _, rfl, by decide, inC5, gw2 (List.mem_of_getElem? (i := 46) (by decide +kernel)) rfl⟩
theorem flX5_15 : FL RX5 15 5 1 := ⟨_, _, _, rfl, by decide, inC5, gw2 (List.mem_of_getElem? (i := 49) (by decide +kernel)) rfl⟩
theorem flX5_19 : FL RX5 19 5 2 := ⟨_, _, _, rfl, by decide, inC5, gw2 (List.mem_of_getElem? (i := 53) (by decide +kernel)) rfl⟩
theorem flX5_22 : FL RX5 22 5 3 := ⟨_, _, _, rfl, by decide, inC5, gw2 (List.mem_of_getElem? (i := 56) (by decide +kernel)) rfl⟩
theorem flX5_25 : FL RX5 25 5 4 := ⟨_, _, _, rfl, by decide, inC5, gw2 (List.mem_of_getElem? (i := 59) (by decide +kernel)) rfl⟩
theorem flX6_12 : FL RX6 12 6 0 := ⟨_, _, _, rfl, by decide, inC6, gw1 (List.mem_of_getElem? (i := 158) (by decide +kernel)) rfl⟩
theorem flX6_18 : FL RX6 18 6 1 := ⟨_, _, _, rfl, by decide, inC6, gw1 (List.mem_of_getElem? (i := 159) (by decide +kernel)) rfl⟩
theorem flX6_22 : FL RX6 22 6 2 := ⟨_, _, _, rfl, by decide, inC6, gw1 (List.mem_of_getElem? (i := 161) (by decide +kernel)) rfl⟩
theorem flX6_25 : FL RX6 25 6 3 := ⟨_, _, _, rfl, by decide, inC6, gw1 (List.mem_of_getElem? (i := 162) (by decide +kernel)) rfl⟩
theorem flX6_29 : FL RX6 29 6 4 := ⟨_, _, _, rfl, by decide, inC6, gw1 (List.mem_of_getElem? (i := 163) (by decide +kernel)) rfl⟩
theorem flX6_52 : FL RX6 52 3 0 := ⟨_, _, _, rfl, by decide, inC3, gw1 (List.mem_of_getElem? (i := 133) (by decide +kernel)) rfl⟩
theorem flX6_63 : FL RX6 63 3 1 := ⟨_, _, _, rfl, by decide, inC3, gw1 (List.mem_of_getElem? (i := 136) (by decide +kernel)) rfl⟩
theorem flX6_66 : FL RX6 66 3 2 := ⟨_, _, _, rfl, by decide, inC3, gw1 (List.mem_of_getElem? (i := 139) (by decide +kernel)) rfl⟩
theorem flX6_69 : FL RX6 69 3 3 := ⟨_, _, _, rfl, by decide, inC3, gw1 (List.mem_of_getElem? (i := 142) (by decide +kernel)) rfl⟩
theorem flX6_72 : FL RX6 72 3 4 := ⟨_, _, _, rfl, by decide, inC3, gw1 (List.mem_of_getElem? (i := 145) (by decide +kernel)) rfl⟩
theorem flX7_11 : FL RX7 11 7 0 := ⟨_, _, _, rfl, by decide, inC7, gw1 (List.mem_of_getElem? (i := 36) (by decide +kernel)) rfl⟩
theorem flX7_19 : FL RX7 19 7 1 := ⟨_, _, _, rfl, by decide, inC7, gw1 (List.mem_of_getElem? (i := 37) (by decide +kernel)) rfl⟩
theorem flX7_22 : FL RX7 22 7 2 := ⟨_, _, _, rfl, by decide, inC7, gw1 (List.mem_of_getElem? (i := 38) (by decide +kernel)) rfl⟩
theorem flX7_26 : FL RX7 26 7 3 := ⟨_, _, _, rfl, by decide, inC7, gw1 (List.mem_of_getElem? (i := 39) (by decide +kernel)) rfl⟩
theorem flX7_30 : FL RX7 30 7 4 := ⟨_, _, _, rfl, by decide, inC7, gw1 (List.mem_of_getElem? (i := 41) (by decide +kernel)) rfl⟩
theorem flX7_33 : FL RX7 33 5 4 := ⟨_, _, _, rfl, by decide, inC5, gw2 (List.mem_of_getElem? (i := 60) (by decide +kernel)) rfl⟩
theorem flX7_43 : FL RX7 43 5 0 := ⟨_, _, _, rfl, by decide, inC5, gw2 (List.mem_of_getElem? (i := 47) (by decide +kernel)) rfl⟩
theorem flX7_47 : FL RX7 47 5 1 := ⟨_, _, _, rfl, by decide, inC5, gw2 (List.mem_of_getElem? (i := 50) (by decide +kernel)) rfl⟩
theorem flX8_9 : FL RX8 9 8 0 := ⟨_, _, _, rfl, by decide, inC8, gw1 (List.mem_of_getElem? (i := 87) (by decide +kernel)) rfl⟩
theorem flX8_15 : FL RX8 15 8 1 := ⟨_, _, _, rfl, by decide, inC8, gw1 (List.mem_of_getElem? (i := 88) (by decide +kernel)) rfl⟩
theorem flX8_19 : FL RX8 19 8 2 := ⟨_, _, _, rfl, by decide, inC8, gw1 (List.mem_of_getElem? (i := 90) (by decide +kernel)) rfl⟩
theorem flX8_22 : FL RX8 22 8 3 := ⟨_, _, _, rfl, by decide, inC8, gw1 (List.mem_of_getElem? (i := 92) (by decide +kernel)) rfl⟩
theorem flX8_25 : FL RX8 25 8 4 := ⟨_, _, _, rfl, by decide, inC8, gw1 (List.mem_of_getElem? (i := 95) (by decide +kernel)) rfl⟩
theorem flX10_7 : FL RX10 7 10 3 := ⟨_, _, _, rfl, by decide, inC10, gw3 (List.mem_of_getElem? (i := 224) (by decide +kernel)) rfl⟩
theorem flX10_13 : FL RX10 13 10 5 := ⟨_, _, _, rfl, by decide, inC10, gw3 (List.mem_of_getElem? (i := 226) (by decide +kernel)) rfl⟩
theorem flX10_17 : FL RX10 17 10 6 := ⟨_, _, _, rfl, by decide, inC10, gw3 (List.mem_of_getElem? (i := 227) (by decide +kernel)) rfl⟩
theorem flX10_20 : FL RX10 20 10 7 := ⟨_, _, _, rfl, by decide, inC10, gw3 (List.mem_of_getElem? (i := 228) (by decide +kernel)) rfl⟩
theorem flX10_23 : FL RX10 23 10 8 := ⟨_, _, _, rfl, by decide, inC10, gw3 (List.mem_of_getElem? (i := 229) (by decide +kernel)) rfl⟩
theorem flX10_26 : FL RX10 26 10 11 := ⟨_, _, _, rfl, by decide, inC10, gw3 (List.mem_of_getElem? (i := 232) (by decide +kernel)) rfl⟩
theorem flX10_29 : FL RX10 29 10 12 := ⟨_, _, _, rfl, by decide, inC10, gw3 (List.mem_of_getElem? (i := 233) (by decide +kernel)) rfl⟩
theorem flX10_32 : FL RX10 32 10 15 := ⟨_, _, _, rfl, by decide, inC10, gw3 (List.mem_of_getElem? (i := 236) (by decide +kernel)) rfl⟩
theorem flX10_35 : FL RX10 35 10 16 := ⟨_, _, _, rfl, by decide, inC10, gw3 (List.mem_of_getElem? (i := 237) (by decide +kernel)) rfl⟩
theorem flX10_38 : FL RX10 38 10 17 := ⟨_, _, _, rfl, by decide, inC10, gw3 (List.mem_of_getElem? (i := 238) (by decide +kernel)) rfl⟩
theorem flX10_41 : FL RX10 41 10 18 := ⟨_, _, _, rfl, by decide, inC10, gw3 (List.mem_of_getElem? (i := 239) (by decide +kernel)) rfl⟩
theorem flX10_44 : FL RX10 44 10 19 := ⟨_, _, _, rfl, by decide, inC10, gw4 (List.mem_of_getElem? (i := 0) (by decide +kernel)) rfl⟩
theorem flX10_47 : FL RX10 47 10 25 := ⟨_, _, _, rfl, by decide, inC10, gw4 (List.mem_of_getElem? (i := 6) (by decide +kernel)) rfl⟩
theorem flX10_51 : FL RX10 51 10 28 := ⟨_, _, _, rfl, by decide, inC10, gw4 (List.mem_of_getElem? (i := 9) (by decide +kernel)) rfl⟩
theorem flX10_54 : FL RX10 54 10 29 := ⟨_, _, _, rfl, by decide, inC10, gw4 (List.mem_of_getElem? (i := 10) (by decide +kernel)) rfl⟩
theorem flX10_57 : FL RX10 57 10 30 := ⟨_, _, _, rfl, by decide, inC10, gw4 (List.mem_of_getElem? (i := 11) (by decide +kernel)) rfl⟩
theorem flX10_60 : FL RX10 60 10 31 := ⟨_, _, _, rfl, by decide, inC10, gw4 (List.mem_of_getElem? (i := 12) (by decide +kernel)) rfl⟩
theorem flX10_63 : FL RX10 63 10 32 := ⟨_, _, _, rfl, by decide, inC10, gw4 (List.mem_of_getElem? (i := 13) (by decide +kernel)) rfl⟩
theorem flX10_66 : FL RX10 66 10 33 := ⟨_, _, _, rfl, by decide, inC10, gw4 (List.mem_of_getElem? (i := 14) (by decide +kernel)) rfl⟩
theorem flX10_69 : FL RX10 69 10 36 := ⟨_, _, _, rfl, by decide, inC10, gw4 (List.mem_of_getElem? (i := 17) (by decide +kernel)) rfl⟩
theorem flX10_72 : FL RX10 72 10 37 := ⟨_, _, _, rfl, by decide, inC10, gw4 (List.mem_of_getElem? (i := 18) (by decide +kernel)) rfl⟩
theorem flX10_75 : FL RX10 75 10 38 := ⟨_, _, _, rfl, by decide, inC10, gw4 (List.mem_of_getElem? (i := 19) (by decide +kernel)) rfl⟩
theorem flX10_78 : FL RX10 78 10 39 := ⟨_, _, _, rfl, by decide, inC10, gw4 (List.mem_of_getElem? (i := 20) (by decide +kernel)) rfl⟩
theorem flX10_81 : FL RX10 81 10 41 := ⟨_, _, _, rfl, by decide, inC10, gw4 (List.mem_of_getElem? (i := 22) (by decide +kernel)) rfl⟩
theorem flX10_84 : FL RX10 84 10 42 := ⟨_, _, _, rfl, by decide, inC10, gw4 (List.mem_of_getElem? (i := 23) (by decide +kernel)) rfl⟩
theorem flX10_87 : FL RX10 87 10 43 := ⟨_, _, _, rfl, by decide, inC10, gw4 (List.mem_of_getElem? (i := 24) (by decide +kernel)) rfl⟩
theorem flX10_90 : FL RX10 90 10 0 := ⟨_, _, _, rfl, by decide, inC10, gw3 (List.mem_of_getElem? (i := 221) (by decide +kernel)) rfl⟩
theorem flX10_93 : FL RX10 93 10 1 := ⟨_, _, _, rfl, by decide, inC10, gw3 (List.mem_of_getElem? (i := 222) (by decide +kernel)) rfl⟩
theorem flX10_96 : FL RX10 96 10 4 := ⟨_, _, _, rfl, by decide, inC10, gw3 (List.mem_of_getElem? (i := 225) (by decide +kernel)) rfl⟩
theorem flX10_111 : FL RX10 111 10 2 := ⟨_, _, _, rfl, by decide, inC10, gw3 (List.mem_of_getElem? (i := 223) (by decide +kernel)) rfl⟩
theorem flX10_135 : FL RX10 135 10 20 := ⟨_, _, _, rfl, by decide, inC10, gw4 (List.mem_of_getElem? (i := 1) (by decide +kernel)) rfl⟩
theorem flX10_142 : FL RX10 142 10 22 := ⟨_, _, _, rfl, by decide, inC10, gw4 (List.mem_of_getElem? (i := 3) (by decide +kernel)) rfl⟩
theorem flX10_145 : FL RX10 145 10 21 := ⟨_, _, _, rfl, by decide, inC10, gw4 (List.mem_of_getElem? (i := 2) (by decide +kernel)) rfl⟩
theorem flX10_148 : FL RX10 148 10 24 := ⟨_, _, _, rfl, by decide, inC10, gw4 (List.mem_of_getElem? (i := 5) (by decide +kernel)) rfl⟩
theorem flX10_158 : FL RX10 158 10 23 := ⟨_, _, _, rfl, by decide, inC10, gw4 (List.mem_of_getElem? (i := 4) (by decide +kernel)) rfl⟩
theorem flX10_169 : FL RX10 169 10 26 := ⟨_, _, _, rfl, by decide, inC10, gw4 (List.mem_of_getElem? (i := 7) (by decide +kernel)) rfl⟩
theorem flX10_180 : FL RX10 180 10 13 := ⟨_, _, _, rfl, by decide, inC10, gw3 (List.mem_of_getElem? (i := 234) (by decide +kernel)) rfl⟩
theorem flX10_187 : FL RX10 187 10 14 := ⟨_, _, _, rfl, by decide, inC10, gw3 (List.mem_of_getElem? (i := 235) (by decide +kernel)) rfl⟩
theorem flX10_207 : FL RX10 207 10 10 := ⟨_, _, _, rfl, by decide, inC10, gw3 (List.mem_of_getElem? (i := 231) (by decide +kernel)) rfl⟩
theorem flX10_210 : FL RX10 210 10 27 := ⟨_, _, _, rfl, by decide, inC10, gw4 (List.mem_of_getElem? (i := 8) (by decide +kernel)) rfl⟩
theorem flX10_225 : FL RX10 225 10 34 := ⟨_, _, _, rfl, by decide, inC10, gw4 (List.mem_of_getElem? (i := 15) (by decide +kernel)) rfl⟩
theorem flX10_230 : FL RX10 230 10 9 := ⟨_, _, _, rfl, by decide, inC10, gw3 (List.mem_of_getElem? (i := 230) (by decide +kernel)) rfl⟩
theorem flX10_246 : FL RX10 246 10 35 := ⟨_, _, _, rfl, by decide, inC10, gw4 (List.mem_of_getElem? (i := 16) (by decide +kernel)) rfl⟩
theorem flX10_256 : FL RX10 256 10 40 := ⟨_, _, _, rfl, by decide, inC10, gw4 (List.mem_of_getElem? (i := 21) (by decide +kernel)) rfl⟩
theorem nlX9_7 : NL RX9 7 7 5 [.null, .null, .null, .int 0, .int 0] := ⟨_, _, tyX7, rfl, inC7, tyX7_ok, by decide +kernel, gw1 (List.mem_of_getElem? (i := 26) (by decide +kernel)) rfl, gw1 (List.mem_of_getElem? (i := 27) (by decide +kernel)) rfl, gw1 (List.mem_of_getElem? (i := 2) (by decide +kernel)) rfl⟩
theorem nlX9_16 : NL RX9 16 0 3 [.int 0, .int 0, .int 0] := ⟨_, _, tyX0, rfl, inC0, tyX0_ok, by decide +kernel, gw1 (List.mem_of_getElem? (i := 57) (by decide +kernel)) rfl, gw1 (List.mem_of_getElem? (i := 58) (by decide +kernel)) rfl, gw1 (List.mem_of_getElem? (i := 3) (by decide +kernel)) rfl⟩
theorem nlX9_23 : NL RX9 23 1 3 [.null, .null, .null] := ⟨_, _, tyX1, rfl, inC1, tyX1_ok, by decide +kernel, gw1 (List.mem_of_getElem? (i := 75) (by decide +kernel)) rfl, gw1 (List.mem_of_getElem? (i := 76) (by decide +kernel)) rfl, gw1 (List.mem_of_getElem? (i := 4) (by decide +kernel)) rfl⟩
theorem nlX9_35 : NL RX9 35 6 5 [.null, .null, .null, .null, .int 0] := ⟨_, _, tyX6, rfl, inC6, tyX6_ok, by decide +kernel, gw1 (List.mem_of_getElem? (i := 119) (by decide +kernel)) rfl, gw1 (List.mem_of_getElem? (i := 120) (by decide +kernel)) rfl, gw1 (List.mem_of_getElem? (i := 6) (by decide +kernel)) rfl⟩
theorem nlX9_42 : NL RX9 42 2 9 [.null, .null, .null, .null, .int 0, .null, .null, .null, .int 0] := ⟨_, _, tyX2, rfl, inC2, tyX2_ok, by decide +kernel, gw1 (List.mem_of_getElem? (i := 177) (by decide +kernel)) rfl, gw1 (List.mem_of_getElem? (i := 178) (by decide +kernel)) rfl, gw1 (List.mem_of_getElem? (i := 8) (by decide +kernel)) rfl⟩
theorem nlX9_49 : NL RX9 49 4 6 [.int 0, .int 0, .null, .null, .null, .null] := ⟨_, _, tyX4, rfl, inC4, tyX4_ok, by decide +kernel, gw1 (List.mem_of_getElem? (i := 211) (by decide +kernel)) rfl, gw1 (List.mem_of_getElem? (i := 212) (by decide +kernel)) rfl, gw1 (List.mem_of_getElem? (i := 9) (by decide +kernel)) rfl⟩
theorem nlX1_9 : NL RX1 9 8 5 [.null, .int 0, .int 0, .int 0, .int 0] := ⟨_, _, tyX8, rfl, inC8, tyX8_ok, by decide +kernel, gw1 (List.mem_of_getElem? (i := 81) (by decide +kernel)) rfl, gw1 (List.mem_of_getElem? (i := 82) (by decide +kernel)) rfl, gw1 (List.mem_of_getElem? (i := 5) (by decide +kernel)) rfl⟩
theorem nlX6_9 : NL RX6 9 3 5 [.int 0, .int 0, .int 0, .int 0, .int 0] := ⟨_, _, tyX3, rfl, inC3, tyX3_ok, by decide +kernel, gw1 (List.mem_of_getElem? (i := 125) (by decide +kernel)) rfl, gw1 (List.mem_of_getElem? (i := 127) (by decide +kernel)) rfl, gw1 (List.mem_of_getElem? (i := 7) (by decide +kernel)) rfl⟩
theorem nlX7_9 : NL RX7 9 5 5 [.null, .int 0, .int 0, .int 0, .int 0] := ⟨_, _, tyX5, rfl, inC5, tyX5_ok, by decide +kernel, gw1 (List.mem_of_getElem? (i := 32) (by decide +kernel)) rfl, gw2 (List.mem_of_getElem? (i := 41) (by decide +kernel)) rfl, gw1 (List.mem_of_getElem? (i := 11) (by decide +kernel)) rfl⟩
theorem ckX6_9 : Cond.classLink RX6 9 "GoldLeaves$PackNeed" ∈ GW := gw1 (List.mem_of_getElem? (i := 125) (by decide +kernel)) rfl
theorem ckX7_9 : Cond.classLink RX7 9 "GoldLeaves$Piece" ∈ GW := gw1 (List.mem_of_getElem? (i := 32) (by decide +kernel)) rfl
theorem ckX7_17 : Cond.classLink RX7 17 "[[I" ∈ GW := gw1 (List.mem_of_getElem? (i := 34) (by decide +kernel)) rfl
theorem kkX9_205 : Cond.constant RX9 205 (-1000000000) ∈ GW := gw3 (List.mem_of_getElem? (i := 172) (by decide +kernel)) rfl
theorem kkX2_44 : Cond.constant RX2 44 (-1000000) ∈ GW := gw3 (List.mem_of_getElem? (i := 162) (by decide +kernel)) rfl
theorem kkX2_45 : Cond.constant RX2 45 (1000000) ∈ GW := gw3 (List.mem_of_getElem? (i := 163) (by decide +kernel)) rfl
theorem kkX2_50 : Cond.constant RX2 50 (100000000) ∈ GW := gw3 (List.mem_of_getElem? (i := 189) (by decide +kernel)) rfl
theorem kkX7_37 : Cond.constant RX7 37 (1000000) ∈ GW := gw2 (List.mem_of_getElem? (i := 37) (by decide +kernel)) rfl
theorem kkX10_253 : Cond.constant RX10 253 (-1000000000) ∈ GW := gw5 (List.mem_of_getElem? (i := 68) (by decide +kernel)) rfl
theorem kjX9_101 : Cond.constantLong RX9 101 (-1) ∈ GW := gw2 (List.mem_of_getElem? (i := 133) (by decide +kernel)) rfl
theorem kjX10_103 : Cond.constantLong RX10 103 (1000000) ∈ GW := gw4 (List.mem_of_getElem? (i := 118) (by decide +kernel)) rfl
theorem kjX10_105 : Cond.constantLong RX10 105 (1000) ∈ GW := gw4 (List.mem_of_getElem? (i := 122) (by decide +kernel)) rfl
theorem kjX10_127 : Cond.constantLong RX10 127 (2) ∈ GW := gw4 (List.mem_of_getElem? (i := 163) (by decide +kernel)) rfl
theorem kjX10_133 : Cond.constantLong RX10 133 (-1) ∈ GW := gw4 (List.mem_of_getElem? (i := 168) (by decide +kernel)) rfl
theorem kjX10_161 : Cond.constantLong RX10 161 (32) ∈ GW := gw4 (List.mem_of_getElem? (i := 195) (by decide +kernel)) rfl
theorem kjX10_163 : Cond.constantLong RX10 163 (96) ∈ GW := gw4 (List.mem_of_getElem? (i := 196) (by decide +kernel)) rfl
theorem kjX10_165 : Cond.constantLong RX10 165 (10) ∈ GW := gw4 (List.mem_of_getElem? (i := 197) (by decide +kernel)) rfl
theorem kjX10_167 : Cond.constantLong RX10 167 (48) ∈ GW := gw4 (List.mem_of_getElem? (i := 198) (by decide +kernel)) rfl
theorem kjX10_213 : Cond.constantLong RX10 213 (100) ∈ GW := gw4 (List.mem_of_getElem? (i := 239) (by decide +kernel)) rfl
theorem kjX10_218 : Cond.constantLong RX10 218 (20) ∈ GW := gw5 (List.mem_of_getElem? (i := 16) (by decide +kernel)) rfl
theorem kjX10_223 : Cond.constantLong RX10 223 (10000) ∈ GW := gw5 (List.mem_of_getElem? (i := 29) (by decide +kernel)) rfl
theorem kjX10_228 : Cond.constantLong RX10 228 (50) ∈ GW := gw5 (List.mem_of_getElem? (i := 38) (by decide +kernel)) rfl
theorem kjX10_233 : Cond.constantLong RX10 233 (200) ∈ GW := gw5 (List.mem_of_getElem? (i := 47) (by decide +kernel)) rfl
theorem kjX10_239 : Cond.constantLong RX10 239 (3) ∈ GW := gw5 (List.mem_of_getElem? (i := 55) (by decide +kernel)) rfl
theorem kjX10_241 : Cond.constantLong RX10 241 (-1000000) ∈ GW := gw5 (List.mem_of_getElem? (i := 56) (by decide +kernel)) rfl
theorem kjX10_254 : Cond.constantLong RX10 254 (100000000) ∈ GW := gw5 (List.mem_of_getElem? (i := 73) (by decide +kernel)) rfl
theorem mlX9_1 : Cond.methodLink RX9 1 objectInit ∈ GW := gw1 (List.mem_of_getElem? (i := 23) (by decide +kernel)) rfl
theorem mlX9_66 : Cond.methodLink RX9 66 yX7_addBar ∈ GW := gw2 (List.mem_of_getElem? (i := 33) (by decide +kernel)) rfl
theorem mlX9_70 : Cond.methodLink RX9 70 yX9_noted ∈ GW := gw2 (List.mem_of_getElem? (i := 76) (by decide +kernel)) rfl
theorem mlX9_74 : Cond.methodLink RX9 74 yX7_cutOff ∈ GW := gw2 (List.mem_of_getElem? (i := 84) (by decide +kernel)) rfl
theorem mlX9_78 : Cond.methodLink RX9 78 yX7_meltInto ∈ GW := gw2 (List.mem_of_getElem? (i := 115) (by decide +kernel)) rfl
theorem mlX9_81 : Cond.methodLink RX9 81 yX7_living ∈ GW := gw2 (List.mem_of_getElem? (i := 123) (by decide +kernel)) rfl
theorem mlX9_97 : Cond.methodLink RX9 97 yX9_within ∈ GW := gw2 (List.mem_of_getElem? (i := 132) (by decide +kernel)) rfl
theorem mlX9_103 : Cond.methodLink RX9 103 yX7_metalIn ∈ GW := gw2 (List.mem_of_getElem? (i := 134) (by decide +kernel)) rfl
theorem mlX9_112 : Cond.methodLink RX9 112 yX8_appendFour ∈ GW := gw2 (List.mem_of_getElem? (i := 142) (by decide +kernel)) rfl
theorem mlX9_116 : Cond.methodLink RX9 116 yX1_readInto ∈ GW := gw2 (List.mem_of_getElem? (i := 154) (by decide +kernel)) rfl
theorem mlX9_126 : Cond.methodLink RX9 126 yX4_firstThatSuits ∈ GW := gw3 (List.mem_of_getElem? (i := 40) (by decide +kernel)) rfl
theorem mlX9_130 : Cond.methodLink RX9 130 yX6_addSkin ∈ GW := gw3 (List.mem_of_getElem? (i := 57) (by decide +kernel)) rfl
theorem mlX9_133 : Cond.methodLink RX9 133 yX6_changeDryness ∈ GW := gw3 (List.mem_of_getElem? (i := 66) (by decide +kernel)) rfl
theorem mlX9_136 : Cond.methodLink RX9 136 yX6_has ∈ GW := gw3 (List.mem_of_getElem? (i := 78) (by decide +kernel)) rfl
theorem mlX9_143 : Cond.methodLink RX9 143 yX6_needOf ∈ GW := gw3 (List.mem_of_getElem? (i := 83) (by decide +kernel)) rfl
theorem mlX9_147 : Cond.methodLink RX9 147 yX9_isSpan ∈ GW := gw3 (List.mem_of_getElem? (i := 87) (by decide +kernel)) rfl
theorem mlX9_167 : Cond.methodLink RX9 167 yX6_beatPacks ∈ GW := gw3 (List.mem_of_getElem? (i := 94) (by decide +kernel)) rfl
theorem mlX9_170 : Cond.methodLink RX9 170 yX0_makeLeaf ∈ GW := gw3 (List.mem_of_getElem? (i := 119) (by decide +kernel)) rfl
theorem mlX9_174 : Cond.methodLink RX9 174 yX5_isLeaf ∈ GW := gw3 (List.mem_of_getElem? (i := 129) (by decide +kernel)) rfl
theorem mlX9_181 : Cond.methodLink RX9 181 yJ13_compare_74951 ∈ GW := gw3 (List.mem_of_getElem? (i := 130) (by decide +kernel)) rfl
theorem mlX9_187 : Cond.methodLink RX9 187 yX0_bindBooks ∈ GW := gw3 (List.mem_of_getElem? (i := 137) (by decide +kernel)) rfl
theorem mlX9_194 : Cond.methodLink RX9 194 yX9_leavesAlong ∈ GW := gw3 (List.mem_of_getElem? (i := 150) (by decide +kernel)) rfl
theorem mlX9_198 : Cond.methodLink RX9 198 yX2_addPassed ∈ GW := gw3 (List.mem_of_getElem? (i := 157) (by decide +kernel)) rfl
theorem mlX9_202 : Cond.methodLink RX9 202 yX9_isHour ∈ GW := gw3 (List.mem_of_getElem? (i := 171) (by decide +kernel)) rfl
theorem mlX9_206 : Cond.methodLink RX9 206 yX2_inRoom ∈ GW := gw3 (List.mem_of_getElem? (i := 173) (by decide +kernel)) rfl
theorem mlX9_209 : Cond.methodLink RX9 209 yX2_addFound ∈ GW := gw3 (List.mem_of_getElem? (i := 185) (by decide +kernel)) rfl
theorem mlX9_212 : Cond.methodLink RX9 212 yX2_firstMissing ∈ GW := gw3 (List.mem_of_getElem? (i := 194) (by decide +kernel)) rfl
theorem mlX9_215 : Cond.methodLink RX9 215 yX7_livingPieces ∈ GW := gw3 (List.mem_of_getElem? (i := 203) (by decide +kernel)) rfl
theorem mlX9_229 : Cond.methodLink RX9 229 yX7_allGrains ∈ GW := gw3 (List.mem_of_getElem? (i := 207) (by decide +kernel)) rfl
theorem mlX0_3 : Cond.methodLink RX0 3 objectInit ∈ GW := gw1 (List.mem_of_getElem? (i := 62) (by decide +kernel)) rfl
theorem mlX0_25 : Cond.methodLink RX0 25 yX5_isLeaf ∈ GW := gw3 (List.mem_of_getElem? (i := 124) (by decide +kernel)) rfl
theorem mlX0_39 : Cond.methodLink RX0 39 yX7_living ∈ GW := gw3 (List.mem_of_getElem? (i := 141) (by decide +kernel)) rfl
theorem mlX1_3 : Cond.methodLink RX1 3 objectInit ∈ GW := gw1 (List.mem_of_getElem? (i := 80) (by decide +kernel)) rfl
theorem mlX1_25 : Cond.methodLink RX1 25 yX4_empty ∈ GW := gw2 (List.mem_of_getElem? (i := 158) (by decide +kernel)) rfl
theorem mlX1_30 : Cond.methodLink RX1 30 yX8_toFirstToken ∈ GW := gw2 (List.mem_of_getElem? (i := 162) (by decide +kernel)) rfl
theorem mlX1_37 : Cond.methodLink RX1 37 yX1_readColour ∈ GW := gw2 (List.mem_of_getElem? (i := 174) (by decide +kernel)) rfl
theorem mlX1_41 : Cond.methodLink RX1 41 yX1_takeMark ∈ GW := gw2 (List.mem_of_getElem? (i := 187) (by decide +kernel)) rfl
theorem mlX1_48 : Cond.methodLink RX1 48 yX1_takeName ∈ GW := gw2 (List.mem_of_getElem? (i := 178) (by decide +kernel)) rfl
theorem mlX1_52 : Cond.methodLink RX1 52 yX1_readTest ∈ GW := gw2 (List.mem_of_getElem? (i := 195) (by decide +kernel)) rfl
theorem mlX1_55 : Cond.methodLink RX1 55 yX8_isMark ∈ GW := gw2 (List.mem_of_getElem? (i := 191) (by decide +kernel)) rfl
theorem mlX1_58 : Cond.methodLink RX1 58 yX8_toNextToken ∈ GW := gw2 (List.mem_of_getElem? (i := 186) (by decide +kernel)) rfl
theorem mlX1_61 : Cond.methodLink RX1 61 yX8_isSameAs ∈ GW := gw2 (List.mem_of_getElem? (i := 182) (by decide +kernel)) rfl
theorem mlX1_71 : Cond.methodLink RX1 71 yX1_metalTold ∈ GW := gw2 (List.mem_of_getElem? (i := 199) (by decide +kernel)) rfl
theorem mlX1_75 : Cond.methodLink RX1 75 yX4_hasRoomForTest ∈ GW := gw3 (List.mem_of_getElem? (i := 18) (by decide +kernel)) rfl
theorem mlX1_79 : Cond.methodLink RX1 79 yX8_numberToThousand ∈ GW := gw3 (List.mem_of_getElem? (i := 22) (by decide +kernel)) rfl
theorem mlX1_84 : Cond.methodLink RX1 84 yX8_isWord ∈ GW := gw2 (List.mem_of_getElem? (i := 204) (by decide +kernel)) rfl
theorem mlX1_88 : Cond.methodLink RX1 88 yX4_addTest ∈ GW := gw3 (List.mem_of_getElem? (i := 27) (by decide +kernel)) rfl
theorem mlX2_3 : Cond.methodLink RX2 3 objectInit ∈ GW := gw1 (List.mem_of_getElem? (i := 182) (by decide +kernel)) rfl
theorem mlX2_51 : Cond.methodLink RX2 51 yX2_through ∈ GW := gw3 (List.mem_of_getElem? (i := 177) (by decide +kernel)) rfl
theorem mlX2_55 : Cond.methodLink RX2 55 yX2_inRoom ∈ GW := gw3 (List.mem_of_getElem? (i := 198) (by decide +kernel)) rfl
theorem mlX3_3 : Cond.methodLink RX3 3 objectInit ∈ GW := gw1 (List.mem_of_getElem? (i := 131) (by decide +kernel)) rfl
theorem mlX4_3 : Cond.methodLink RX4 3 objectInit ∈ GW := gw1 (List.mem_of_getElem? (i := 216) (by decide +kernel)) rfl
theorem mlX4_31 : Cond.methodLink RX4 31 yX4_allHold ∈ GW := gw3 (List.mem_of_getElem? (i := 44) (by decide +kernel)) rfl
theorem mlX4_35 : Cond.methodLink RX4 35 yX4_holds ∈ GW := gw3 (List.mem_of_getElem? (i := 48) (by decide +kernel)) rfl
theorem mlX4_38 : Cond.methodLink RX4 38 yX7_metalIn ∈ GW := gw3 (List.mem_of_getElem? (i := 52) (by decide +kernel)) rfl
theorem mlX5_3 : Cond.methodLink RX5 3 objectInit ∈ GW := gw2 (List.mem_of_getElem? (i := 45) (by decide +kernel)) rfl
theorem mlX6_3 : Cond.methodLink RX6 3 objectInit ∈ GW := gw1 (List.mem_of_getElem? (i := 124) (by decide +kernel)) rfl
theorem mlX6_37 : Cond.methodLink RX6 37 yX6_has ∈ GW := gw3 (List.mem_of_getElem? (i := 70) (by decide +kernel)) rfl
theorem mlX6_41 : Cond.methodLink RX6 41 yX6_needOf ∈ GW := gw3 (List.mem_of_getElem? (i := 98) (by decide +kernel)) rfl
theorem mlX6_45 : Cond.methodLink RX6 45 yX6_chooseFor ∈ GW := gw3 (List.mem_of_getElem? (i := 99) (by decide +kernel)) rfl
theorem mlX6_49 : Cond.methodLink RX6 49 yX6_ageChosen ∈ GW := gw3 (List.mem_of_getElem? (i := 111) (by decide +kernel)) rfl
theorem mlX6_55 : Cond.methodLink RX6 55 yX6_oldestFor ∈ GW := gw3 (List.mem_of_getElem? (i := 103) (by decide +kernel)) rfl
theorem mlX6_59 : Cond.methodLink RX6 59 yX6_suits ∈ GW := gw3 (List.mem_of_getElem? (i := 107) (by decide +kernel)) rfl
theorem mlX7_3 : Cond.methodLink RX7 3 objectInit ∈ GW := gw1 (List.mem_of_getElem? (i := 31) (by decide +kernel)) rfl
theorem mlX7_50 : Cond.methodLink RX7 50 yX7_addPiece ∈ GW := gw2 (List.mem_of_getElem? (i := 72) (by decide +kernel)) rfl
theorem mlX7_54 : Cond.methodLink RX7 54 yX7_living ∈ GW := gw2 (List.mem_of_getElem? (i := 88) (by decide +kernel)) rfl
theorem mlX7_58 : Cond.methodLink RX7 58 yX5_isLeaf ∈ GW := gw2 (List.mem_of_getElem? (i := 92) (by decide +kernel)) rfl
theorem mlX7_62 : Cond.methodLink RX7 62 yX7_giveWholeShares ∈ GW := gw2 (List.mem_of_getElem? (i := 96) (by decide +kernel)) rfl
theorem mlX7_66 : Cond.methodLink RX7 66 yX7_giveRests ∈ GW := gw2 (List.mem_of_getElem? (i := 103) (by decide +kernel)) rfl
theorem mlX7_70 : Cond.methodLink RX7 70 yJ9_max_7cf53 ∈ GW := gw2 (List.mem_of_getElem? (i := 100) (by decide +kernel)) rfl
theorem mlX7_76 : Cond.methodLink RX7 76 yX7_greatestRest ∈ GW := gw2 (List.mem_of_getElem? (i := 107) (by decide +kernel)) rfl
theorem mlX8_3 : Cond.methodLink RX8 3 objectInit ∈ GW := gw1 (List.mem_of_getElem? (i := 86) (by decide +kernel)) rfl
theorem mlX8_28 : Cond.methodLink RX8 28 yX8_toNextToken ∈ GW := gw2 (List.mem_of_getElem? (i := 166) (by decide +kernel)) rfl
theorem mlX8_31 : Cond.methodLink RX8 31 yX8_kindOf ∈ GW := gw2 (List.mem_of_getElem? (i := 170) (by decide +kernel)) rfl
theorem mlX8_39 : Cond.methodLink RX8 39 yJ0_length_8abf5 ∈ GW := gw2 (List.mem_of_getElem? (i := 208) (by decide +kernel)) rfl
theorem mlX8_44 : Cond.methodLink RX8 44 yJ0_charAt_5068e ∈ GW := gw2 (List.mem_of_getElem? (i := 218) (by decide +kernel)) rfl
theorem mlX10_1 : Cond.methodLink RX10 1 objectInit ∈ GW := gw3 (List.mem_of_getElem? (i := 220) (by decide +kernel)) rfl
theorem mlX10_99 : Cond.methodLink RX10 99 yX10_in ∈ GW := gw4 (List.mem_of_getElem? (i := 119) (by decide +kernel)) rfl
theorem mlX10_107 : Cond.methodLink RX10 107 yX10_told ∈ GW := gw4 (List.mem_of_getElem? (i := 123) (by decide +kernel)) rfl
theorem mlX10_114 : Cond.methodLink RX10 114 yX10_addPiece ∈ GW := gw4 (List.mem_of_getElem? (i := 127) (by decide +kernel)) rfl
theorem mlX10_117 : Cond.methodLink RX10 117 yX10_isPiece ∈ GW := gw4 (List.mem_of_getElem? (i := 135) (by decide +kernel)) rfl
theorem mlX10_121 : Cond.methodLink RX10 121 yX10_weightOf ∈ GW := gw4 (List.mem_of_getElem? (i := 139) (by decide +kernel)) rfl
theorem mlX10_124 : Cond.methodLink RX10 124 yX10_isLeaf ∈ GW := gw4 (List.mem_of_getElem? (i := 143) (by decide +kernel)) rfl
theorem mlX10_129 : Cond.methodLink RX10 129 yX10_partOf ∈ GW := gw4 (List.mem_of_getElem? (i := 164) (by decide +kernel)) rfl
theorem mlX10_138 : Cond.methodLink RX10 138 yX10_four ∈ GW := gw4 (List.mem_of_getElem? (i := 173) (by decide +kernel)) rfl
theorem mlX10_152 : Cond.methodLink RX10 152 yX10_isSmall ∈ GW := gw4 (List.mem_of_getElem? (i := 189) (by decide +kernel)) rfl
theorem mlX10_155 : Cond.methodLink RX10 155 yX10_isDigit ∈ GW := gw4 (List.mem_of_getElem? (i := 192) (by decide +kernel)) rfl
theorem mlX10_173 : Cond.methodLink RX10 173 yX10_next ∈ GW := gw4 (List.mem_of_getElem? (i := 185) (by decide +kernel)) rfl
theorem mlX10_176 : Cond.methodLink RX10 176 yX10_must ∈ GW := gw4 (List.mem_of_getElem? (i := 207) (by decide +kernel)) rfl
theorem mlX10_183 : Cond.methodLink RX10 183 yX10_isWord ∈ GW := gw4 (List.mem_of_getElem? (i := 219) (by decide +kernel)) rfl
theorem mlX10_190 : Cond.methodLink RX10 190 yX10_number ∈ GW := gw4 (List.mem_of_getElem? (i := 223) (by decide +kernel)) rfl
theorem mlX10_194 : Cond.methodLink RX10 194 yX10_isNamed ∈ GW := gw4 (List.mem_of_getElem? (i := 203) (by decide +kernel)) rfl
theorem mlX10_198 : Cond.methodLink RX10 198 yX10_isSign ∈ GW := gw4 (List.mem_of_getElem? (i := 211) (by decide +kernel)) rfl
theorem mlX10_201 : Cond.methodLink RX10 201 yX10_readTest ∈ GW := gw4 (List.mem_of_getElem? (i := 215) (by decide +kernel)) rfl
theorem mlX10_204 : Cond.methodLink RX10 204 yX10_readColour ∈ GW := gw4 (List.mem_of_getElem? (i := 199) (by decide +kernel)) rfl
theorem mlX10_215 : Cond.methodLink RX10 215 yX10_isSkin ∈ GW := gw5 (List.mem_of_getElem? (i := 4) (by decide +kernel)) rfl
theorem mlX10_220 : Cond.methodLink RX10 220 yX10_beatOne ∈ GW := gw5 (List.mem_of_getElem? (i := 21) (by decide +kernel)) rfl
theorem mlX10_235 : Cond.methodLink RX10 235 yX10_along ∈ GW := gw5 (List.mem_of_getElem? (i := 48) (by decide +kernel)) rfl
theorem mlX10_243 : Cond.methodLink RX10 243 yX10_isHour ∈ GW := gw5 (List.mem_of_getElem? (i := 57) (by decide +kernel)) rfl
theorem mlX10_249 : Cond.methodLink RX10 249 yX10_heldIn ∈ GW := gw5 (List.mem_of_getElem? (i := 64) (by decide +kernel)) rfl
theorem mlJ0_335 : Cond.methodLink RJ0 335 yJ0_coder_7d493 ∈ GW := gw2 (List.mem_of_getElem? (i := 212) (by decide +kernel)) rfl
theorem mlJ0_492 : Cond.methodLink RJ0 492 yJ0_isLatin1_aae02 ∈ GW := gw2 (List.mem_of_getElem? (i := 222) (by decide +kernel)) rfl
theorem mlJ0_495 : Cond.methodLink RJ0 495 yJ1_charAt_3b067 ∈ GW := gw2 (List.mem_of_getElem? (i := 226) (by decide +kernel)) rfl
theorem mlJ0_1059 : Cond.methodLink RJ0 1059 yJ3_checkIndex_8e157 ∈ GW := gw2 (List.mem_of_getElem? (i := 234) (by decide +kernel)) rfl
theorem mlJ1_9 : Cond.methodLink RJ1 9 yJ0_checkIndex_df160 ∈ GW := gw2 (List.mem_of_getElem? (i := 229) (by decide +kernel)) rfl
theorem mlL_9 : Cond.methodLink RL 9 yX9_init ∈ GW := gw1 (List.mem_of_getElem? (i := 20) (by decide +kernel)) rfl
theorem mlL_12 : Cond.methodLink RL 12 yX10_init ∈ GW := gw3 (List.mem_of_getElem? (i := 217) (by decide +kernel)) rfl
theorem mlL_13 : Cond.methodLink RL 13 yX9_bar ∈ GW := gw2 (List.mem_of_getElem? (i := 29) (by decide +kernel)) rfl
theorem mlL_17 : Cond.methodLink RL 17 yX10_bar ∈ GW := gw4 (List.mem_of_getElem? (i := 114) (by decide +kernel)) rfl
theorem mlL_18 : Cond.methodLink RL 18 yX9_cut ∈ GW := gw2 (List.mem_of_getElem? (i := 80) (by decide +kernel)) rfl
theorem mlL_22 : Cond.methodLink RL 22 yX10_cut ∈ GW := gw4 (List.mem_of_getElem? (i := 131) (by decide +kernel)) rfl
theorem mlL_23 : Cond.methodLink RL 23 yX9_melt ∈ GW := gw2 (List.mem_of_getElem? (i := 111) (by decide +kernel)) rfl
theorem mlL_26 : Cond.methodLink RL 26 yX10_melt ∈ GW := gw4 (List.mem_of_getElem? (i := 147) (by decide +kernel)) rfl
theorem mlL_27 : Cond.methodLink RL 27 yX9_weight ∈ GW := gw2 (List.mem_of_getElem? (i := 119) (by decide +kernel)) rfl
theorem mlL_31 : Cond.methodLink RL 31 yX10_weight ∈ GW := gw4 (List.mem_of_getElem? (i := 151) (by decide +kernel)) rfl
theorem mlL_32 : Cond.methodLink RL 32 yX9_from ∈ GW := gw2 (List.mem_of_getElem? (i := 124) (by decide +kernel)) rfl
theorem mlL_35 : Cond.methodLink RL 35 yX10_from ∈ GW := gw4 (List.mem_of_getElem? (i := 155) (by decide +kernel)) rfl
theorem mlL_36 : Cond.methodLink RL 36 yX9_part ∈ GW := gw2 (List.mem_of_getElem? (i := 128) (by decide +kernel)) rfl
theorem mlL_40 : Cond.methodLink RL 40 yX10_part ∈ GW := gw4 (List.mem_of_getElem? (i := 159) (by decide +kernel)) rfl
theorem mlL_41 : Cond.methodLink RL 41 yX9_feed ∈ GW := gw2 (List.mem_of_getElem? (i := 138) (by decide +kernel)) rfl
theorem mlL_45 : Cond.methodLink RL 45 yX10_feed ∈ GW := gw4 (List.mem_of_getElem? (i := 169) (by decide +kernel)) rfl
theorem mlL_46 : Cond.methodLink RL 46 yX9_end ∈ GW := gw2 (List.mem_of_getElem? (i := 146) (by decide +kernel)) rfl
theorem mlL_49 : Cond.methodLink RL 49 yX10_end ∈ GW := gw4 (List.mem_of_getElem? (i := 177) (by decide +kernel)) rfl
theorem mlL_50 : Cond.methodLink RL 50 yX9_colours ∈ GW := gw2 (List.mem_of_getElem? (i := 150) (by decide +kernel)) rfl
theorem mlL_54 : Cond.methodLink RL 54 yX10_colours ∈ GW := gw4 (List.mem_of_getElem? (i := 181) (by decide +kernel)) rfl
theorem mlL_55 : Cond.methodLink RL 55 yX9_fault ∈ GW := gw3 (List.mem_of_getElem? (i := 32) (by decide +kernel)) rfl
theorem mlL_58 : Cond.methodLink RL 58 yX10_fault ∈ GW := gw4 (List.mem_of_getElem? (i := 227) (by decide +kernel)) rfl
theorem mlL_59 : Cond.methodLink RL 59 yX9_colour ∈ GW := gw3 (List.mem_of_getElem? (i := 36) (by decide +kernel)) rfl
theorem mlL_62 : Cond.methodLink RL 62 yX10_colour ∈ GW := gw4 (List.mem_of_getElem? (i := 231) (by decide +kernel)) rfl
theorem mlL_63 : Cond.methodLink RL 63 yX9_skin ∈ GW := gw3 (List.mem_of_getElem? (i := 53) (by decide +kernel)) rfl
theorem mlL_66 : Cond.methodLink RL 66 yX10_skin ∈ GW := gw4 (List.mem_of_getElem? (i := 235) (by decide +kernel)) rfl
theorem mlL_67 : Cond.methodLink RL 67 yX9_dry ∈ GW := gw3 (List.mem_of_getElem? (i := 62) (by decide +kernel)) rfl
theorem mlL_70 : Cond.methodLink RL 70 yX10_dry ∈ GW := gw5 (List.mem_of_getElem? (i := 0) (by decide +kernel)) rfl
theorem mlL_71 : Cond.methodLink RL 71 yX9_age ∈ GW := gw3 (List.mem_of_getElem? (i := 74) (by decide +kernel)) rfl
theorem mlL_74 : Cond.methodLink RL 74 yX10_age ∈ GW := gw5 (List.mem_of_getElem? (i := 8) (by decide +kernel)) rfl
theorem mlL_75 : Cond.methodLink RL 75 yX9_pack ∈ GW := gw3 (List.mem_of_getElem? (i := 79) (by decide +kernel)) rfl
theorem mlL_79 : Cond.methodLink RL 79 yX10_pack ∈ GW := gw5 (List.mem_of_getElem? (i := 12) (by decide +kernel)) rfl
theorem mlL_80 : Cond.methodLink RL 80 yX9_beat ∈ GW := gw3 (List.mem_of_getElem? (i := 90) (by decide +kernel)) rfl
theorem mlL_83 : Cond.methodLink RL 83 yX10_beat ∈ GW := gw5 (List.mem_of_getElem? (i := 17) (by decide +kernel)) rfl
theorem mlL_84 : Cond.methodLink RL 84 yX9_leaf ∈ GW := gw3 (List.mem_of_getElem? (i := 115) (by decide +kernel)) rfl
theorem mlL_87 : Cond.methodLink RL 87 yX10_leaf ∈ GW := gw5 (List.mem_of_getElem? (i := 25) (by decide +kernel)) rfl
theorem mlL_88 : Cond.methodLink RL 88 yX9_flatter ∈ GW := gw3 (List.mem_of_getElem? (i := 125) (by decide +kernel)) rfl
theorem mlL_91 : Cond.methodLink RL 91 yX10_flatter ∈ GW := gw5 (List.mem_of_getElem? (i := 30) (by decide +kernel)) rfl
theorem mlL_92 : Cond.methodLink RL 92 yX9_bind ∈ GW := gw3 (List.mem_of_getElem? (i := 133) (by decide +kernel)) rfl
theorem mlL_95 : Cond.methodLink RL 95 yX10_bind ∈ GW := gw5 (List.mem_of_getElem? (i := 34) (by decide +kernel)) rfl
theorem mlL_96 : Cond.methodLink RL 96 yX9_book ∈ GW := gw3 (List.mem_of_getElem? (i := 142) (by decide +kernel)) rfl
theorem mlL_99 : Cond.methodLink RL 99 yX10_book ∈ GW := gw5 (List.mem_of_getElem? (i := 39) (by decide +kernel)) rfl
theorem mlL_100 : Cond.methodLink RL 100 yX9_surface ∈ GW := gw3 (List.mem_of_getElem? (i := 146) (by decide +kernel)) rfl
theorem mlL_104 : Cond.methodLink RL 104 yX10_surface ∈ GW := gw5 (List.mem_of_getElem? (i := 43) (by decide +kernel)) rfl
theorem mlL_105 : Cond.methodLink RL 105 yX9_pass ∈ GW := gw3 (List.mem_of_getElem? (i := 153) (by decide +kernel)) rfl
theorem mlL_109 : Cond.methodLink RL 109 yX10_pass ∈ GW := gw5 (List.mem_of_getElem? (i := 51) (by decide +kernel)) rfl
theorem mlL_110 : Cond.methodLink RL 110 yX9_held ∈ GW := gw3 (List.mem_of_getElem? (i := 167) (by decide +kernel)) rfl
theorem mlL_113 : Cond.methodLink RL 113 yX10_held ∈ GW := gw5 (List.mem_of_getElem? (i := 60) (by decide +kernel)) rfl
theorem mlL_114 : Cond.methodLink RL 114 yX9_find ∈ GW := gw3 (List.mem_of_getElem? (i := 181) (by decide +kernel)) rfl
theorem mlL_117 : Cond.methodLink RL 117 yX10_find ∈ GW := gw5 (List.mem_of_getElem? (i := 69) (by decide +kernel)) rfl
theorem mlL_118 : Cond.methodLink RL 118 yX9_missing ∈ GW := gw3 (List.mem_of_getElem? (i := 190) (by decide +kernel)) rfl
theorem mlL_121 : Cond.methodLink RL 121 yX10_missing ∈ GW := gw5 (List.mem_of_getElem? (i := 74) (by decide +kernel)) rfl
theorem mlL_122 : Cond.methodLink RL 122 yX9_count ∈ GW := gw3 (List.mem_of_getElem? (i := 199) (by decide +kernel)) rfl
theorem mlL_125 : Cond.methodLink RL 125 yX10_count ∈ GW := gw5 (List.mem_of_getElem? (i := 78) (by decide +kernel)) rfl
theorem mlL_126 : Cond.methodLink RL 126 yX9_status ∈ GW := gw3 (List.mem_of_getElem? (i := 211) (by decide +kernel)) rfl
theorem mlL_129 : Cond.methodLink RL 129 yX10_status ∈ GW := gw5 (List.mem_of_getElem? (i := 82) (by decide +kernel)) rfl
theorem mwX7_init : MW yX7_init cX7_init 1 none 0 := ⟨gw1 (List.mem_of_getElem? (i := 30) (by decide +kernel)) rfl, gw1 (List.mem_of_getElem? (i := 2) (by decide +kernel)) rfl, by decide +kernel⟩
theorem inX7_init : Cond.instanceMethod yX7_init ∈ GW := gw1 (List.mem_of_getElem? (i := 29) (by decide +kernel)) rfl
theorem mwX0_init : MW yX0_init cX0_init 1 none 0 := ⟨gw1 (List.mem_of_getElem? (i := 61) (by decide +kernel)) rfl, gw1 (List.mem_of_getElem? (i := 3) (by decide +kernel)) rfl, by decide +kernel⟩
theorem inX0_init : Cond.instanceMethod yX0_init ∈ GW := gw1 (List.mem_of_getElem? (i := 60) (by decide +kernel)) rfl
theorem mwX8_init : MW yX8_init cX8_init 1 none 0 := ⟨gw1 (List.mem_of_getElem? (i := 85) (by decide +kernel)) rfl, gw1 (List.mem_of_getElem? (i := 5) (by decide +kernel)) rfl, by decide +kernel⟩
theorem inX8_init : Cond.instanceMethod yX8_init ∈ GW := gw1 (List.mem_of_getElem? (i := 84) (by decide +kernel)) rfl
theorem mwX1_init : MW yX1_init cX1_init 1 none 0 := ⟨gw1 (List.mem_of_getElem? (i := 79) (by decide +kernel)) rfl, gw1 (List.mem_of_getElem? (i := 4) (by decide +kernel)) rfl, by decide +kernel⟩
theorem inX1_init : Cond.instanceMethod yX1_init ∈ GW := gw1 (List.mem_of_getElem? (i := 78) (by decide +kernel)) rfl
theorem mwX3_init : MW yX3_init cX3_init 1 none 0 := ⟨gw1 (List.mem_of_getElem? (i := 130) (by decide +kernel)) rfl, gw1 (List.mem_of_getElem? (i := 7) (by decide +kernel)) rfl, by decide +kernel⟩
theorem inX3_init : Cond.instanceMethod yX3_init ∈ GW := gw1 (List.mem_of_getElem? (i := 129) (by decide +kernel)) rfl
theorem mwX6_init : MW yX6_init cX6_init 1 none 0 := ⟨gw1 (List.mem_of_getElem? (i := 123) (by decide +kernel)) rfl, gw1 (List.mem_of_getElem? (i := 6) (by decide +kernel)) rfl, by decide +kernel⟩
theorem inX6_init : Cond.instanceMethod yX6_init ∈ GW := gw1 (List.mem_of_getElem? (i := 122) (by decide +kernel)) rfl
theorem mwX2_init : MW yX2_init cX2_init 1 none 0 := ⟨gw1 (List.mem_of_getElem? (i := 181) (by decide +kernel)) rfl, gw1 (List.mem_of_getElem? (i := 8) (by decide +kernel)) rfl, by decide +kernel⟩
theorem inX2_init : Cond.instanceMethod yX2_init ∈ GW := gw1 (List.mem_of_getElem? (i := 180) (by decide +kernel)) rfl
theorem mwX4_init : MW yX4_init cX4_init 1 none 0 := ⟨gw1 (List.mem_of_getElem? (i := 215) (by decide +kernel)) rfl, gw1 (List.mem_of_getElem? (i := 9) (by decide +kernel)) rfl, by decide +kernel⟩
theorem inX4_init : Cond.instanceMethod yX4_init ∈ GW := gw1 (List.mem_of_getElem? (i := 214) (by decide +kernel)) rfl
theorem mwX9_init : MW yX9_init cX9_init 1 none 0 := ⟨gw1 (List.mem_of_getElem? (i := 22) (by decide +kernel)) rfl, gw1 (List.mem_of_getElem? (i := 1) (by decide +kernel)) rfl, by decide +kernel⟩
theorem inX9_init : Cond.instanceMethod yX9_init ∈ GW := gw1 (List.mem_of_getElem? (i := 21) (by decide +kernel)) rfl
theorem mwX10_init : MW yX10_init cX10_init 1 none 0 := ⟨gw3 (List.mem_of_getElem? (i := 219) (by decide +kernel)) rfl, gw1 (List.mem_of_getElem? (i := 10) (by decide +kernel)) rfl, by decide +kernel⟩
theorem inX10_init : Cond.instanceMethod yX10_init ∈ GW := gw3 (List.mem_of_getElem? (i := 218) (by decide +kernel)) rfl
theorem mwX9_within : MW yX9_within cX9_within 3 (some .boolean) 3 := ⟨gw2 (List.mem_of_getElem? (i := 40) (by decide +kernel)) rfl, gw1 (List.mem_of_getElem? (i := 1) (by decide +kernel)) rfl, by decide +kernel⟩
theorem stX9_within : Cond.static yX9_within ∈ GW := gw2 (List.mem_of_getElem? (i := 39) (by decide +kernel)) rfl
theorem mwX5_init : MW yX5_init cX5_init 1 none 0 := ⟨gw2 (List.mem_of_getElem? (i := 44) (by decide +kernel)) rfl, gw1 (List.mem_of_getElem? (i := 11) (by decide +kernel)) rfl, by decide +kernel⟩
theorem inX5_init : Cond.instanceMethod yX5_init ∈ GW := gw2 (List.mem_of_getElem? (i := 43) (by decide +kernel)) rfl
theorem mwX7_addPiece : MW yX7_addPiece cX7_addPiece 2 (some .int) 1 := ⟨gw2 (List.mem_of_getElem? (i := 75) (by decide +kernel)) rfl, gw1 (List.mem_of_getElem? (i := 2) (by decide +kernel)) rfl, by decide +kernel⟩
theorem inX7_addPiece : Cond.instanceMethod yX7_addPiece ∈ GW := gw2 (List.mem_of_getElem? (i := 74) (by decide +kernel)) rfl
theorem csX7_addPiece : ∃ T N, vwCl[7]? = some (yX7_addPiece.cls, T, N) ∧ Cond.selects yX7_addPiece.cls yX7_addPiece yX7_addPiece ∈ GW := ⟨_, _, rfl, gw0 (List.mem_of_getElem? (i := 0) (by decide +kernel)) rfl⟩
theorem mwX7_addBar : MW yX7_addBar cX7_addBar 5 (some .int) 3 := ⟨gw2 (List.mem_of_getElem? (i := 36) (by decide +kernel)) rfl, gw1 (List.mem_of_getElem? (i := 2) (by decide +kernel)) rfl, by decide +kernel⟩
theorem inX7_addBar : Cond.instanceMethod yX7_addBar ∈ GW := gw2 (List.mem_of_getElem? (i := 34) (by decide +kernel)) rfl
theorem csX7_addBar : ∃ T N, vwCl[7]? = some (yX7_addBar.cls, T, N) ∧ Cond.selects yX7_addBar.cls yX7_addBar yX7_addBar ∈ GW := ⟨_, _, rfl, gw2 (List.mem_of_getElem? (i := 35) (by decide +kernel)) rfl⟩
theorem mwX9_noted : MW yX9_noted cX9_noted 2 (some .int) 1 := ⟨gw2 (List.mem_of_getElem? (i := 79) (by decide +kernel)) rfl, gw1 (List.mem_of_getElem? (i := 1) (by decide +kernel)) rfl, by decide +kernel⟩
theorem inX9_noted : Cond.instanceMethod yX9_noted ∈ GW := gw2 (List.mem_of_getElem? (i := 78) (by decide +kernel)) rfl
theorem csX9_noted : ∃ T N, vwCl[9]? = some (yX9_noted.cls, T, N) ∧ Cond.selects yX9_noted.cls yX9_noted yX9_noted ∈ GW := ⟨_, _, rfl, gw0 (List.mem_of_getElem? (i := 1) (by decide +kernel)) rfl⟩
theorem mwX9_bar : MW yX9_bar cX9_bar 4 (some .int) 3 := ⟨gw2 (List.mem_of_getElem? (i := 32) (by decide +kernel)) rfl, gw1 (List.mem_of_getElem? (i := 1) (by decide +kernel)) rfl, by decide +kernel⟩
theorem inX9_bar : Cond.instanceMethod yX9_bar ∈ GW := gw2 (List.mem_of_getElem? (i := 30) (by decide +kernel)) rfl
theorem csX9_bar : ∃ T N, vwCl[9]? = some (yX9_bar.cls, T, N) ∧ Cond.selects yX9_bar.cls yX9_bar yX9_bar ∈ GW := ⟨_, _, rfl, gw2 (List.mem_of_getElem? (i := 31) (by decide +kernel)) rfl⟩
theorem mwX10_in : MW yX10_in cX10_in 6 (some .boolean) 3 := ⟨gw4 (List.mem_of_getElem? (i := 121) (by decide +kernel)) rfl, gw1 (List.mem_of_getElem? (i := 10) (by decide +kernel)) rfl, by decide +kernel⟩
theorem stX10_in : Cond.static yX10_in ∈ GW := gw4 (List.mem_of_getElem? (i := 120) (by decide +kernel)) rfl
theorem mwX10_told : MW yX10_told cX10_told 2 (some .int) 1 := ⟨gw4 (List.mem_of_getElem? (i := 126) (by decide +kernel)) rfl, gw1 (List.mem_of_getElem? (i := 10) (by decide +kernel)) rfl, by decide +kernel⟩
theorem inX10_told : Cond.instanceMethod yX10_told ∈ GW := gw4 (List.mem_of_getElem? (i := 125) (by decide +kernel)) rfl
theorem csX10_told : ∃ T N, vwCl[10]? = some (yX10_told.cls, T, N) ∧ Cond.selects yX10_told.cls yX10_told yX10_told ∈ GW := ⟨_, _, rfl, gw0 (List.mem_of_getElem? (i := 17) (by decide +kernel)) rfl⟩
theorem mwX10_addPiece : MW yX10_addPiece cX10_addPiece 2 none 0 := ⟨gw4 (List.mem_of_getElem? (i := 130) (by decide +kernel)) rfl, gw1 (List.mem_of_getElem? (i := 10) (by decide +kernel)) rfl, by decide +kernel⟩
theorem inX10_addPiece : Cond.instanceMethod yX10_addPiece ∈ GW := gw4 (List.mem_of_getElem? (i := 129) (by decide +kernel)) rfl
theorem csX10_addPiece : ∃ T N, vwCl[10]? = some (yX10_addPiece.cls, T, N) ∧ Cond.selects yX10_addPiece.cls yX10_addPiece yX10_addPiece ∈ GW := ⟨_, _, rfl, gw0 (List.mem_of_getElem? (i := 18) (by decide +kernel)) rfl⟩
theorem mwX10_bar : MW yX10_bar cX10_bar 4 (some .int) 3 := ⟨gw4 (List.mem_of_getElem? (i := 117) (by decide +kernel)) rfl, gw1 (List.mem_of_getElem? (i := 10) (by decide +kernel)) rfl, by decide +kernel⟩
theorem inX10_bar : Cond.instanceMethod yX10_bar ∈ GW := gw4 (List.mem_of_getElem? (i := 115) (by decide +kernel)) rfl
theorem csX10_bar : ∃ T N, vwCl[10]? = some (yX10_bar.cls, T, N) ∧ Cond.selects yX10_bar.cls yX10_bar yX10_bar ∈ GW := ⟨_, _, rfl, gw4 (List.mem_of_getElem? (i := 116) (by decide +kernel)) rfl⟩
theorem mwX7_living : MW yX7_living cX7_living 3 (some (.object "GoldLeaves$Piece")) 1 := ⟨gw2 (List.mem_of_getElem? (i := 91) (by decide +kernel)) rfl, gw1 (List.mem_of_getElem? (i := 2) (by decide +kernel)) rfl, by decide +kernel⟩
theorem inX7_living : Cond.instanceMethod yX7_living ∈ GW := gw2 (List.mem_of_getElem? (i := 89) (by decide +kernel)) rfl
theorem csX7_living : ∃ T N, vwCl[7]? = some (yX7_living.cls, T, N) ∧ Cond.selects yX7_living.cls yX7_living yX7_living ∈ GW := ⟨_, _, rfl, gw2 (List.mem_of_getElem? (i := 90) (by decide +kernel)) rfl⟩
theorem mwX5_isLeaf : MW yX5_isLeaf cX5_isLeaf 1 (some .boolean) 0 := ⟨gw2 (List.mem_of_getElem? (i := 95) (by decide +kernel)) rfl, gw1 (List.mem_of_getElem? (i := 11) (by decide +kernel)) rfl, by decide +kernel⟩
theorem inX5_isLeaf : Cond.instanceMethod yX5_isLeaf ∈ GW := gw2 (List.mem_of_getElem? (i := 93) (by decide +kernel)) rfl
theorem csX5_isLeaf : ∃ T N, vwCl[5]? = some (yX5_isLeaf.cls, T, N) ∧ Cond.selects yX5_isLeaf.cls yX5_isLeaf yX5_isLeaf ∈ GW := ⟨_, _, rfl, gw2 (List.mem_of_getElem? (i := 94) (by decide +kernel)) rfl⟩
theorem mwJ9_max_7cf53 : MW yJ9_max_7cf53 cJ9_max_7cf53 2 (some .int) 2 := ⟨gw2 (List.mem_of_getElem? (i := 102) (by decide +kernel)) rfl, gw1 (List.mem_of_getElem? (i := 12) (by decide +kernel)) rfl, by decide +kernel⟩
theorem stJ9_max_7cf53 : Cond.static yJ9_max_7cf53 ∈ GW := gw2 (List.mem_of_getElem? (i := 101) (by decide +kernel)) rfl
theorem mwX7_giveWholeShares : MW yX7_giveWholeShares cX7_giveWholeShares 10 (some .int) 3 := ⟨gw2 (List.mem_of_getElem? (i := 99) (by decide +kernel)) rfl, gw1 (List.mem_of_getElem? (i := 2) (by decide +kernel)) rfl, by decide +kernel⟩
theorem inX7_giveWholeShares : Cond.instanceMethod yX7_giveWholeShares ∈ GW := gw2 (List.mem_of_getElem? (i := 98) (by decide +kernel)) rfl
theorem csX7_giveWholeShares : ∃ T N, vwCl[7]? = some (yX7_giveWholeShares.cls, T, N) ∧ Cond.selects yX7_giveWholeShares.cls yX7_giveWholeShares yX7_giveWholeShares ∈ GW := ⟨_, _, rfl, gw0 (List.mem_of_getElem? (i := 2) (by decide +kernel)) rfl⟩
theorem mwX7_greatestRest : MW yX7_greatestRest cX7_greatestRest 3 (some .int) 0 := ⟨gw2 (List.mem_of_getElem? (i := 110) (by decide +kernel)) rfl, gw1 (List.mem_of_getElem? (i := 2) (by decide +kernel)) rfl, by decide +kernel⟩
theorem inX7_greatestRest : Cond.instanceMethod yX7_greatestRest ∈ GW := gw2 (List.mem_of_getElem? (i := 109) (by decide +kernel)) rfl
theorem csX7_greatestRest : ∃ T N, vwCl[7]? = some (yX7_greatestRest.cls, T, N) ∧ Cond.selects yX7_greatestRest.cls yX7_greatestRest yX7_greatestRest ∈ GW := ⟨_, _, rfl, gw0 (List.mem_of_getElem? (i := 4) (by decide +kernel)) rfl⟩
theorem mwX7_giveRests : MW yX7_giveRests cX7_giveRests 5 none 2 := ⟨gw2 (List.mem_of_getElem? (i := 106) (by decide +kernel)) rfl, gw1 (List.mem_of_getElem? (i := 2) (by decide +kernel)) rfl, by decide +kernel⟩
theorem inX7_giveRests : Cond.instanceMethod yX7_giveRests ∈ GW := gw2 (List.mem_of_getElem? (i := 105) (by decide +kernel)) rfl
theorem csX7_giveRests : ∃ T N, vwCl[7]? = some (yX7_giveRests.cls, T, N) ∧ Cond.selects yX7_giveRests.cls yX7_giveRests yX7_giveRests ∈ GW := ⟨_, _, rfl, gw0 (List.mem_of_getElem? (i := 3) (by decide +kernel)) rfl⟩
theorem mwX7_cutOff : MW yX7_cutOff cX7_cutOff 6 (some .int) 2 := ⟨gw2 (List.mem_of_getElem? (i := 87) (by decide +kernel)) rfl, gw1 (List.mem_of_getElem? (i := 2) (by decide +kernel)) rfl, by decide +kernel⟩
theorem inX7_cutOff : Cond.instanceMethod yX7_cutOff ∈ GW := gw2 (List.mem_of_getElem? (i := 85) (by decide +kernel)) rfl
theorem csX7_cutOff : ∃ T N, vwCl[7]? = some (yX7_cutOff.cls, T, N) ∧ Cond.selects yX7_cutOff.cls yX7_cutOff yX7_cutOff ∈ GW := ⟨_, _, rfl, gw2 (List.mem_of_getElem? (i := 86) (by decide +kernel)) rfl⟩
theorem mwX9_cut : MW yX9_cut cX9_cut 3 (some .int) 2 := ⟨gw2 (List.mem_of_getElem? (i := 83) (by decide +kernel)) rfl, gw1 (List.mem_of_getElem? (i := 1) (by decide +kernel)) rfl, by decide +kernel⟩
theorem inX9_cut : Cond.instanceMethod yX9_cut ∈ GW := gw2 (List.mem_of_getElem? (i := 81) (by decide +kernel)) rfl
theorem csX9_cut : ∃ T N, vwCl[9]? = some (yX9_cut.cls, T, N) ∧ Cond.selects yX9_cut.cls yX9_cut yX9_cut ∈ GW := ⟨_, _, rfl, gw2 (List.mem_of_getElem? (i := 82) (by decide +kernel)) rfl⟩
theorem mwX10_isPiece : MW yX10_isPiece cX10_isPiece 2 (some .boolean) 1 := ⟨gw4 (List.mem_of_getElem? (i := 138) (by decide +kernel)) rfl, gw1 (List.mem_of_getElem? (i := 10) (by decide +kernel)) rfl, by decide +kernel⟩
theorem inX10_isPiece : Cond.instanceMethod yX10_isPiece ∈ GW := gw4 (List.mem_of_getElem? (i := 137) (by decide +kernel)) rfl
theorem csX10_isPiece : ∃ T N, vwCl[10]? = some (yX10_isPiece.cls, T, N) ∧ Cond.selects yX10_isPiece.cls yX10_isPiece yX10_isPiece ∈ GW := ⟨_, _, rfl, gw0 (List.mem_of_getElem? (i := 19) (by decide +kernel)) rfl⟩
theorem mwX10_weightOf : MW yX10_weightOf cX10_weightOf 4 (some .int) 1 := ⟨gw4 (List.mem_of_getElem? (i := 142) (by decide +kernel)) rfl, gw1 (List.mem_of_getElem? (i := 10) (by decide +kernel)) rfl, by decide +kernel⟩
theorem inX10_weightOf : Cond.instanceMethod yX10_weightOf ∈ GW := gw4 (List.mem_of_getElem? (i := 141) (by decide +kernel)) rfl
theorem csX10_weightOf : ∃ T N, vwCl[10]? = some (yX10_weightOf.cls, T, N) ∧ Cond.selects yX10_weightOf.cls yX10_weightOf yX10_weightOf ∈ GW := ⟨_, _, rfl, gw0 (List.mem_of_getElem? (i := 20) (by decide +kernel)) rfl⟩
theorem mwX10_isLeaf : MW yX10_isLeaf cX10_isLeaf 2 (some .boolean) 1 := ⟨gw4 (List.mem_of_getElem? (i := 146) (by decide +kernel)) rfl, gw1 (List.mem_of_getElem? (i := 10) (by decide +kernel)) rfl, by decide +kernel⟩
theorem inX10_isLeaf : Cond.instanceMethod yX10_isLeaf ∈ GW := gw4 (List.mem_of_getElem? (i := 145) (by decide +kernel)) rfl
theorem csX10_isLeaf : ∃ T N, vwCl[10]? = some (yX10_isLeaf.cls, T, N) ∧ Cond.selects yX10_isLeaf.cls yX10_isLeaf yX10_isLeaf ∈ GW := ⟨_, _, rfl, gw0 (List.mem_of_getElem? (i := 21) (by decide +kernel)) rfl⟩
theorem mwX10_cut : MW yX10_cut cX10_cut 14 (some .int) 2 := ⟨gw4 (List.mem_of_getElem? (i := 134) (by decide +kernel)) rfl, gw1 (List.mem_of_getElem? (i := 10) (by decide +kernel)) rfl, by decide +kernel⟩
theorem inX10_cut : Cond.instanceMethod yX10_cut ∈ GW := gw4 (List.mem_of_getElem? (i := 132) (by decide +kernel)) rfl
theorem csX10_cut : ∃ T N, vwCl[10]? = some (yX10_cut.cls, T, N) ∧ Cond.selects yX10_cut.cls yX10_cut yX10_cut ∈ GW := ⟨_, _, rfl, gw4 (List.mem_of_getElem? (i := 133) (by decide +kernel)) rfl⟩
theorem mwX7_meltInto : MW yX7_meltInto cX7_meltInto 6 (some .int) 2 := ⟨gw2 (List.mem_of_getElem? (i := 118) (by decide +kernel)) rfl, gw1 (List.mem_of_getElem? (i := 2) (by decide +kernel)) rfl, by decide +kernel⟩
theorem inX7_meltInto : Cond.instanceMethod yX7_meltInto ∈ GW := gw2 (List.mem_of_getElem? (i := 116) (by decide +kernel)) rfl
theorem csX7_meltInto : ∃ T N, vwCl[7]? = some (yX7_meltInto.cls, T, N) ∧ Cond.selects yX7_meltInto.cls yX7_meltInto yX7_meltInto ∈ GW := ⟨_, _, rfl, gw2 (List.mem_of_getElem? (i := 117) (by decide +kernel)) rfl⟩
theorem mwX9_melt : MW yX9_melt cX9_melt 3 (some .int) 2 := ⟨gw2 (List.mem_of_getElem? (i := 114) (by decide +kernel)) rfl, gw1 (List.mem_of_getElem? (i := 1) (by decide +kernel)) rfl, by decide +kernel⟩
theorem inX9_melt : Cond.instanceMethod yX9_melt ∈ GW := gw2 (List.mem_of_getElem? (i := 112) (by decide +kernel)) rfl
theorem csX9_melt : ∃ T N, vwCl[9]? = some (yX9_melt.cls, T, N) ∧ Cond.selects yX9_melt.cls yX9_melt yX9_melt ∈ GW := ⟨_, _, rfl, gw2 (List.mem_of_getElem? (i := 113) (by decide +kernel)) rfl⟩
theorem mwX10_melt : MW yX10_melt cX10_melt 4 (some .int) 2 := ⟨gw4 (List.mem_of_getElem? (i := 150) (by decide +kernel)) rfl, gw1 (List.mem_of_getElem? (i := 10) (by decide +kernel)) rfl, by decide +kernel⟩
theorem inX10_melt : Cond.instanceMethod yX10_melt ∈ GW := gw4 (List.mem_of_getElem? (i := 148) (by decide +kernel)) rfl
theorem csX10_melt : ∃ T N, vwCl[10]? = some (yX10_melt.cls, T, N) ∧ Cond.selects yX10_melt.cls yX10_melt yX10_melt ∈ GW := ⟨_, _, rfl, gw4 (List.mem_of_getElem? (i := 149) (by decide +kernel)) rfl⟩
theorem mwX9_weight : MW yX9_weight cX9_weight 3 (some .int) 1 := ⟨gw2 (List.mem_of_getElem? (i := 122) (by decide +kernel)) rfl, gw1 (List.mem_of_getElem? (i := 1) (by decide +kernel)) rfl, by decide +kernel⟩
theorem inX9_weight : Cond.instanceMethod yX9_weight ∈ GW := gw2 (List.mem_of_getElem? (i := 120) (by decide +kernel)) rfl
theorem csX9_weight : ∃ T N, vwCl[9]? = some (yX9_weight.cls, T, N) ∧ Cond.selects yX9_weight.cls yX9_weight yX9_weight ∈ GW := ⟨_, _, rfl, gw2 (List.mem_of_getElem? (i := 121) (by decide +kernel)) rfl⟩
theorem mwX10_weight : MW yX10_weight cX10_weight 2 (some .int) 1 := ⟨gw4 (List.mem_of_getElem? (i := 154) (by decide +kernel)) rfl, gw1 (List.mem_of_getElem? (i := 10) (by decide +kernel)) rfl, by decide +kernel⟩
theorem inX10_weight : Cond.instanceMethod yX10_weight ∈ GW := gw4 (List.mem_of_getElem? (i := 152) (by decide +kernel)) rfl
theorem csX10_weight : ∃ T N, vwCl[10]? = some (yX10_weight.cls, T, N) ∧ Cond.selects yX10_weight.cls yX10_weight yX10_weight ∈ GW := ⟨_, _, rfl, gw4 (List.mem_of_getElem? (i := 153) (by decide +kernel)) rfl⟩
theorem mwX9_from : MW yX9_from cX9_from 4 (some .int) 2 := ⟨gw2 (List.mem_of_getElem? (i := 127) (by decide +kernel)) rfl, gw1 (List.mem_of_getElem? (i := 1) (by decide +kernel)) rfl, by decide +kernel⟩
theorem inX9_from : Cond.instanceMethod yX9_from ∈ GW := gw2 (List.mem_of_getElem? (i := 125) (by decide +kernel)) rfl
theorem csX9_from : ∃ T N, vwCl[9]? = some (yX9_from.cls, T, N) ∧ Cond.selects yX9_from.cls yX9_from yX9_from ∈ GW := ⟨_, _, rfl, gw2 (List.mem_of_getElem? (i := 126) (by decide +kernel)) rfl⟩
theorem mwX10_from : MW yX10_from cX10_from 3 (some .int) 2 := ⟨gw4 (List.mem_of_getElem? (i := 158) (by decide +kernel)) rfl, gw1 (List.mem_of_getElem? (i := 10) (by decide +kernel)) rfl, by decide +kernel⟩
theorem inX10_from : Cond.instanceMethod yX10_from ∈ GW := gw4 (List.mem_of_getElem? (i := 156) (by decide +kernel)) rfl
theorem csX10_from : ∃ T N, vwCl[10]? = some (yX10_from.cls, T, N) ∧ Cond.selects yX10_from.cls yX10_from yX10_from ∈ GW := ⟨_, _, rfl, gw4 (List.mem_of_getElem? (i := 157) (by decide +kernel)) rfl⟩
theorem mwX7_metalIn : MW yX7_metalIn cX7_metalIn 6 (some .long) 2 := ⟨gw2 (List.mem_of_getElem? (i := 137) (by decide +kernel)) rfl, gw1 (List.mem_of_getElem? (i := 2) (by decide +kernel)) rfl, by decide +kernel⟩
theorem inX7_metalIn : Cond.instanceMethod yX7_metalIn ∈ GW := gw2 (List.mem_of_getElem? (i := 135) (by decide +kernel)) rfl
theorem csX7_metalIn : ∃ T N, vwCl[7]? = some (yX7_metalIn.cls, T, N) ∧ Cond.selects yX7_metalIn.cls yX7_metalIn yX7_metalIn ∈ GW := ⟨_, _, rfl, gw2 (List.mem_of_getElem? (i := 136) (by decide +kernel)) rfl⟩
theorem mwX9_part : MW yX9_part cX9_part 4 (some .long) 2 := ⟨gw2 (List.mem_of_getElem? (i := 131) (by decide +kernel)) rfl, gw1 (List.mem_of_getElem? (i := 1) (by decide +kernel)) rfl, by decide +kernel⟩
theorem inX9_part : Cond.instanceMethod yX9_part ∈ GW := gw2 (List.mem_of_getElem? (i := 129) (by decide +kernel)) rfl
theorem csX9_part : ∃ T N, vwCl[9]? = some (yX9_part.cls, T, N) ∧ Cond.selects yX9_part.cls yX9_part yX9_part ∈ GW := ⟨_, _, rfl, gw2 (List.mem_of_getElem? (i := 130) (by decide +kernel)) rfl⟩
theorem mwX10_partOf : MW yX10_partOf cX10_partOf 6 (some .long) 2 := ⟨gw4 (List.mem_of_getElem? (i := 167) (by decide +kernel)) rfl, gw1 (List.mem_of_getElem? (i := 10) (by decide +kernel)) rfl, by decide +kernel⟩
theorem inX10_partOf : Cond.instanceMethod yX10_partOf ∈ GW := gw4 (List.mem_of_getElem? (i := 166) (by decide +kernel)) rfl
theorem csX10_partOf : ∃ T N, vwCl[10]? = some (yX10_partOf.cls, T, N) ∧ Cond.selects yX10_partOf.cls yX10_partOf yX10_partOf ∈ GW := ⟨_, _, rfl, gw0 (List.mem_of_getElem? (i := 22) (by decide +kernel)) rfl⟩
theorem mwX10_part : MW yX10_part cX10_part 3 (some .long) 2 := ⟨gw4 (List.mem_of_getElem? (i := 162) (by decide +kernel)) rfl, gw1 (List.mem_of_getElem? (i := 10) (by decide +kernel)) rfl, by decide +kernel⟩
theorem inX10_part : Cond.instanceMethod yX10_part ∈ GW := gw4 (List.mem_of_getElem? (i := 160) (by decide +kernel)) rfl
theorem csX10_part : ∃ T N, vwCl[10]? = some (yX10_part.cls, T, N) ∧ Cond.selects yX10_part.cls yX10_part yX10_part ∈ GW := ⟨_, _, rfl, gw4 (List.mem_of_getElem? (i := 161) (by decide +kernel)) rfl⟩
theorem mwX8_appendFour : MW yX8_appendFour cX8_appendFour 3 none 1 := ⟨gw2 (List.mem_of_getElem? (i := 145) (by decide +kernel)) rfl, gw1 (List.mem_of_getElem? (i := 5) (by decide +kernel)) rfl, by decide +kernel⟩
theorem inX8_appendFour : Cond.instanceMethod yX8_appendFour ∈ GW := gw2 (List.mem_of_getElem? (i := 143) (by decide +kernel)) rfl
theorem csX8_appendFour : ∃ T N, vwCl[8]? = some (yX8_appendFour.cls, T, N) ∧ Cond.selects yX8_appendFour.cls yX8_appendFour yX8_appendFour ∈ GW := ⟨_, _, rfl, gw2 (List.mem_of_getElem? (i := 144) (by decide +kernel)) rfl⟩
theorem mwX9_feed : MW yX9_feed cX9_feed 6 (some .int) 5 := ⟨gw2 (List.mem_of_getElem? (i := 141) (by decide +kernel)) rfl, gw1 (List.mem_of_getElem? (i := 1) (by decide +kernel)) rfl, by decide +kernel⟩
theorem inX9_feed : Cond.instanceMethod yX9_feed ∈ GW := gw2 (List.mem_of_getElem? (i := 139) (by decide +kernel)) rfl
theorem csX9_feed : ∃ T N, vwCl[9]? = some (yX9_feed.cls, T, N) ∧ Cond.selects yX9_feed.cls yX9_feed yX9_feed ∈ GW := ⟨_, _, rfl, gw2 (List.mem_of_getElem? (i := 140) (by decide +kernel)) rfl⟩
theorem mwX10_four : MW yX10_four cX10_four 3 none 1 := ⟨gw4 (List.mem_of_getElem? (i := 176) (by decide +kernel)) rfl, gw1 (List.mem_of_getElem? (i := 10) (by decide +kernel)) rfl, by decide +kernel⟩
theorem inX10_four : Cond.instanceMethod yX10_four ∈ GW := gw4 (List.mem_of_getElem? (i := 175) (by decide +kernel)) rfl
theorem csX10_four : ∃ T N, vwCl[10]? = some (yX10_four.cls, T, N) ∧ Cond.selects yX10_four.cls yX10_four yX10_four ∈ GW := ⟨_, _, rfl, gw0 (List.mem_of_getElem? (i := 23) (by decide +kernel)) rfl⟩
theorem mwX10_feed : MW yX10_feed cX10_feed 6 (some .int) 5 := ⟨gw4 (List.mem_of_getElem? (i := 172) (by decide +kernel)) rfl, gw1 (List.mem_of_getElem? (i := 10) (by decide +kernel)) rfl, by decide +kernel⟩
theorem inX10_feed : Cond.instanceMethod yX10_feed ∈ GW := gw4 (List.mem_of_getElem? (i := 170) (by decide +kernel)) rfl
theorem csX10_feed : ∃ T N, vwCl[10]? = some (yX10_feed.cls, T, N) ∧ Cond.selects yX10_feed.cls yX10_feed yX10_feed ∈ GW := ⟨_, _, rfl, gw4 (List.mem_of_getElem? (i := 171) (by decide +kernel)) rfl⟩
theorem mwX9_end : MW yX9_end cX9_end 2 (some .int) 1 := ⟨gw2 (List.mem_of_getElem? (i := 149) (by decide +kernel)) rfl, gw1 (List.mem_of_getElem? (i := 1) (by decide +kernel)) rfl, by decide +kernel⟩
theorem inX9_end : Cond.instanceMethod yX9_end ∈ GW := gw2 (List.mem_of_getElem? (i := 147) (by decide +kernel)) rfl
theorem csX9_end : ∃ T N, vwCl[9]? = some (yX9_end.cls, T, N) ∧ Cond.selects yX9_end.cls yX9_end yX9_end ∈ GW := ⟨_, _, rfl, gw2 (List.mem_of_getElem? (i := 148) (by decide +kernel)) rfl⟩
theorem mwX10_end : MW yX10_end cX10_end 2 (some .int) 1 := ⟨gw4 (List.mem_of_getElem? (i := 180) (by decide +kernel)) rfl, gw1 (List.mem_of_getElem? (i := 10) (by decide +kernel)) rfl, by decide +kernel⟩
theorem inX10_end : Cond.instanceMethod yX10_end ∈ GW := gw4 (List.mem_of_getElem? (i := 178) (by decide +kernel)) rfl
theorem csX10_end : ∃ T N, vwCl[10]? = some (yX10_end.cls, T, N) ∧ Cond.selects yX10_end.cls yX10_end yX10_end ∈ GW := ⟨_, _, rfl, gw4 (List.mem_of_getElem? (i := 179) (by decide +kernel)) rfl⟩
theorem mwX4_empty : MW yX4_empty cX4_empty 1 none 0 := ⟨gw2 (List.mem_of_getElem? (i := 161) (by decide +kernel)) rfl, gw1 (List.mem_of_getElem? (i := 9) (by decide +kernel)) rfl, by decide +kernel⟩
theorem inX4_empty : Cond.instanceMethod yX4_empty ∈ GW := gw2 (List.mem_of_getElem? (i := 159) (by decide +kernel)) rfl
theorem csX4_empty : ∃ T N, vwCl[4]? = some (yX4_empty.cls, T, N) ∧ Cond.selects yX4_empty.cls yX4_empty yX4_empty ∈ GW := ⟨_, _, rfl, gw2 (List.mem_of_getElem? (i := 160) (by decide +kernel)) rfl⟩
theorem mwX8_kindOf : MW yX8_kindOf cX8_kindOf 1 (some .int) 1 := ⟨gw2 (List.mem_of_getElem? (i := 172) (by decide +kernel)) rfl, gw1 (List.mem_of_getElem? (i := 5) (by decide +kernel)) rfl, by decide +kernel⟩
theorem stX8_kindOf : Cond.static yX8_kindOf ∈ GW := gw2 (List.mem_of_getElem? (i := 171) (by decide +kernel)) rfl
theorem mwX8_toNextToken : MW yX8_toNextToken cX8_toNextToken 1 none 0 := ⟨gw2 (List.mem_of_getElem? (i := 169) (by decide +kernel)) rfl, gw1 (List.mem_of_getElem? (i := 5) (by decide +kernel)) rfl, by decide +kernel⟩
theorem inX8_toNextToken : Cond.instanceMethod yX8_toNextToken ∈ GW := gw2 (List.mem_of_getElem? (i := 167) (by decide +kernel)) rfl
theorem csX8_toNextToken : ∃ T N, vwCl[8]? = some (yX8_toNextToken.cls, T, N) ∧ Cond.selects yX8_toNextToken.cls yX8_toNextToken yX8_toNextToken ∈ GW := ⟨_, _, rfl, gw2 (List.mem_of_getElem? (i := 168) (by decide +kernel)) rfl⟩
theorem mwX8_toFirstToken : MW yX8_toFirstToken cX8_toFirstToken 1 none 0 := ⟨gw2 (List.mem_of_getElem? (i := 165) (by decide +kernel)) rfl, gw1 (List.mem_of_getElem? (i := 5) (by decide +kernel)) rfl, by decide +kernel⟩
theorem inX8_toFirstToken : Cond.instanceMethod yX8_toFirstToken ∈ GW := gw2 (List.mem_of_getElem? (i := 163) (by decide +kernel)) rfl
theorem csX8_toFirstToken : ∃ T N, vwCl[8]? = some (yX8_toFirstToken.cls, T, N) ∧ Cond.selects yX8_toFirstToken.cls yX8_toFirstToken yX8_toFirstToken ∈ GW := ⟨_, _, rfl, gw2 (List.mem_of_getElem? (i := 164) (by decide +kernel)) rfl⟩
theorem mwX8_isSameAs : MW yX8_isSameAs cX8_isSameAs 4 (some .boolean) 2 := ⟨gw2 (List.mem_of_getElem? (i := 185) (by decide +kernel)) rfl, gw1 (List.mem_of_getElem? (i := 5) (by decide +kernel)) rfl, by decide +kernel⟩
theorem inX8_isSameAs : Cond.instanceMethod yX8_isSameAs ∈ GW := gw2 (List.mem_of_getElem? (i := 183) (by decide +kernel)) rfl
theorem csX8_isSameAs : ∃ T N, vwCl[8]? = some (yX8_isSameAs.cls, T, N) ∧ Cond.selects yX8_isSameAs.cls yX8_isSameAs yX8_isSameAs ∈ GW := ⟨_, _, rfl, gw2 (List.mem_of_getElem? (i := 184) (by decide +kernel)) rfl⟩
theorem mwX1_takeName : MW yX1_takeName cX1_takeName 3 (some .boolean) 1 := ⟨gw2 (List.mem_of_getElem? (i := 181) (by decide +kernel)) rfl, gw1 (List.mem_of_getElem? (i := 4) (by decide +kernel)) rfl, by decide +kernel⟩
theorem inX1_takeName : Cond.instanceMethod yX1_takeName ∈ GW := gw2 (List.mem_of_getElem? (i := 180) (by decide +kernel)) rfl
theorem csX1_takeName : ∃ T N, vwCl[1]? = some (yX1_takeName.cls, T, N) ∧ Cond.selects yX1_takeName.cls yX1_takeName yX1_takeName ∈ GW := ⟨_, _, rfl, gw0 (List.mem_of_getElem? (i := 6) (by decide +kernel)) rfl⟩
theorem mwX8_isMark : MW yX8_isMark cX8_isMark 2 (some .boolean) 1 := ⟨gw2 (List.mem_of_getElem? (i := 194) (by decide +kernel)) rfl, gw1 (List.mem_of_getElem? (i := 5) (by decide +kernel)) rfl, by decide +kernel⟩
theorem inX8_isMark : Cond.instanceMethod yX8_isMark ∈ GW := gw2 (List.mem_of_getElem? (i := 192) (by decide +kernel)) rfl
theorem csX8_isMark : ∃ T N, vwCl[8]? = some (yX8_isMark.cls, T, N) ∧ Cond.selects yX8_isMark.cls yX8_isMark yX8_isMark ∈ GW := ⟨_, _, rfl, gw2 (List.mem_of_getElem? (i := 193) (by decide +kernel)) rfl⟩
theorem mwX1_takeMark : MW yX1_takeMark cX1_takeMark 2 (some .boolean) 1 := ⟨gw2 (List.mem_of_getElem? (i := 190) (by decide +kernel)) rfl, gw1 (List.mem_of_getElem? (i := 4) (by decide +kernel)) rfl, by decide +kernel⟩
theorem inX1_takeMark : Cond.instanceMethod yX1_takeMark ∈ GW := gw2 (List.mem_of_getElem? (i := 189) (by decide +kernel)) rfl
theorem csX1_takeMark : ∃ T N, vwCl[1]? = some (yX1_takeMark.cls, T, N) ∧ Cond.selects yX1_takeMark.cls yX1_takeMark yX1_takeMark ∈ GW := ⟨_, _, rfl, gw0 (List.mem_of_getElem? (i := 7) (by decide +kernel)) rfl⟩
theorem mwJ0_coder_7d493 : MW yJ0_coder_7d493 cJ0_coder_7d493 1 (some .byte) 0 := ⟨gw2 (List.mem_of_getElem? (i := 215) (by decide +kernel)) rfl, gw1 (List.mem_of_getElem? (i := 13) (by decide +kernel)) rfl, by decide +kernel⟩
theorem inJ0_coder_7d493 : Cond.instanceMethod yJ0_coder_7d493 ∈ GW := gw2 (List.mem_of_getElem? (i := 213) (by decide +kernel)) rfl
theorem seJ0_coder_7d493 : Cond.selects "java/lang/String" yJ0_coder_7d493 yJ0_coder_7d493 ∈ GW := gw2 (List.mem_of_getElem? (i := 214) (by decide +kernel)) rfl
theorem mwJ0_length_8abf5 : MW yJ0_length_8abf5 cJ0_length_8abf5 1 (some .int) 0 := ⟨gw2 (List.mem_of_getElem? (i := 211) (by decide +kernel)) rfl, gw1 (List.mem_of_getElem? (i := 13) (by decide +kernel)) rfl, by decide +kernel⟩
theorem inJ0_length_8abf5 : Cond.instanceMethod yJ0_length_8abf5 ∈ GW := gw2 (List.mem_of_getElem? (i := 209) (by decide +kernel)) rfl
theorem seJ0_length_8abf5 : Cond.selects "java/lang/String" yJ0_length_8abf5 yJ0_length_8abf5 ∈ GW := gw2 (List.mem_of_getElem? (i := 210) (by decide +kernel)) rfl
theorem mwJ0_isLatin1_aae02 : MW yJ0_isLatin1_aae02 cJ0_isLatin1_aae02 1 (some .boolean) 0 := ⟨gw2 (List.mem_of_getElem? (i := 225) (by decide +kernel)) rfl, gw1 (List.mem_of_getElem? (i := 13) (by decide +kernel)) rfl, by decide +kernel⟩
theorem inJ0_isLatin1_aae02 : Cond.instanceMethod yJ0_isLatin1_aae02 ∈ GW := gw2 (List.mem_of_getElem? (i := 223) (by decide +kernel)) rfl
theorem seJ0_isLatin1_aae02 : Cond.selects "java/lang/String" yJ0_isLatin1_aae02 yJ0_isLatin1_aae02 ∈ GW := gw2 (List.mem_of_getElem? (i := 224) (by decide +kernel)) rfl
theorem mwJ3_checkIndex_8e157 : MW yJ3_checkIndex_8e157 cJ3_checkIndex_8e157 3 (some .int) 3 := ⟨gw2 (List.mem_of_getElem? (i := 236) (by decide +kernel)) rfl, gw1 (List.mem_of_getElem? (i := 15) (by decide +kernel)) rfl, by decide +kernel⟩
theorem stJ3_checkIndex_8e157 : Cond.static yJ3_checkIndex_8e157 ∈ GW := gw2 (List.mem_of_getElem? (i := 235) (by decide +kernel)) rfl
theorem mwJ0_checkIndex_df160 : MW yJ0_checkIndex_df160 cJ0_checkIndex_df160 2 none 2 := ⟨gw2 (List.mem_of_getElem? (i := 231) (by decide +kernel)) rfl, gw1 (List.mem_of_getElem? (i := 13) (by decide +kernel)) rfl, by decide +kernel⟩
theorem stJ0_checkIndex_df160 : Cond.static yJ0_checkIndex_df160 ∈ GW := gw2 (List.mem_of_getElem? (i := 230) (by decide +kernel)) rfl
theorem mwJ1_charAt_3b067 : MW yJ1_charAt_3b067 cJ1_charAt_3b067 2 (some .char) 2 := ⟨gw2 (List.mem_of_getElem? (i := 228) (by decide +kernel)) rfl, gw1 (List.mem_of_getElem? (i := 14) (by decide +kernel)) rfl, by decide +kernel⟩
theorem stJ1_charAt_3b067 : Cond.static yJ1_charAt_3b067 ∈ GW := gw2 (List.mem_of_getElem? (i := 227) (by decide +kernel)) rfl
theorem mwJ0_charAt_5068e : MW yJ0_charAt_5068e cJ0_charAt_5068e 2 (some .char) 1 := ⟨gw2 (List.mem_of_getElem? (i := 221) (by decide +kernel)) rfl, gw1 (List.mem_of_getElem? (i := 13) (by decide +kernel)) rfl, by decide +kernel⟩
theorem inJ0_charAt_5068e : Cond.instanceMethod yJ0_charAt_5068e ∈ GW := gw2 (List.mem_of_getElem? (i := 219) (by decide +kernel)) rfl
theorem seJ0_charAt_5068e : Cond.selects "java/lang/String" yJ0_charAt_5068e yJ0_charAt_5068e ∈ GW := gw2 (List.mem_of_getElem? (i := 220) (by decide +kernel)) rfl
theorem mwX8_isWord : MW yX8_isWord cX8_isWord 3 (some .boolean) 1 := ⟨gw2 (List.mem_of_getElem? (i := 207) (by decide +kernel)) rfl, gw1 (List.mem_of_getElem? (i := 5) (by decide +kernel)) rfl, by decide +kernel⟩
theorem inX8_isWord : Cond.instanceMethod yX8_isWord ∈ GW := gw2 (List.mem_of_getElem? (i := 205) (by decide +kernel)) rfl
theorem csX8_isWord : ∃ T N, vwCl[8]? = some (yX8_isWord.cls, T, N) ∧ Cond.selects yX8_isWord.cls yX8_isWord yX8_isWord ∈ GW := ⟨_, _, rfl, gw2 (List.mem_of_getElem? (i := 206) (by decide +kernel)) rfl⟩
theorem mwX1_metalTold : MW yX1_metalTold cX1_metalTold 1 (some .int) 0 := ⟨gw2 (List.mem_of_getElem? (i := 202) (by decide +kernel)) rfl, gw1 (List.mem_of_getElem? (i := 4) (by decide +kernel)) rfl, by decide +kernel⟩
theorem inX1_metalTold : Cond.instanceMethod yX1_metalTold ∈ GW := gw2 (List.mem_of_getElem? (i := 201) (by decide +kernel)) rfl
theorem csX1_metalTold : ∃ T N, vwCl[1]? = some (yX1_metalTold.cls, T, N) ∧ Cond.selects yX1_metalTold.cls yX1_metalTold yX1_metalTold ∈ GW := ⟨_, _, rfl, gw0 (List.mem_of_getElem? (i := 9) (by decide +kernel)) rfl⟩
theorem mwX4_hasRoomForTest : MW yX4_hasRoomForTest cX4_hasRoomForTest 1 (some .boolean) 0 := ⟨gw3 (List.mem_of_getElem? (i := 21) (by decide +kernel)) rfl, gw1 (List.mem_of_getElem? (i := 9) (by decide +kernel)) rfl, by decide +kernel⟩
theorem inX4_hasRoomForTest : Cond.instanceMethod yX4_hasRoomForTest ∈ GW := gw3 (List.mem_of_getElem? (i := 19) (by decide +kernel)) rfl
theorem csX4_hasRoomForTest : ∃ T N, vwCl[4]? = some (yX4_hasRoomForTest.cls, T, N) ∧ Cond.selects yX4_hasRoomForTest.cls yX4_hasRoomForTest yX4_hasRoomForTest ∈ GW := ⟨_, _, rfl, gw3 (List.mem_of_getElem? (i := 20) (by decide +kernel)) rfl⟩
theorem mwX8_numberToThousand : MW yX8_numberToThousand cX8_numberToThousand 3 (some .int) 0 := ⟨gw3 (List.mem_of_getElem? (i := 25) (by decide +kernel)) rfl, gw1 (List.mem_of_getElem? (i := 5) (by decide +kernel)) rfl, by decide +kernel⟩
theorem inX8_numberToThousand : Cond.instanceMethod yX8_numberToThousand ∈ GW := gw3 (List.mem_of_getElem? (i := 23) (by decide +kernel)) rfl
theorem csX8_numberToThousand : ∃ T N, vwCl[8]? = some (yX8_numberToThousand.cls, T, N) ∧ Cond.selects yX8_numberToThousand.cls yX8_numberToThousand yX8_numberToThousand ∈ GW := ⟨_, _, rfl, gw3 (List.mem_of_getElem? (i := 24) (by decide +kernel)) rfl⟩
theorem mwX4_addTest : MW yX4_addTest cX4_addTest 4 none 3 := ⟨gw3 (List.mem_of_getElem? (i := 30) (by decide +kernel)) rfl, gw1 (List.mem_of_getElem? (i := 9) (by decide +kernel)) rfl, by decide +kernel⟩
theorem inX4_addTest : Cond.instanceMethod yX4_addTest ∈ GW := gw3 (List.mem_of_getElem? (i := 28) (by decide +kernel)) rfl
theorem csX4_addTest : ∃ T N, vwCl[4]? = some (yX4_addTest.cls, T, N) ∧ Cond.selects yX4_addTest.cls yX4_addTest yX4_addTest ∈ GW := ⟨_, _, rfl, gw3 (List.mem_of_getElem? (i := 29) (by decide +kernel)) rfl⟩
theorem mwX1_readTest : MW yX1_readTest cX1_readTest 5 (some .boolean) 1 := ⟨gw2 (List.mem_of_getElem? (i := 198) (by decide +kernel)) rfl, gw1 (List.mem_of_getElem? (i := 4) (by decide +kernel)) rfl, by decide +kernel⟩
theorem inX1_readTest : Cond.instanceMethod yX1_readTest ∈ GW := gw2 (List.mem_of_getElem? (i := 197) (by decide +kernel)) rfl
theorem csX1_readTest : ∃ T N, vwCl[1]? = some (yX1_readTest.cls, T, N) ∧ Cond.selects yX1_readTest.cls yX1_readTest yX1_readTest ∈ GW := ⟨_, _, rfl, gw0 (List.mem_of_getElem? (i := 8) (by decide +kernel)) rfl⟩
theorem mwX1_readColour : MW yX1_readColour cX1_readColour 3 (some .boolean) 1 := ⟨gw2 (List.mem_of_getElem? (i := 177) (by decide +kernel)) rfl, gw1 (List.mem_of_getElem? (i := 4) (by decide +kernel)) rfl, by decide +kernel⟩
theorem inX1_readColour : Cond.instanceMethod yX1_readColour ∈ GW := gw2 (List.mem_of_getElem? (i := 176) (by decide +kernel)) rfl
theorem csX1_readColour : ∃ T N, vwCl[1]? = some (yX1_readColour.cls, T, N) ∧ Cond.selects yX1_readColour.cls yX1_readColour yX1_readColour ∈ GW := ⟨_, _, rfl, gw0 (List.mem_of_getElem? (i := 5) (by decide +kernel)) rfl⟩
theorem mwX1_readInto : MW yX1_readInto cX1_readInto 3 (some .boolean) 1 := ⟨gw2 (List.mem_of_getElem? (i := 157) (by decide +kernel)) rfl, gw1 (List.mem_of_getElem? (i := 4) (by decide +kernel)) rfl, by decide +kernel⟩
theorem inX1_readInto : Cond.instanceMethod yX1_readInto ∈ GW := gw2 (List.mem_of_getElem? (i := 155) (by decide +kernel)) rfl
theorem csX1_readInto : ∃ T N, vwCl[1]? = some (yX1_readInto.cls, T, N) ∧ Cond.selects yX1_readInto.cls yX1_readInto yX1_readInto ∈ GW := ⟨_, _, rfl, gw2 (List.mem_of_getElem? (i := 156) (by decide +kernel)) rfl⟩
theorem mwX9_colours : MW yX9_colours cX9_colours 3 (some .int) 0 := ⟨gw2 (List.mem_of_getElem? (i := 153) (by decide +kernel)) rfl, gw1 (List.mem_of_getElem? (i := 1) (by decide +kernel)) rfl, by decide +kernel⟩
theorem inX9_colours : Cond.instanceMethod yX9_colours ∈ GW := gw2 (List.mem_of_getElem? (i := 151) (by decide +kernel)) rfl
theorem csX9_colours : ∃ T N, vwCl[9]? = some (yX9_colours.cls, T, N) ∧ Cond.selects yX9_colours.cls yX9_colours yX9_colours ∈ GW := ⟨_, _, rfl, gw2 (List.mem_of_getElem? (i := 152) (by decide +kernel)) rfl⟩
theorem mwX10_isSmall : MW yX10_isSmall cX10_isSmall 1 (some .boolean) 1 := ⟨gw4 (List.mem_of_getElem? (i := 191) (by decide +kernel)) rfl, gw1 (List.mem_of_getElem? (i := 10) (by decide +kernel)) rfl, by decide +kernel⟩
theorem stX10_isSmall : Cond.static yX10_isSmall ∈ GW := gw4 (List.mem_of_getElem? (i := 190) (by decide +kernel)) rfl
theorem mwX10_isDigit : MW yX10_isDigit cX10_isDigit 1 (some .boolean) 1 := ⟨gw4 (List.mem_of_getElem? (i := 194) (by decide +kernel)) rfl, gw1 (List.mem_of_getElem? (i := 10) (by decide +kernel)) rfl, by decide +kernel⟩
theorem stX10_isDigit : Cond.static yX10_isDigit ∈ GW := gw4 (List.mem_of_getElem? (i := 193) (by decide +kernel)) rfl
theorem mwX10_next : MW yX10_next cX10_next 1 none 0 := ⟨gw4 (List.mem_of_getElem? (i := 188) (by decide +kernel)) rfl, gw1 (List.mem_of_getElem? (i := 10) (by decide +kernel)) rfl, by decide +kernel⟩
theorem inX10_next : Cond.instanceMethod yX10_next ∈ GW := gw4 (List.mem_of_getElem? (i := 187) (by decide +kernel)) rfl
theorem csX10_next : ∃ T N, vwCl[10]? = some (yX10_next.cls, T, N) ∧ Cond.selects yX10_next.cls yX10_next yX10_next ∈ GW := ⟨_, _, rfl, gw0 (List.mem_of_getElem? (i := 24) (by decide +kernel)) rfl⟩
theorem mwX10_isNamed : MW yX10_isNamed cX10_isNamed 5 (some .boolean) 0 := ⟨gw4 (List.mem_of_getElem? (i := 206) (by decide +kernel)) rfl, gw1 (List.mem_of_getElem? (i := 10) (by decide +kernel)) rfl, by decide +kernel⟩
theorem inX10_isNamed : Cond.instanceMethod yX10_isNamed ∈ GW := gw4 (List.mem_of_getElem? (i := 205) (by decide +kernel)) rfl
theorem csX10_isNamed : ∃ T N, vwCl[10]? = some (yX10_isNamed.cls, T, N) ∧ Cond.selects yX10_isNamed.cls yX10_isNamed yX10_isNamed ∈ GW := ⟨_, _, rfl, gw0 (List.mem_of_getElem? (i := 26) (by decide +kernel)) rfl⟩
theorem mwX10_must : MW yX10_must cX10_must 2 none 1 := ⟨gw4 (List.mem_of_getElem? (i := 210) (by decide +kernel)) rfl, gw1 (List.mem_of_getElem? (i := 10) (by decide +kernel)) rfl, by decide +kernel⟩
theorem inX10_must : Cond.instanceMethod yX10_must ∈ GW := gw4 (List.mem_of_getElem? (i := 209) (by decide +kernel)) rfl
theorem csX10_must : ∃ T N, vwCl[10]? = some (yX10_must.cls, T, N) ∧ Cond.selects yX10_must.cls yX10_must yX10_must ∈ GW := ⟨_, _, rfl, gw0 (List.mem_of_getElem? (i := 27) (by decide +kernel)) rfl⟩
theorem mwX10_isSign : MW yX10_isSign cX10_isSign 2 (some .boolean) 1 := ⟨gw4 (List.mem_of_getElem? (i := 214) (by decide +kernel)) rfl, gw1 (List.mem_of_getElem? (i := 10) (by decide +kernel)) rfl, by decide +kernel⟩
theorem inX10_isSign : Cond.instanceMethod yX10_isSign ∈ GW := gw4 (List.mem_of_getElem? (i := 213) (by decide +kernel)) rfl
theorem csX10_isSign : ∃ T N, vwCl[10]? = some (yX10_isSign.cls, T, N) ∧ Cond.selects yX10_isSign.cls yX10_isSign yX10_isSign ∈ GW := ⟨_, _, rfl, gw0 (List.mem_of_getElem? (i := 28) (by decide +kernel)) rfl⟩
theorem mwX10_isWord : MW yX10_isWord cX10_isWord 9 (some .boolean) 6 := ⟨gw4 (List.mem_of_getElem? (i := 222) (by decide +kernel)) rfl, gw1 (List.mem_of_getElem? (i := 10) (by decide +kernel)) rfl, by decide +kernel⟩
theorem inX10_isWord : Cond.instanceMethod yX10_isWord ∈ GW := gw4 (List.mem_of_getElem? (i := 221) (by decide +kernel)) rfl
theorem csX10_isWord : ∃ T N, vwCl[10]? = some (yX10_isWord.cls, T, N) ∧ Cond.selects yX10_isWord.cls yX10_isWord yX10_isWord ∈ GW := ⟨_, _, rfl, gw0 (List.mem_of_getElem? (i := 30) (by decide +kernel)) rfl⟩
theorem mwX10_number : MW yX10_number cX10_number 4 (some .int) 1 := ⟨gw4 (List.mem_of_getElem? (i := 226) (by decide +kernel)) rfl, gw1 (List.mem_of_getElem? (i := 10) (by decide +kernel)) rfl, by decide +kernel⟩
theorem inX10_number : Cond.instanceMethod yX10_number ∈ GW := gw4 (List.mem_of_getElem? (i := 225) (by decide +kernel)) rfl
theorem csX10_number : ∃ T N, vwCl[10]? = some (yX10_number.cls, T, N) ∧ Cond.selects yX10_number.cls yX10_number yX10_number ∈ GW := ⟨_, _, rfl, gw0 (List.mem_of_getElem? (i := 31) (by decide +kernel)) rfl⟩
theorem mwX10_readTest : MW yX10_readTest cX10_readTest 4 none 0 := ⟨gw4 (List.mem_of_getElem? (i := 218) (by decide +kernel)) rfl, gw1 (List.mem_of_getElem? (i := 10) (by decide +kernel)) rfl, by decide +kernel⟩
theorem inX10_readTest : Cond.instanceMethod yX10_readTest ∈ GW := gw4 (List.mem_of_getElem? (i := 217) (by decide +kernel)) rfl
theorem csX10_readTest : ∃ T N, vwCl[10]? = some (yX10_readTest.cls, T, N) ∧ Cond.selects yX10_readTest.cls yX10_readTest yX10_readTest ∈ GW := ⟨_, _, rfl, gw0 (List.mem_of_getElem? (i := 29) (by decide +kernel)) rfl⟩
theorem mwX10_readColour : MW yX10_readColour cX10_readColour 3 none 0 := ⟨gw4 (List.mem_of_getElem? (i := 202) (by decide +kernel)) rfl, gw1 (List.mem_of_getElem? (i := 10) (by decide +kernel)) rfl, by decide +kernel⟩
theorem inX10_readColour : Cond.instanceMethod yX10_readColour ∈ GW := gw4 (List.mem_of_getElem? (i := 201) (by decide +kernel)) rfl
theorem csX10_readColour : ∃ T N, vwCl[10]? = some (yX10_readColour.cls, T, N) ∧ Cond.selects yX10_readColour.cls yX10_readColour yX10_readColour ∈ GW := ⟨_, _, rfl, gw0 (List.mem_of_getElem? (i := 25) (by decide +kernel)) rfl⟩
theorem mwX10_colours : MW yX10_colours cX10_colours 2 (some .int) 0 := ⟨gw4 (List.mem_of_getElem? (i := 184) (by decide +kernel)) rfl, gw1 (List.mem_of_getElem? (i := 10) (by decide +kernel)) rfl, by decide +kernel⟩
theorem inX10_colours : Cond.instanceMethod yX10_colours ∈ GW := gw4 (List.mem_of_getElem? (i := 182) (by decide +kernel)) rfl
theorem csX10_colours : ∃ T N, vwCl[10]? = some (yX10_colours.cls, T, N) ∧ Cond.selects yX10_colours.cls yX10_colours yX10_colours ∈ GW := ⟨_, _, rfl, gw4 (List.mem_of_getElem? (i := 183) (by decide +kernel)) rfl⟩
theorem mwX9_fault : MW yX9_fault cX9_fault 1 (some .int) 0 := ⟨gw3 (List.mem_of_getElem? (i := 35) (by decide +kernel)) rfl, gw1 (List.mem_of_getElem? (i := 1) (by decide +kernel)) rfl, by decide +kernel⟩
theorem inX9_fault : Cond.instanceMethod yX9_fault ∈ GW := gw3 (List.mem_of_getElem? (i := 33) (by decide +kernel)) rfl
theorem csX9_fault : ∃ T N, vwCl[9]? = some (yX9_fault.cls, T, N) ∧ Cond.selects yX9_fault.cls yX9_fault yX9_fault ∈ GW := ⟨_, _, rfl, gw3 (List.mem_of_getElem? (i := 34) (by decide +kernel)) rfl⟩
theorem mwX10_fault : MW yX10_fault cX10_fault 1 (some .int) 0 := ⟨gw4 (List.mem_of_getElem? (i := 230) (by decide +kernel)) rfl, gw1 (List.mem_of_getElem? (i := 10) (by decide +kernel)) rfl, by decide +kernel⟩
theorem inX10_fault : Cond.instanceMethod yX10_fault ∈ GW := gw4 (List.mem_of_getElem? (i := 228) (by decide +kernel)) rfl
theorem csX10_fault : ∃ T N, vwCl[10]? = some (yX10_fault.cls, T, N) ∧ Cond.selects yX10_fault.cls yX10_fault yX10_fault ∈ GW := ⟨_, _, rfl, gw4 (List.mem_of_getElem? (i := 229) (by decide +kernel)) rfl⟩
theorem mwX4_holds : MW yX4_holds cX4_holds 6 (some .boolean) 3 := ⟨gw3 (List.mem_of_getElem? (i := 51) (by decide +kernel)) rfl, gw1 (List.mem_of_getElem? (i := 9) (by decide +kernel)) rfl, by decide +kernel⟩
theorem inX4_holds : Cond.instanceMethod yX4_holds ∈ GW := gw3 (List.mem_of_getElem? (i := 50) (by decide +kernel)) rfl
theorem csX4_holds : ∃ T N, vwCl[4]? = some (yX4_holds.cls, T, N) ∧ Cond.selects yX4_holds.cls yX4_holds yX4_holds ∈ GW := ⟨_, _, rfl, gw0 (List.mem_of_getElem? (i := 11) (by decide +kernel)) rfl⟩
theorem mwX4_allHold : MW yX4_allHold cX4_allHold 5 (some .boolean) 3 := ⟨gw3 (List.mem_of_getElem? (i := 47) (by decide +kernel)) rfl, gw1 (List.mem_of_getElem? (i := 9) (by decide +kernel)) rfl, by decide +kernel⟩
theorem inX4_allHold : Cond.instanceMethod yX4_allHold ∈ GW := gw3 (List.mem_of_getElem? (i := 46) (by decide +kernel)) rfl
theorem csX4_allHold : ∃ T N, vwCl[4]? = some (yX4_allHold.cls, T, N) ∧ Cond.selects yX4_allHold.cls yX4_allHold yX4_allHold ∈ GW := ⟨_, _, rfl, gw0 (List.mem_of_getElem? (i := 10) (by decide +kernel)) rfl⟩
theorem mwX4_firstThatSuits : MW yX4_firstThatSuits cX4_firstThatSuits 4 (some .int) 2 := ⟨gw3 (List.mem_of_getElem? (i := 43) (by decide +kernel)) rfl, gw1 (List.mem_of_getElem? (i := 9) (by decide +kernel)) rfl, by decide +kernel⟩
theorem inX4_firstThatSuits : Cond.instanceMethod yX4_firstThatSuits ∈ GW := gw3 (List.mem_of_getElem? (i := 41) (by decide +kernel)) rfl
theorem csX4_firstThatSuits : ∃ T N, vwCl[4]? = some (yX4_firstThatSuits.cls, T, N) ∧ Cond.selects yX4_firstThatSuits.cls yX4_firstThatSuits yX4_firstThatSuits ∈ GW := ⟨_, _, rfl, gw3 (List.mem_of_getElem? (i := 42) (by decide +kernel)) rfl⟩
theorem mwX9_colour : MW yX9_colour cX9_colour 3 (some .int) 1 := ⟨gw3 (List.mem_of_getElem? (i := 39) (by decide +kernel)) rfl, gw1 (List.mem_of_getElem? (i := 1) (by decide +kernel)) rfl, by decide +kernel⟩
theorem inX9_colour : Cond.instanceMethod yX9_colour ∈ GW := gw3 (List.mem_of_getElem? (i := 37) (by decide +kernel)) rfl
theorem csX9_colour : ∃ T N, vwCl[9]? = some (yX9_colour.cls, T, N) ∧ Cond.selects yX9_colour.cls yX9_colour yX9_colour ∈ GW := ⟨_, _, rfl, gw3 (List.mem_of_getElem? (i := 38) (by decide +kernel)) rfl⟩
theorem mwX10_colour : MW yX10_colour cX10_colour 9 (some .int) 1 := ⟨gw4 (List.mem_of_getElem? (i := 234) (by decide +kernel)) rfl, gw1 (List.mem_of_getElem? (i := 10) (by decide +kernel)) rfl, by decide +kernel⟩
theorem inX10_colour : Cond.instanceMethod yX10_colour ∈ GW := gw4 (List.mem_of_getElem? (i := 232) (by decide +kernel)) rfl
theorem csX10_colour : ∃ T N, vwCl[10]? = some (yX10_colour.cls, T, N) ∧ Cond.selects yX10_colour.cls yX10_colour yX10_colour ∈ GW := ⟨_, _, rfl, gw4 (List.mem_of_getElem? (i := 233) (by decide +kernel)) rfl⟩
theorem mwX6_addSkin : MW yX6_addSkin cX6_addSkin 2 (some .int) 1 := ⟨gw3 (List.mem_of_getElem? (i := 60) (by decide +kernel)) rfl, gw1 (List.mem_of_getElem? (i := 6) (by decide +kernel)) rfl, by decide +kernel⟩
theorem inX6_addSkin : Cond.instanceMethod yX6_addSkin ∈ GW := gw3 (List.mem_of_getElem? (i := 58) (by decide +kernel)) rfl
theorem csX6_addSkin : ∃ T N, vwCl[6]? = some (yX6_addSkin.cls, T, N) ∧ Cond.selects yX6_addSkin.cls yX6_addSkin yX6_addSkin ∈ GW := ⟨_, _, rfl, gw3 (List.mem_of_getElem? (i := 59) (by decide +kernel)) rfl⟩
theorem mwX9_skin : MW yX9_skin cX9_skin 2 (some .int) 1 := ⟨gw3 (List.mem_of_getElem? (i := 56) (by decide +kernel)) rfl, gw1 (List.mem_of_getElem? (i := 1) (by decide +kernel)) rfl, by decide +kernel⟩
theorem inX9_skin : Cond.instanceMethod yX9_skin ∈ GW := gw3 (List.mem_of_getElem? (i := 54) (by decide +kernel)) rfl
theorem csX9_skin : ∃ T N, vwCl[9]? = some (yX9_skin.cls, T, N) ∧ Cond.selects yX9_skin.cls yX9_skin yX9_skin ∈ GW := ⟨_, _, rfl, gw3 (List.mem_of_getElem? (i := 55) (by decide +kernel)) rfl⟩
theorem mwX10_skin : MW yX10_skin cX10_skin 2 (some .int) 1 := ⟨gw4 (List.mem_of_getElem? (i := 238) (by decide +kernel)) rfl, gw1 (List.mem_of_getElem? (i := 10) (by decide +kernel)) rfl, by decide +kernel⟩
theorem inX10_skin : Cond.instanceMethod yX10_skin ∈ GW := gw4 (List.mem_of_getElem? (i := 236) (by decide +kernel)) rfl
theorem csX10_skin : ∃ T N, vwCl[10]? = some (yX10_skin.cls, T, N) ∧ Cond.selects yX10_skin.cls yX10_skin yX10_skin ∈ GW := ⟨_, _, rfl, gw4 (List.mem_of_getElem? (i := 237) (by decide +kernel)) rfl⟩
theorem mwX6_has : MW yX6_has cX6_has 2 (some .boolean) 1 := ⟨gw3 (List.mem_of_getElem? (i := 73) (by decide +kernel)) rfl, gw1 (List.mem_of_getElem? (i := 6) (by decide +kernel)) rfl, by decide +kernel⟩
theorem inX6_has : Cond.instanceMethod yX6_has ∈ GW := gw3 (List.mem_of_getElem? (i := 71) (by decide +kernel)) rfl
theorem csX6_has : ∃ T N, vwCl[6]? = some (yX6_has.cls, T, N) ∧ Cond.selects yX6_has.cls yX6_has yX6_has ∈ GW := ⟨_, _, rfl, gw3 (List.mem_of_getElem? (i := 72) (by decide +kernel)) rfl⟩
theorem mwX6_changeDryness : MW yX6_changeDryness cX6_changeDryness 4 (some .int) 2 := ⟨gw3 (List.mem_of_getElem? (i := 69) (by decide +kernel)) rfl, gw1 (List.mem_of_getElem? (i := 6) (by decide +kernel)) rfl, by decide +kernel⟩
theorem inX6_changeDryness : Cond.instanceMethod yX6_changeDryness ∈ GW := gw3 (List.mem_of_getElem? (i := 67) (by decide +kernel)) rfl
theorem csX6_changeDryness : ∃ T N, vwCl[6]? = some (yX6_changeDryness.cls, T, N) ∧ Cond.selects yX6_changeDryness.cls yX6_changeDryness yX6_changeDryness ∈ GW := ⟨_, _, rfl, gw3 (List.mem_of_getElem? (i := 68) (by decide +kernel)) rfl⟩
theorem mwX9_dry : MW yX9_dry cX9_dry 3 (some .int) 2 := ⟨gw3 (List.mem_of_getElem? (i := 65) (by decide +kernel)) rfl, gw1 (List.mem_of_getElem? (i := 1) (by decide +kernel)) rfl, by decide +kernel⟩
theorem inX9_dry : Cond.instanceMethod yX9_dry ∈ GW := gw3 (List.mem_of_getElem? (i := 63) (by decide +kernel)) rfl
theorem csX9_dry : ∃ T N, vwCl[9]? = some (yX9_dry.cls, T, N) ∧ Cond.selects yX9_dry.cls yX9_dry yX9_dry ∈ GW := ⟨_, _, rfl, gw3 (List.mem_of_getElem? (i := 64) (by decide +kernel)) rfl⟩
theorem mwX10_isSkin : MW yX10_isSkin cX10_isSkin 2 (some .boolean) 1 := ⟨gw5 (List.mem_of_getElem? (i := 7) (by decide +kernel)) rfl, gw1 (List.mem_of_getElem? (i := 10) (by decide +kernel)) rfl, by decide +kernel⟩
theorem inX10_isSkin : Cond.instanceMethod yX10_isSkin ∈ GW := gw5 (List.mem_of_getElem? (i := 6) (by decide +kernel)) rfl
theorem csX10_isSkin : ∃ T N, vwCl[10]? = some (yX10_isSkin.cls, T, N) ∧ Cond.selects yX10_isSkin.cls yX10_isSkin yX10_isSkin ∈ GW := ⟨_, _, rfl, gw0 (List.mem_of_getElem? (i := 32) (by decide +kernel)) rfl⟩
theorem mwX10_dry : MW yX10_dry cX10_dry 4 (some .int) 2 := ⟨gw5 (List.mem_of_getElem? (i := 3) (by decide +kernel)) rfl, gw1 (List.mem_of_getElem? (i := 10) (by decide +kernel)) rfl, by decide +kernel⟩
theorem inX10_dry : Cond.instanceMethod yX10_dry ∈ GW := gw5 (List.mem_of_getElem? (i := 1) (by decide +kernel)) rfl
theorem csX10_dry : ∃ T N, vwCl[10]? = some (yX10_dry.cls, T, N) ∧ Cond.selects yX10_dry.cls yX10_dry yX10_dry ∈ GW := ⟨_, _, rfl, gw5 (List.mem_of_getElem? (i := 2) (by decide +kernel)) rfl⟩
theorem mwX9_age : MW yX9_age cX9_age 2 (some .int) 1 := ⟨gw3 (List.mem_of_getElem? (i := 77) (by decide +kernel)) rfl, gw1 (List.mem_of_getElem? (i := 1) (by decide +kernel)) rfl, by decide +kernel⟩
theorem inX9_age : Cond.instanceMethod yX9_age ∈ GW := gw3 (List.mem_of_getElem? (i := 75) (by decide +kernel)) rfl
theorem csX9_age : ∃ T N, vwCl[9]? = some (yX9_age.cls, T, N) ∧ Cond.selects yX9_age.cls yX9_age yX9_age ∈ GW := ⟨_, _, rfl, gw3 (List.mem_of_getElem? (i := 76) (by decide +kernel)) rfl⟩
theorem mwX10_age : MW yX10_age cX10_age 2 (some .int) 1 := ⟨gw5 (List.mem_of_getElem? (i := 11) (by decide +kernel)) rfl, gw1 (List.mem_of_getElem? (i := 10) (by decide +kernel)) rfl, by decide +kernel⟩
theorem inX10_age : Cond.instanceMethod yX10_age ∈ GW := gw5 (List.mem_of_getElem? (i := 9) (by decide +kernel)) rfl
theorem csX10_age : ∃ T N, vwCl[10]? = some (yX10_age.cls, T, N) ∧ Cond.selects yX10_age.cls yX10_age yX10_age ∈ GW := ⟨_, _, rfl, gw5 (List.mem_of_getElem? (i := 10) (by decide +kernel)) rfl⟩
theorem mwX6_needOf : MW yX6_needOf cX6_needOf 2 (some (.object "GoldLeaves$PackNeed")) 1 := ⟨gw3 (List.mem_of_getElem? (i := 86) (by decide +kernel)) rfl, gw1 (List.mem_of_getElem? (i := 6) (by decide +kernel)) rfl, by decide +kernel⟩
theorem inX6_needOf : Cond.instanceMethod yX6_needOf ∈ GW := gw3 (List.mem_of_getElem? (i := 84) (by decide +kernel)) rfl
theorem csX6_needOf : ∃ T N, vwCl[6]? = some (yX6_needOf.cls, T, N) ∧ Cond.selects yX6_needOf.cls yX6_needOf yX6_needOf ∈ GW := ⟨_, _, rfl, gw3 (List.mem_of_getElem? (i := 85) (by decide +kernel)) rfl⟩
theorem mwX9_isSpan : MW yX9_isSpan cX9_isSpan 3 (some .boolean) 3 := ⟨gw3 (List.mem_of_getElem? (i := 89) (by decide +kernel)) rfl, gw1 (List.mem_of_getElem? (i := 1) (by decide +kernel)) rfl, by decide +kernel⟩
theorem stX9_isSpan : Cond.static yX9_isSpan ∈ GW := gw3 (List.mem_of_getElem? (i := 88) (by decide +kernel)) rfl
theorem mwX9_pack : MW yX9_pack cX9_pack 8 (some .int) 6 := ⟨gw3 (List.mem_of_getElem? (i := 82) (by decide +kernel)) rfl, gw1 (List.mem_of_getElem? (i := 1) (by decide +kernel)) rfl, by decide +kernel⟩
theorem inX9_pack : Cond.instanceMethod yX9_pack ∈ GW := gw3 (List.mem_of_getElem? (i := 80) (by decide +kernel)) rfl
theorem csX9_pack : ∃ T N, vwCl[9]? = some (yX9_pack.cls, T, N) ∧ Cond.selects yX9_pack.cls yX9_pack yX9_pack ∈ GW := ⟨_, _, rfl, gw3 (List.mem_of_getElem? (i := 81) (by decide +kernel)) rfl⟩
theorem mwX10_pack : MW yX10_pack cX10_pack 7 (some .int) 6 := ⟨gw5 (List.mem_of_getElem? (i := 15) (by decide +kernel)) rfl, gw1 (List.mem_of_getElem? (i := 10) (by decide +kernel)) rfl, by decide +kernel⟩
theorem inX10_pack : Cond.instanceMethod yX10_pack ∈ GW := gw5 (List.mem_of_getElem? (i := 13) (by decide +kernel)) rfl
theorem csX10_pack : ∃ T N, vwCl[10]? = some (yX10_pack.cls, T, N) ∧ Cond.selects yX10_pack.cls yX10_pack yX10_pack ∈ GW := ⟨_, _, rfl, gw5 (List.mem_of_getElem? (i := 14) (by decide +kernel)) rfl⟩
theorem mwX6_suits : MW yX6_suits cX6_suits 3 (some .boolean) 2 := ⟨gw3 (List.mem_of_getElem? (i := 110) (by decide +kernel)) rfl, gw1 (List.mem_of_getElem? (i := 6) (by decide +kernel)) rfl, by decide +kernel⟩
theorem inX6_suits : Cond.instanceMethod yX6_suits ∈ GW := gw3 (List.mem_of_getElem? (i := 109) (by decide +kernel)) rfl
theorem csX6_suits : ∃ T N, vwCl[6]? = some (yX6_suits.cls, T, N) ∧ Cond.selects yX6_suits.cls yX6_suits yX6_suits ∈ GW := ⟨_, _, rfl, gw0 (List.mem_of_getElem? (i := 14) (by decide +kernel)) rfl⟩
theorem mwX6_oldestFor : MW yX6_oldestFor cX6_oldestFor 4 (some .int) 1 := ⟨gw3 (List.mem_of_getElem? (i := 106) (by decide +kernel)) rfl, gw1 (List.mem_of_getElem? (i := 6) (by decide +kernel)) rfl, by decide +kernel⟩
theorem inX6_oldestFor : Cond.instanceMethod yX6_oldestFor ∈ GW := gw3 (List.mem_of_getElem? (i := 105) (by decide +kernel)) rfl
theorem csX6_oldestFor : ∃ T N, vwCl[6]? = some (yX6_oldestFor.cls, T, N) ∧ Cond.selects yX6_oldestFor.cls yX6_oldestFor yX6_oldestFor ∈ GW := ⟨_, _, rfl, gw0 (List.mem_of_getElem? (i := 13) (by decide +kernel)) rfl⟩
theorem mwX6_chooseFor : MW yX6_chooseFor cX6_chooseFor 4 (some .boolean) 1 := ⟨gw3 (List.mem_of_getElem? (i := 102) (by decide +kernel)) rfl, gw1 (List.mem_of_getElem? (i := 6) (by decide +kernel)) rfl, by decide +kernel⟩
theorem inX6_chooseFor : Cond.instanceMethod yX6_chooseFor ∈ GW := gw3 (List.mem_of_getElem? (i := 101) (by decide +kernel)) rfl
theorem csX6_chooseFor : ∃ T N, vwCl[6]? = some (yX6_chooseFor.cls, T, N) ∧ Cond.selects yX6_chooseFor.cls yX6_chooseFor yX6_chooseFor ∈ GW := ⟨_, _, rfl, gw0 (List.mem_of_getElem? (i := 12) (by decide +kernel)) rfl⟩
theorem mwX6_ageChosen : MW yX6_ageChosen cX6_ageChosen 2 none 0 := ⟨gw3 (List.mem_of_getElem? (i := 114) (by decide +kernel)) rfl, gw1 (List.mem_of_getElem? (i := 6) (by decide +kernel)) rfl, by decide +kernel⟩
theorem inX6_ageChosen : Cond.instanceMethod yX6_ageChosen ∈ GW := gw3 (List.mem_of_getElem? (i := 113) (by decide +kernel)) rfl
theorem csX6_ageChosen : ∃ T N, vwCl[6]? = some (yX6_ageChosen.cls, T, N) ∧ Cond.selects yX6_ageChosen.cls yX6_ageChosen yX6_ageChosen ∈ GW := ⟨_, _, rfl, gw0 (List.mem_of_getElem? (i := 15) (by decide +kernel)) rfl⟩
theorem mwX6_beatPacks : MW yX6_beatPacks cX6_beatPacks 5 (some .int) 2 := ⟨gw3 (List.mem_of_getElem? (i := 97) (by decide +kernel)) rfl, gw1 (List.mem_of_getElem? (i := 6) (by decide +kernel)) rfl, by decide +kernel⟩
theorem inX6_beatPacks : Cond.instanceMethod yX6_beatPacks ∈ GW := gw3 (List.mem_of_getElem? (i := 95) (by decide +kernel)) rfl
theorem csX6_beatPacks : ∃ T N, vwCl[6]? = some (yX6_beatPacks.cls, T, N) ∧ Cond.selects yX6_beatPacks.cls yX6_beatPacks yX6_beatPacks ∈ GW := ⟨_, _, rfl, gw3 (List.mem_of_getElem? (i := 96) (by decide +kernel)) rfl⟩
theorem mwX9_beat : MW yX9_beat cX9_beat 3 (some .int) 2 := ⟨gw3 (List.mem_of_getElem? (i := 93) (by decide +kernel)) rfl, gw1 (List.mem_of_getElem? (i := 1) (by decide +kernel)) rfl, by decide +kernel⟩
theorem inX9_beat : Cond.instanceMethod yX9_beat ∈ GW := gw3 (List.mem_of_getElem? (i := 91) (by decide +kernel)) rfl
theorem csX9_beat : ∃ T N, vwCl[9]? = some (yX9_beat.cls, T, N) ∧ Cond.selects yX9_beat.cls yX9_beat yX9_beat ∈ GW := ⟨_, _, rfl, gw3 (List.mem_of_getElem? (i := 92) (by decide +kernel)) rfl⟩
theorem mwX10_beatOne : MW yX10_beatOne cX10_beatOne 6 (some .boolean) 1 := ⟨gw5 (List.mem_of_getElem? (i := 24) (by decide +kernel)) rfl, gw1 (List.mem_of_getElem? (i := 10) (by decide +kernel)) rfl, by decide +kernel⟩
theorem inX10_beatOne : Cond.instanceMethod yX10_beatOne ∈ GW := gw5 (List.mem_of_getElem? (i := 23) (by decide +kernel)) rfl
theorem csX10_beatOne : ∃ T N, vwCl[10]? = some (yX10_beatOne.cls, T, N) ∧ Cond.selects yX10_beatOne.cls yX10_beatOne yX10_beatOne ∈ GW := ⟨_, _, rfl, gw0 (List.mem_of_getElem? (i := 33) (by decide +kernel)) rfl⟩
theorem mwX10_beat : MW yX10_beat cX10_beat 5 (some .int) 2 := ⟨gw5 (List.mem_of_getElem? (i := 20) (by decide +kernel)) rfl, gw1 (List.mem_of_getElem? (i := 10) (by decide +kernel)) rfl, by decide +kernel⟩
theorem inX10_beat : Cond.instanceMethod yX10_beat ∈ GW := gw5 (List.mem_of_getElem? (i := 18) (by decide +kernel)) rfl
theorem csX10_beat : ∃ T N, vwCl[10]? = some (yX10_beat.cls, T, N) ∧ Cond.selects yX10_beat.cls yX10_beat yX10_beat ∈ GW := ⟨_, _, rfl, gw5 (List.mem_of_getElem? (i := 19) (by decide +kernel)) rfl⟩
theorem mwX0_makeLeaf : MW yX0_makeLeaf cX0_makeLeaf 3 (some .int) 2 := ⟨gw3 (List.mem_of_getElem? (i := 122) (by decide +kernel)) rfl, gw1 (List.mem_of_getElem? (i := 3) (by decide +kernel)) rfl, by decide +kernel⟩
theorem inX0_makeLeaf : Cond.instanceMethod yX0_makeLeaf ∈ GW := gw3 (List.mem_of_getElem? (i := 120) (by decide +kernel)) rfl
theorem csX0_makeLeaf : ∃ T N, vwCl[0]? = some (yX0_makeLeaf.cls, T, N) ∧ Cond.selects yX0_makeLeaf.cls yX0_makeLeaf yX0_makeLeaf ∈ GW := ⟨_, _, rfl, gw3 (List.mem_of_getElem? (i := 121) (by decide +kernel)) rfl⟩
theorem mwX9_leaf : MW yX9_leaf cX9_leaf 3 (some .int) 2 := ⟨gw3 (List.mem_of_getElem? (i := 118) (by decide +kernel)) rfl, gw1 (List.mem_of_getElem? (i := 1) (by decide +kernel)) rfl, by decide +kernel⟩
theorem inX9_leaf : Cond.instanceMethod yX9_leaf ∈ GW := gw3 (List.mem_of_getElem? (i := 116) (by decide +kernel)) rfl
theorem csX9_leaf : ∃ T N, vwCl[9]? = some (yX9_leaf.cls, T, N) ∧ Cond.selects yX9_leaf.cls yX9_leaf yX9_leaf ∈ GW := ⟨_, _, rfl, gw3 (List.mem_of_getElem? (i := 117) (by decide +kernel)) rfl⟩
theorem mwX10_leaf : MW yX10_leaf cX10_leaf 3 (some .int) 2 := ⟨gw5 (List.mem_of_getElem? (i := 28) (by decide +kernel)) rfl, gw1 (List.mem_of_getElem? (i := 10) (by decide +kernel)) rfl, by decide +kernel⟩
theorem inX10_leaf : Cond.instanceMethod yX10_leaf ∈ GW := gw5 (List.mem_of_getElem? (i := 26) (by decide +kernel)) rfl
theorem csX10_leaf : ∃ T N, vwCl[10]? = some (yX10_leaf.cls, T, N) ∧ Cond.selects yX10_leaf.cls yX10_leaf yX10_leaf ∈ GW := ⟨_, _, rfl, gw5 (List.mem_of_getElem? (i := 27) (by decide +kernel)) rfl⟩
theorem mwJ13_compare_74951 : MW yJ13_compare_74951 cJ13_compare_74951 4 (some .int) 2 := ⟨gw3 (List.mem_of_getElem? (i := 132) (by decide +kernel)) rfl, gw1 (List.mem_of_getElem? (i := 17) (by decide +kernel)) rfl, by decide +kernel⟩
theorem stJ13_compare_74951 : Cond.static yJ13_compare_74951 ∈ GW := gw3 (List.mem_of_getElem? (i := 131) (by decide +kernel)) rfl
theorem mwX9_flatter : MW yX9_flatter cX9_flatter 5 (some .int) 2 := ⟨gw3 (List.mem_of_getElem? (i := 128) (by decide +kernel)) rfl, gw1 (List.mem_of_getElem? (i := 1) (by decide +kernel)) rfl, by decide +kernel⟩
theorem inX9_flatter : Cond.instanceMethod yX9_flatter ∈ GW := gw3 (List.mem_of_getElem? (i := 126) (by decide +kernel)) rfl
theorem csX9_flatter : ∃ T N, vwCl[9]? = some (yX9_flatter.cls, T, N) ∧ Cond.selects yX9_flatter.cls yX9_flatter yX9_flatter ∈ GW := ⟨_, _, rfl, gw3 (List.mem_of_getElem? (i := 127) (by decide +kernel)) rfl⟩
theorem mwX10_flatter : MW yX10_flatter cX10_flatter 7 (some .int) 2 := ⟨gw5 (List.mem_of_getElem? (i := 33) (by decide +kernel)) rfl, gw1 (List.mem_of_getElem? (i := 10) (by decide +kernel)) rfl, by decide +kernel⟩
theorem inX10_flatter : Cond.instanceMethod yX10_flatter ∈ GW := gw5 (List.mem_of_getElem? (i := 31) (by decide +kernel)) rfl
theorem csX10_flatter : ∃ T N, vwCl[10]? = some (yX10_flatter.cls, T, N) ∧ Cond.selects yX10_flatter.cls yX10_flatter yX10_flatter ∈ GW := ⟨_, _, rfl, gw5 (List.mem_of_getElem? (i := 32) (by decide +kernel)) rfl⟩
theorem mwX0_bindBooks : MW yX0_bindBooks cX0_bindBooks 7 (some .int) 2 := ⟨gw3 (List.mem_of_getElem? (i := 140) (by decide +kernel)) rfl, gw1 (List.mem_of_getElem? (i := 3) (by decide +kernel)) rfl, by decide +kernel⟩
theorem inX0_bindBooks : Cond.instanceMethod yX0_bindBooks ∈ GW := gw3 (List.mem_of_getElem? (i := 138) (by decide +kernel)) rfl
theorem csX0_bindBooks : ∃ T N, vwCl[0]? = some (yX0_bindBooks.cls, T, N) ∧ Cond.selects yX0_bindBooks.cls yX0_bindBooks yX0_bindBooks ∈ GW := ⟨_, _, rfl, gw3 (List.mem_of_getElem? (i := 139) (by decide +kernel)) rfl⟩
theorem mwX9_bind : MW yX9_bind cX9_bind 2 (some .int) 1 := ⟨gw3 (List.mem_of_getElem? (i := 136) (by decide +kernel)) rfl, gw1 (List.mem_of_getElem? (i := 1) (by decide +kernel)) rfl, by decide +kernel⟩
theorem inX9_bind : Cond.instanceMethod yX9_bind ∈ GW := gw3 (List.mem_of_getElem? (i := 134) (by decide +kernel)) rfl
theorem csX9_bind : ∃ T N, vwCl[9]? = some (yX9_bind.cls, T, N) ∧ Cond.selects yX9_bind.cls yX9_bind yX9_bind ∈ GW := ⟨_, _, rfl, gw3 (List.mem_of_getElem? (i := 135) (by decide +kernel)) rfl⟩
theorem mwX10_bind : MW yX10_bind cX10_bind 6 (some .int) 1 := ⟨gw5 (List.mem_of_getElem? (i := 37) (by decide +kernel)) rfl, gw1 (List.mem_of_getElem? (i := 10) (by decide +kernel)) rfl, by decide +kernel⟩
theorem inX10_bind : Cond.instanceMethod yX10_bind ∈ GW := gw5 (List.mem_of_getElem? (i := 35) (by decide +kernel)) rfl
theorem csX10_bind : ∃ T N, vwCl[10]? = some (yX10_bind.cls, T, N) ∧ Cond.selects yX10_bind.cls yX10_bind yX10_bind ∈ GW := ⟨_, _, rfl, gw5 (List.mem_of_getElem? (i := 36) (by decide +kernel)) rfl⟩
theorem mwX9_book : MW yX9_book cX9_book 3 (some .int) 1 := ⟨gw3 (List.mem_of_getElem? (i := 145) (by decide +kernel)) rfl, gw1 (List.mem_of_getElem? (i := 1) (by decide +kernel)) rfl, by decide +kernel⟩
theorem inX9_book : Cond.instanceMethod yX9_book ∈ GW := gw3 (List.mem_of_getElem? (i := 143) (by decide +kernel)) rfl
theorem csX9_book : ∃ T N, vwCl[9]? = some (yX9_book.cls, T, N) ∧ Cond.selects yX9_book.cls yX9_book yX9_book ∈ GW := ⟨_, _, rfl, gw3 (List.mem_of_getElem? (i := 144) (by decide +kernel)) rfl⟩
theorem mwX10_book : MW yX10_book cX10_book 2 (some .int) 1 := ⟨gw5 (List.mem_of_getElem? (i := 42) (by decide +kernel)) rfl, gw1 (List.mem_of_getElem? (i := 10) (by decide +kernel)) rfl, by decide +kernel⟩
theorem inX10_book : Cond.instanceMethod yX10_book ∈ GW := gw5 (List.mem_of_getElem? (i := 40) (by decide +kernel)) rfl
theorem csX10_book : ∃ T N, vwCl[10]? = some (yX10_book.cls, T, N) ∧ Cond.selects yX10_book.cls yX10_book yX10_book ∈ GW := ⟨_, _, rfl, gw5 (List.mem_of_getElem? (i := 41) (by decide +kernel)) rfl⟩
theorem mwX9_leavesAlong : MW yX9_leavesAlong cX9_leavesAlong 3 (some .long) 3 := ⟨gw3 (List.mem_of_getElem? (i := 152) (by decide +kernel)) rfl, gw1 (List.mem_of_getElem? (i := 1) (by decide +kernel)) rfl, by decide +kernel⟩
theorem stX9_leavesAlong : Cond.static yX9_leavesAlong ∈ GW := gw3 (List.mem_of_getElem? (i := 151) (by decide +kernel)) rfl
theorem mwX9_surface : MW yX9_surface cX9_surface 5 (some .long) 4 := ⟨gw3 (List.mem_of_getElem? (i := 149) (by decide +kernel)) rfl, gw1 (List.mem_of_getElem? (i := 1) (by decide +kernel)) rfl, by decide +kernel⟩
theorem inX9_surface : Cond.instanceMethod yX9_surface ∈ GW := gw3 (List.mem_of_getElem? (i := 147) (by decide +kernel)) rfl
theorem csX9_surface : ∃ T N, vwCl[9]? = some (yX9_surface.cls, T, N) ∧ Cond.selects yX9_surface.cls yX9_surface yX9_surface ∈ GW := ⟨_, _, rfl, gw3 (List.mem_of_getElem? (i := 148) (by decide +kernel)) rfl⟩
theorem mwX10_along : MW yX10_along cX10_along 3 (some .long) 3 := ⟨gw5 (List.mem_of_getElem? (i := 50) (by decide +kernel)) rfl, gw1 (List.mem_of_getElem? (i := 10) (by decide +kernel)) rfl, by decide +kernel⟩
theorem stX10_along : Cond.static yX10_along ∈ GW := gw5 (List.mem_of_getElem? (i := 49) (by decide +kernel)) rfl
theorem mwX10_surface : MW yX10_surface cX10_surface 6 (some .long) 4 := ⟨gw5 (List.mem_of_getElem? (i := 46) (by decide +kernel)) rfl, gw1 (List.mem_of_getElem? (i := 10) (by decide +kernel)) rfl, by decide +kernel⟩
theorem inX10_surface : Cond.instanceMethod yX10_surface ∈ GW := gw5 (List.mem_of_getElem? (i := 44) (by decide +kernel)) rfl
theorem csX10_surface : ∃ T N, vwCl[10]? = some (yX10_surface.cls, T, N) ∧ Cond.selects yX10_surface.cls yX10_surface yX10_surface ∈ GW := ⟨_, _, rfl, gw5 (List.mem_of_getElem? (i := 45) (by decide +kernel)) rfl⟩
theorem mwX9_isHour : MW yX9_isHour cX9_isHour 1 (some .boolean) 1 := ⟨gw3 (List.mem_of_getElem? (i := 166) (by decide +kernel)) rfl, gw1 (List.mem_of_getElem? (i := 1) (by decide +kernel)) rfl, by decide +kernel⟩
theorem stX9_isHour : Cond.static yX9_isHour ∈ GW := gw3 (List.mem_of_getElem? (i := 165) (by decide +kernel)) rfl
theorem mwX2_addPassed : MW yX2_addPassed cX2_addPassed 5 (some .int) 4 := ⟨gw3 (List.mem_of_getElem? (i := 160) (by decide +kernel)) rfl, gw1 (List.mem_of_getElem? (i := 8) (by decide +kernel)) rfl, by decide +kernel⟩
theorem inX2_addPassed : Cond.instanceMethod yX2_addPassed ∈ GW := gw3 (List.mem_of_getElem? (i := 158) (by decide +kernel)) rfl
theorem csX2_addPassed : ∃ T N, vwCl[2]? = some (yX2_addPassed.cls, T, N) ∧ Cond.selects yX2_addPassed.cls yX2_addPassed yX2_addPassed ∈ GW := ⟨_, _, rfl, gw3 (List.mem_of_getElem? (i := 159) (by decide +kernel)) rfl⟩
theorem mwX9_pass : MW yX9_pass cX9_pass 5 (some .int) 4 := ⟨gw3 (List.mem_of_getElem? (i := 156) (by decide +kernel)) rfl, gw1 (List.mem_of_getElem? (i := 1) (by decide +kernel)) rfl, by decide +kernel⟩
theorem inX9_pass : Cond.instanceMethod yX9_pass ∈ GW := gw3 (List.mem_of_getElem? (i := 154) (by decide +kernel)) rfl
theorem csX9_pass : ∃ T N, vwCl[9]? = some (yX9_pass.cls, T, N) ∧ Cond.selects yX9_pass.cls yX9_pass yX9_pass ∈ GW := ⟨_, _, rfl, gw3 (List.mem_of_getElem? (i := 155) (by decide +kernel)) rfl⟩
theorem mwX10_isHour : MW yX10_isHour cX10_isHour 1 (some .boolean) 1 := ⟨gw5 (List.mem_of_getElem? (i := 59) (by decide +kernel)) rfl, gw1 (List.mem_of_getElem? (i := 10) (by decide +kernel)) rfl, by decide +kernel⟩
theorem stX10_isHour : Cond.static yX10_isHour ∈ GW := gw5 (List.mem_of_getElem? (i := 58) (by decide +kernel)) rfl
theorem mwX10_pass : MW yX10_pass cX10_pass 5 (some .int) 4 := ⟨gw5 (List.mem_of_getElem? (i := 54) (by decide +kernel)) rfl, gw1 (List.mem_of_getElem? (i := 10) (by decide +kernel)) rfl, by decide +kernel⟩
theorem inX10_pass : Cond.instanceMethod yX10_pass ∈ GW := gw5 (List.mem_of_getElem? (i := 52) (by decide +kernel)) rfl
theorem csX10_pass : ∃ T N, vwCl[10]? = some (yX10_pass.cls, T, N) ∧ Cond.selects yX10_pass.cls yX10_pass yX10_pass ∈ GW := ⟨_, _, rfl, gw5 (List.mem_of_getElem? (i := 53) (by decide +kernel)) rfl⟩
theorem mwX2_through : MW yX2_through cX2_through 6 (some .int) 3 := ⟨gw3 (List.mem_of_getElem? (i := 180) (by decide +kernel)) rfl, gw1 (List.mem_of_getElem? (i := 8) (by decide +kernel)) rfl, by decide +kernel⟩
theorem inX2_through : Cond.instanceMethod yX2_through ∈ GW := gw3 (List.mem_of_getElem? (i := 179) (by decide +kernel)) rfl
theorem csX2_through : ∃ T N, vwCl[2]? = some (yX2_through.cls, T, N) ∧ Cond.selects yX2_through.cls yX2_through yX2_through ∈ GW := ⟨_, _, rfl, gw0 (List.mem_of_getElem? (i := 16) (by decide +kernel)) rfl⟩
theorem mwX2_inRoom : MW yX2_inRoom cX2_inRoom 4 (some .int) 3 := ⟨gw3 (List.mem_of_getElem? (i := 176) (by decide +kernel)) rfl, gw1 (List.mem_of_getElem? (i := 8) (by decide +kernel)) rfl, by decide +kernel⟩
theorem inX2_inRoom : Cond.instanceMethod yX2_inRoom ∈ GW := gw3 (List.mem_of_getElem? (i := 174) (by decide +kernel)) rfl
theorem csX2_inRoom : ∃ T N, vwCl[2]? = some (yX2_inRoom.cls, T, N) ∧ Cond.selects yX2_inRoom.cls yX2_inRoom yX2_inRoom ∈ GW := ⟨_, _, rfl, gw3 (List.mem_of_getElem? (i := 175) (by decide +kernel)) rfl⟩
theorem mwX9_held : MW yX9_held cX9_held 4 (some .int) 3 := ⟨gw3 (List.mem_of_getElem? (i := 170) (by decide +kernel)) rfl, gw1 (List.mem_of_getElem? (i := 1) (by decide +kernel)) rfl, by decide +kernel⟩
theorem inX9_held : Cond.instanceMethod yX9_held ∈ GW := gw3 (List.mem_of_getElem? (i := 168) (by decide +kernel)) rfl
theorem csX9_held : ∃ T N, vwCl[9]? = some (yX9_held.cls, T, N) ∧ Cond.selects yX9_held.cls yX9_held yX9_held ∈ GW := ⟨_, _, rfl, gw3 (List.mem_of_getElem? (i := 169) (by decide +kernel)) rfl⟩
theorem mwX10_heldIn : MW yX10_heldIn cX10_heldIn 6 (some .int) 3 := ⟨gw5 (List.mem_of_getElem? (i := 67) (by decide +kernel)) rfl, gw1 (List.mem_of_getElem? (i := 10) (by decide +kernel)) rfl, by decide +kernel⟩
theorem inX10_heldIn : Cond.instanceMethod yX10_heldIn ∈ GW := gw5 (List.mem_of_getElem? (i := 66) (by decide +kernel)) rfl
theorem csX10_heldIn : ∃ T N, vwCl[10]? = some (yX10_heldIn.cls, T, N) ∧ Cond.selects yX10_heldIn.cls yX10_heldIn yX10_heldIn ∈ GW := ⟨_, _, rfl, gw0 (List.mem_of_getElem? (i := 34) (by decide +kernel)) rfl⟩
theorem mwX10_held : MW yX10_held cX10_held 4 (some .int) 3 := ⟨gw5 (List.mem_of_getElem? (i := 63) (by decide +kernel)) rfl, gw1 (List.mem_of_getElem? (i := 10) (by decide +kernel)) rfl, by decide +kernel⟩
theorem inX10_held : Cond.instanceMethod yX10_held ∈ GW := gw5 (List.mem_of_getElem? (i := 61) (by decide +kernel)) rfl
theorem csX10_held : ∃ T N, vwCl[10]? = some (yX10_held.cls, T, N) ∧ Cond.selects yX10_held.cls yX10_held yX10_held ∈ GW := ⟨_, _, rfl, gw5 (List.mem_of_getElem? (i := 62) (by decide +kernel)) rfl⟩
theorem mwX2_addFound : MW yX2_addFound cX2_addFound 4 (some .int) 3 := ⟨gw3 (List.mem_of_getElem? (i := 188) (by decide +kernel)) rfl, gw1 (List.mem_of_getElem? (i := 8) (by decide +kernel)) rfl, by decide +kernel⟩
theorem inX2_addFound : Cond.instanceMethod yX2_addFound ∈ GW := gw3 (List.mem_of_getElem? (i := 186) (by decide +kernel)) rfl
theorem csX2_addFound : ∃ T N, vwCl[2]? = some (yX2_addFound.cls, T, N) ∧ Cond.selects yX2_addFound.cls yX2_addFound yX2_addFound ∈ GW := ⟨_, _, rfl, gw3 (List.mem_of_getElem? (i := 187) (by decide +kernel)) rfl⟩
theorem mwX9_find : MW yX9_find cX9_find 4 (some .int) 3 := ⟨gw3 (List.mem_of_getElem? (i := 184) (by decide +kernel)) rfl, gw1 (List.mem_of_getElem? (i := 1) (by decide +kernel)) rfl, by decide +kernel⟩
theorem inX9_find : Cond.instanceMethod yX9_find ∈ GW := gw3 (List.mem_of_getElem? (i := 182) (by decide +kernel)) rfl
theorem csX9_find : ∃ T N, vwCl[9]? = some (yX9_find.cls, T, N) ∧ Cond.selects yX9_find.cls yX9_find yX9_find ∈ GW := ⟨_, _, rfl, gw3 (List.mem_of_getElem? (i := 183) (by decide +kernel)) rfl⟩
theorem mwX10_find : MW yX10_find cX10_find 4 (some .int) 3 := ⟨gw5 (List.mem_of_getElem? (i := 72) (by decide +kernel)) rfl, gw1 (List.mem_of_getElem? (i := 10) (by decide +kernel)) rfl, by decide +kernel⟩
theorem inX10_find : Cond.instanceMethod yX10_find ∈ GW := gw5 (List.mem_of_getElem? (i := 70) (by decide +kernel)) rfl
theorem csX10_find : ∃ T N, vwCl[10]? = some (yX10_find.cls, T, N) ∧ Cond.selects yX10_find.cls yX10_find yX10_find ∈ GW := ⟨_, _, rfl, gw5 (List.mem_of_getElem? (i := 71) (by decide +kernel)) rfl⟩
theorem mwX2_firstMissing : MW yX2_firstMissing cX2_firstMissing 6 (some .int) 2 := ⟨gw3 (List.mem_of_getElem? (i := 197) (by decide +kernel)) rfl, gw1 (List.mem_of_getElem? (i := 8) (by decide +kernel)) rfl, by decide +kernel⟩
theorem inX2_firstMissing : Cond.instanceMethod yX2_firstMissing ∈ GW := gw3 (List.mem_of_getElem? (i := 195) (by decide +kernel)) rfl
theorem csX2_firstMissing : ∃ T N, vwCl[2]? = some (yX2_firstMissing.cls, T, N) ∧ Cond.selects yX2_firstMissing.cls yX2_firstMissing yX2_firstMissing ∈ GW := ⟨_, _, rfl, gw3 (List.mem_of_getElem? (i := 196) (by decide +kernel)) rfl⟩
theorem mwX9_missing : MW yX9_missing cX9_missing 3 (some .int) 2 := ⟨gw3 (List.mem_of_getElem? (i := 193) (by decide +kernel)) rfl, gw1 (List.mem_of_getElem? (i := 1) (by decide +kernel)) rfl, by decide +kernel⟩
theorem inX9_missing : Cond.instanceMethod yX9_missing ∈ GW := gw3 (List.mem_of_getElem? (i := 191) (by decide +kernel)) rfl
theorem csX9_missing : ∃ T N, vwCl[9]? = some (yX9_missing.cls, T, N) ∧ Cond.selects yX9_missing.cls yX9_missing yX9_missing ∈ GW := ⟨_, _, rfl, gw3 (List.mem_of_getElem? (i := 192) (by decide +kernel)) rfl⟩
theorem mwX10_missing : MW yX10_missing cX10_missing 6 (some .int) 2 := ⟨gw5 (List.mem_of_getElem? (i := 77) (by decide +kernel)) rfl, gw1 (List.mem_of_getElem? (i := 10) (by decide +kernel)) rfl, by decide +kernel⟩
theorem inX10_missing : Cond.instanceMethod yX10_missing ∈ GW := gw5 (List.mem_of_getElem? (i := 75) (by decide +kernel)) rfl
theorem csX10_missing : ∃ T N, vwCl[10]? = some (yX10_missing.cls, T, N) ∧ Cond.selects yX10_missing.cls yX10_missing yX10_missing ∈ GW := ⟨_, _, rfl, gw5 (List.mem_of_getElem? (i := 76) (by decide +kernel)) rfl⟩
theorem mwX7_livingPieces : MW yX7_livingPieces cX7_livingPieces 3 (some .int) 0 := ⟨gw3 (List.mem_of_getElem? (i := 206) (by decide +kernel)) rfl, gw1 (List.mem_of_getElem? (i := 2) (by decide +kernel)) rfl, by decide +kernel⟩
theorem inX7_livingPieces : Cond.instanceMethod yX7_livingPieces ∈ GW := gw3 (List.mem_of_getElem? (i := 204) (by decide +kernel)) rfl
theorem csX7_livingPieces : ∃ T N, vwCl[7]? = some (yX7_livingPieces.cls, T, N) ∧ Cond.selects yX7_livingPieces.cls yX7_livingPieces yX7_livingPieces ∈ GW := ⟨_, _, rfl, gw3 (List.mem_of_getElem? (i := 205) (by decide +kernel)) rfl⟩
theorem mwX7_allGrains : MW yX7_allGrains cX7_allGrains 4 (some .int) 0 := ⟨gw3 (List.mem_of_getElem? (i := 210) (by decide +kernel)) rfl, gw1 (List.mem_of_getElem? (i := 2) (by decide +kernel)) rfl, by decide +kernel⟩
theorem inX7_allGrains : Cond.instanceMethod yX7_allGrains ∈ GW := gw3 (List.mem_of_getElem? (i := 208) (by decide +kernel)) rfl
theorem csX7_allGrains : ∃ T N, vwCl[7]? = some (yX7_allGrains.cls, T, N) ∧ Cond.selects yX7_allGrains.cls yX7_allGrains yX7_allGrains ∈ GW := ⟨_, _, rfl, gw3 (List.mem_of_getElem? (i := 209) (by decide +kernel)) rfl⟩
theorem mwX9_count : MW yX9_count cX9_count 2 (some .int) 1 := ⟨gw3 (List.mem_of_getElem? (i := 202) (by decide +kernel)) rfl, gw1 (List.mem_of_getElem? (i := 1) (by decide +kernel)) rfl, by decide +kernel⟩
theorem inX9_count : Cond.instanceMethod yX9_count ∈ GW := gw3 (List.mem_of_getElem? (i := 200) (by decide +kernel)) rfl
theorem csX9_count : ∃ T N, vwCl[9]? = some (yX9_count.cls, T, N) ∧ Cond.selects yX9_count.cls yX9_count yX9_count ∈ GW := ⟨_, _, rfl, gw3 (List.mem_of_getElem? (i := 201) (by decide +kernel)) rfl⟩
theorem mwX10_count : MW yX10_count cX10_count 4 (some .int) 1 := ⟨gw5 (List.mem_of_getElem? (i := 81) (by decide +kernel)) rfl, gw1 (List.mem_of_getElem? (i := 10) (by decide +kernel)) rfl, by decide +kernel⟩
theorem inX10_count : Cond.instanceMethod yX10_count ∈ GW := gw5 (List.mem_of_getElem? (i := 79) (by decide +kernel)) rfl
theorem csX10_count : ∃ T N, vwCl[10]? = some (yX10_count.cls, T, N) ∧ Cond.selects yX10_count.cls yX10_count yX10_count ∈ GW := ⟨_, _, rfl, gw5 (List.mem_of_getElem? (i := 80) (by decide +kernel)) rfl⟩
theorem mwX9_status : MW yX9_status cX9_status 1 (some .int) 0 := ⟨gw3 (List.mem_of_getElem? (i := 214) (by decide +kernel)) rfl, gw1 (List.mem_of_getElem? (i := 1) (by decide +kernel)) rfl, by decide +kernel⟩
theorem inX9_status : Cond.instanceMethod yX9_status ∈ GW := gw3 (List.mem_of_getElem? (i := 212) (by decide +kernel)) rfl
theorem csX9_status : ∃ T N, vwCl[9]? = some (yX9_status.cls, T, N) ∧ Cond.selects yX9_status.cls yX9_status yX9_status ∈ GW := ⟨_, _, rfl, gw3 (List.mem_of_getElem? (i := 213) (by decide +kernel)) rfl⟩
theorem mwX10_status : MW yX10_status cX10_status 1 (some .int) 0 := ⟨gw5 (List.mem_of_getElem? (i := 85) (by decide +kernel)) rfl, gw1 (List.mem_of_getElem? (i := 10) (by decide +kernel)) rfl, by decide +kernel⟩
theorem inX10_status : Cond.instanceMethod yX10_status ∈ GW := gw5 (List.mem_of_getElem? (i := 83) (by decide +kernel)) rfl
theorem csX10_status : ∃ T N, vwCl[10]? = some (yX10_status.cls, T, N) ∧ Cond.selects yX10_status.cls yX10_status yX10_status ∈ GW := ⟨_, _, rfl, gw5 (List.mem_of_getElem? (i := 84) (by decide +kernel)) rfl⟩
