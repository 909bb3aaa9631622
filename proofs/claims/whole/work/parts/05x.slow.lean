/-! facts of the tables that take long to compute; they stand early so that they are compiled once -/
theorem ws_r (ws : List Cond) (ps : List Nat) (hp : ws = ps.filterMap (fun i => tables_1[i]?)) (h : ws.all goodWord = true) : ∀ w ∈ ws, w ∈ WS := by
  intro w hw
  have h1 := List.all_eq_true.mp h w hw
  rw [hp] at hw
  obtain ⟨i, -, hi⟩ := List.mem_filterMap.mp hw
  exact ws_t (List.mem_of_getElem? hi) h1
def xN : List String := ["java/lang/RuntimeException", "java/lang/Exception"]
theorem xk_t {L : List Cond} (h : ∀ w ∈ L.filter goodWord, w ∈ tables_1) : ∀ w ∈ L.filter goodWord, w ∈ WS := fun w hw => ws_t (h w hw) (List.mem_filter.mp hw).2
theorem xk_n {L : List Cond} (h : ∀ w ∈ L.filter (fun w => !goodWord w), w ∈ tables_1 ∧ nestW w = true) : ∀ w ∈ L.filter (fun w => !goodWord w), w ∈ WN := fun w hw => wn_t (h w hw).1 (h w hw).2
theorem xkA1 : ∀ w ∈ (vx_atS RX7 311 xA xN).filter goodWord, w ∈ WS := xk_t (by decide +kernel)
theorem xkA2 : ∀ w ∈ (vx_atS RX7 311 xA xN).filter (fun w => !goodWord w), w ∈ WN := xk_n (by decide +kernel)
theorem xkI1 : ∀ w ∈ (vx_atS RX7 304 xI xN).filter goodWord, w ∈ WS := xk_t (by decide +kernel)
theorem xkI2 : ∀ w ∈ (vx_atS RX7 304 xI xN).filter (fun w => !goodWord w), w ∈ WN := xk_n (by decide +kernel)
theorem xkS1 : ∀ w ∈ (vx_atS RX7 318 xS xN).filter goodWord, w ∈ WS := xk_t (by decide +kernel)
theorem xkS2 : ∀ w ∈ (vx_atS RX7 318 xS xN).filter (fun w => !goodWord w), w ∈ WN := xk_n (by decide +kernel)
-- by program
theorem fxw0 : ∀ w ∈ u_ws RX0 TX0 2, w ∈ WS := ws_r _ [117, 119] (by decide +kernel) (by decide +kernel)
theorem fxw1 : ∀ w ∈ u_ws RX1 TX1 5, w ∈ WS := ws_r _ [57, 59, 61, 63, 65] (by decide +kernel) (by decide +kernel)
theorem fxw2 : ∀ w ∈ u_ws RX2 TX2 2, w ∈ WS := ws_r _ [82, 84] (by decide +kernel) (by decide +kernel)
theorem fxw3 : ∀ w ∈ u_ws RX3 TX3 14, w ∈ WS := ws_r _ [213, 215, 217, 219, 221, 223, 225, 227, 229, 231, 233, 235, 237, 239] (by decide +kernel) (by decide +kernel)
theorem fxw4 : ∀ w ∈ u_ws RX4 TX4 3, w ∈ WS := ws_r _ [180, 182, 184] (by decide +kernel) (by decide +kernel)
theorem fxw5 : ∀ w ∈ u_ws RX5 TX5 3, w ∈ WS := ws_r _ [97, 99, 101] (by decide +kernel) (by decide +kernel)
theorem fxw6 : ∀ w ∈ u_ws RX6 TX6 10, w ∈ WS := ws_r _ [150, 152, 154, 156, 158, 160, 162, 164, 166, 168] (by decide +kernel) (by decide +kernel)
theorem fxw7 : ∀ w ∈ u_ws RX7 TX7 10, w ∈ WS := ws_r _ [394, 396, 398, 400, 402, 404, 406, 408, 410, 412] (by decide +kernel) (by decide +kernel)
theorem fxw8 : ∀ w ∈ u_ws RX8 TX8 19, w ∈ WS := ws_r _ [1162, 1164, 1166, 1168, 1170, 1172, 1174, 1176, 1178, 1180, 1182, 1184, 1186, 1188, 1190, 1192, 1194, 1196, 1198] (by decide +kernel) (by decide +kernel)
