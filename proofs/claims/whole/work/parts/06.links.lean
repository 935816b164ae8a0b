/-! links: what entries of the pools are, by their places in the tables (printed by genlinks.py) -/
theorem tb0 {i : Nat} {w : Cond} (h : (k2_sels lw_privs)[i]? = some w) : w ∈ lw_tbl := List.mem_append_left _ (List.mem_of_getElem? h)
theorem tb1 {i : Nat} {w : Cond} (h : tables_1_1[i]? = some w) : w ∈ lw_tbl := List.mem_append_right _ (List.mem_append_left _ (List.mem_of_getElem? h))
theorem tb2 {i : Nat} {w : Cond} (h : tables_1_2[i]? = some w) : w ∈ lw_tbl := List.mem_append_right _ (List.mem_append_right _ (List.mem_append_left _ (List.mem_of_getElem? h)))
theorem tb3 {i : Nat} {w : Cond} (h : tables_1_3[i]? = some w) : w ∈ lw_tbl := List.mem_append_right _ (List.mem_append_right _ (List.mem_append_right _ (List.mem_append_left _ (List.mem_of_getElem? h))))
theorem tb4 {i : Nat} {w : Cond} (h : tables_1_4[i]? = some w) : w ∈ lw_tbl := List.mem_append_right _ (List.mem_append_right _ (List.mem_append_right _ (List.mem_append_right _ (List.mem_append_left _ (List.mem_of_getElem? h)))))
theorem tb5 {i : Nat} {w : Cond} (h : tables_1_5[i]? = some w) : w ∈ lw_tbl := List.mem_append_right _ (List.mem_append_right _ (List.mem_append_right _ (List.mem_append_right _ (List.mem_append_right _ (List.mem_append_left _ (List.mem_of_getElem? h))))))
theorem tb6 {i : Nat} {w : Cond} (h : tables_1_6[i]? = some w) : w ∈ lw_tbl := List.mem_append_right _ (List.mem_append_right _ (List.mem_append_right _ (List.mem_append_right _ (List.mem_append_right _ (List.mem_append_right _ (List.mem_append_left _ (List.mem_of_getElem? h)))))))
theorem tb7 {i : Nat} {w : Cond} (h : tables_1_7[i]? = some w) : w ∈ lw_tbl := List.mem_append_right _ (List.mem_append_right _ (List.mem_append_right _ (List.mem_append_right _ (List.mem_append_right _ (List.mem_append_right _ (List.mem_append_right _ (List.mem_append_left _ (List.mem_of_getElem? h))))))))
theorem tb8 {i : Nat} {w : Cond} (h : tables_1_8[i]? = some w) : w ∈ lw_tbl := List.mem_append_right _ (List.mem_append_right _ (List.mem_append_right _ (List.mem_append_right _ (List.mem_append_right _ (List.mem_append_right _ (List.mem_append_right _ (List.mem_append_right _ (List.mem_of_getElem? h))))))))
theorem ku_0 : ∀ k, k < 3 → u_lay RJx4a65c TJx4a65c k ∈ lw_tbl := fun k h => match k, h with
  | 0, _ => (show Cond.lays RJx4a65c (TJx4a65c 0).1 (TJx4a65c 0).2.1 (TJx4a65c 0).2.2.1 ∈ lw_tbl from (tb1 (i := 132) rfl))
  | 1, _ => (show Cond.lays RJx4a65c (TJx4a65c 1).1 (TJx4a65c 1).2.1 (TJx4a65c 1).2.2.1 ∈ lw_tbl from (tb1 (i := 128) rfl))
  | 2, _ => (show Cond.lays RJx4a65c (TJx4a65c 2).1 (TJx4a65c 2).2.1 (TJx4a65c 2).2.2.1 ∈ lw_tbl from (tb1 (i := 130) rfl))
  | k + 3, h => absurd h (by omega)
theorem kc_0 : kCls 0 RJx4a65c TJx4a65c 3 tyJx4a65c := ⟨rfl, fun w hw => by obtain ⟨k, hk, rfl⟩ := List.mem_map.mp hw; exact ku_0 k (List.mem_range.mp hk), tyJx4a65c_ok, nmJx4a65c⟩
theorem ku_1 : ∀ k, k < 6 → u_lay RX0 TX0 k ∈ lw_tbl := fun k h => match k, h with
  | 0, _ => (show Cond.laysFinal RX0 (TX0 0).1 (TX0 0).2.1 (TX0 0).2.2.1 ∈ lw_tbl from (tb5 (i := 98) rfl))
  | 1, _ => (show Cond.laysFinal RX0 (TX0 1).1 (TX0 1).2.1 (TX0 1).2.2.1 ∈ lw_tbl from (tb5 (i := 100) rfl))
  | 2, _ => (show Cond.laysFinal RX0 (TX0 2).1 (TX0 2).2.1 (TX0 2).2.2.1 ∈ lw_tbl from (tb5 (i := 102) rfl))
  | 3, _ => (show Cond.laysFinal RX0 (TX0 3).1 (TX0 3).2.1 (TX0 3).2.2.1 ∈ lw_tbl from (tb5 (i := 104) rfl))
  | 4, _ => (show Cond.laysFinal RX0 (TX0 4).1 (TX0 4).2.1 (TX0 4).2.2.1 ∈ lw_tbl from (tb5 (i := 106) rfl))
  | 5, _ => (show Cond.laysFinal RX0 (TX0 5).1 (TX0 5).2.1 (TX0 5).2.2.1 ∈ lw_tbl from (tb5 (i := 108) rfl))
  | k + 6, h => absurd h (by omega)
theorem kc_1 : kCls 1 RX0 TX0 6 tyX0 := ⟨rfl, fun w hw => by obtain ⟨k, hk, rfl⟩ := List.mem_map.mp hw; exact ku_1 k (List.mem_range.mp hk), tyX0_ok, nmX0⟩
theorem ku_2 : ∀ k, k < 5 → u_lay RX1 TX1 k ∈ lw_tbl := fun k h => match k, h with
  | 0, _ => (show Cond.laysFinal RX1 (TX1 0).1 (TX1 0).2.1 (TX1 0).2.2.1 ∈ lw_tbl from (tb5 (i := 224) rfl))
  | 1, _ => (show Cond.laysFinal RX1 (TX1 1).1 (TX1 1).2.1 (TX1 1).2.2.1 ∈ lw_tbl from (tb5 (i := 226) rfl))
  | 2, _ => (show Cond.laysFinal RX1 (TX1 2).1 (TX1 2).2.1 (TX1 2).2.2.1 ∈ lw_tbl from (tb5 (i := 228) rfl))
  | 3, _ => (show Cond.laysFinal RX1 (TX1 3).1 (TX1 3).2.1 (TX1 3).2.2.1 ∈ lw_tbl from (tb5 (i := 230) rfl))
  | 4, _ => (show Cond.lays RX1 (TX1 4).1 (TX1 4).2.1 (TX1 4).2.2.1 ∈ lw_tbl from (tb5 (i := 232) rfl))
  | k + 5, h => absurd h (by omega)
theorem kc_2 : kCls 2 RX1 TX1 5 tyX1 := ⟨rfl, fun w hw => by obtain ⟨k, hk, rfl⟩ := List.mem_map.mp hw; exact ku_2 k (List.mem_range.mp hk), tyX1_ok, nmX1⟩
theorem ku_3 : ∀ k, k < 6 → u_lay RX2 TX2 k ∈ lw_tbl := fun k h => match k, h with
  | 0, _ => (show Cond.laysFinal RX2 (TX2 0).1 (TX2 0).2.1 (TX2 0).2.2.1 ∈ lw_tbl from (tb4 (i := 88) rfl))
  | 1, _ => (show Cond.laysFinal RX2 (TX2 1).1 (TX2 1).2.1 (TX2 1).2.2.1 ∈ lw_tbl from (tb4 (i := 90) rfl))
  | 2, _ => (show Cond.laysFinal RX2 (TX2 2).1 (TX2 2).2.1 (TX2 2).2.2.1 ∈ lw_tbl from (tb4 (i := 92) rfl))
  | 3, _ => (show Cond.laysFinal RX2 (TX2 3).1 (TX2 3).2.1 (TX2 3).2.2.1 ∈ lw_tbl from (tb4 (i := 94) rfl))
  | 4, _ => (show Cond.lays RX2 (TX2 4).1 (TX2 4).2.1 (TX2 4).2.2.1 ∈ lw_tbl from (tb4 (i := 96) rfl))
  | 5, _ => (show Cond.lays RX2 (TX2 5).1 (TX2 5).2.1 (TX2 5).2.2.1 ∈ lw_tbl from (tb4 (i := 98) rfl))
  | k + 6, h => absurd h (by omega)
theorem kc_3 : kCls 3 RX2 TX2 6 tyX2 := ⟨rfl, fun w hw => by obtain ⟨k, hk, rfl⟩ := List.mem_map.mp hw; exact ku_3 k (List.mem_range.mp hk), tyX2_ok, nmX2⟩
theorem ku_4 : ∀ k, k < 3 → u_lay RX3 TX3 k ∈ lw_tbl := fun k h => match k, h with
  | 0, _ => (show Cond.laysFinal RX3 (TX3 0).1 (TX3 0).2.1 (TX3 0).2.2.1 ∈ lw_tbl from (tb1 (i := 90) rfl))
  | 1, _ => (show Cond.laysFinal RX3 (TX3 1).1 (TX3 1).2.1 (TX3 1).2.2.1 ∈ lw_tbl from (tb1 (i := 92) rfl))
  | 2, _ => (show Cond.lays RX3 (TX3 2).1 (TX3 2).2.1 (TX3 2).2.2.1 ∈ lw_tbl from (tb1 (i := 94) rfl))
  | k + 3, h => absurd h (by omega)
theorem kc_4 : kCls 4 RX3 TX3 3 tyX3 := ⟨rfl, fun w hw => by obtain ⟨k, hk, rfl⟩ := List.mem_map.mp hw; exact ku_4 k (List.mem_range.mp hk), tyX3_ok, nmX3⟩
theorem ku_5 : ∀ k, k < 16 → u_lay RX4 TX4 k ∈ lw_tbl := fun k h => match k, h with
  | 0, _ => (show Cond.laysFinal RX4 (TX4 0).1 (TX4 0).2.1 (TX4 0).2.2.1 ∈ lw_tbl from (tb1 (i := 228) rfl))
  | 1, _ => (show Cond.laysFinal RX4 (TX4 1).1 (TX4 1).2.1 (TX4 1).2.2.1 ∈ lw_tbl from (tb1 (i := 230) rfl))
  | 2, _ => (show Cond.laysFinal RX4 (TX4 2).1 (TX4 2).2.1 (TX4 2).2.2.1 ∈ lw_tbl from (tb1 (i := 232) rfl))
  | 3, _ => (show Cond.laysFinal RX4 (TX4 3).1 (TX4 3).2.1 (TX4 3).2.2.1 ∈ lw_tbl from (tb1 (i := 234) rfl))
  | 4, _ => (show Cond.laysFinal RX4 (TX4 4).1 (TX4 4).2.1 (TX4 4).2.2.1 ∈ lw_tbl from (tb1 (i := 236) rfl))
  | 5, _ => (show Cond.laysFinal RX4 (TX4 5).1 (TX4 5).2.1 (TX4 5).2.2.1 ∈ lw_tbl from (tb1 (i := 238) rfl))
  | 6, _ => (show Cond.laysFinal RX4 (TX4 6).1 (TX4 6).2.1 (TX4 6).2.2.1 ∈ lw_tbl from (tb2 (i := 0) rfl))
  | 7, _ => (show Cond.laysFinal RX4 (TX4 7).1 (TX4 7).2.1 (TX4 7).2.2.1 ∈ lw_tbl from (tb2 (i := 2) rfl))
  | 8, _ => (show Cond.laysFinal RX4 (TX4 8).1 (TX4 8).2.1 (TX4 8).2.2.1 ∈ lw_tbl from (tb2 (i := 4) rfl))
  | 9, _ => (show Cond.laysFinal RX4 (TX4 9).1 (TX4 9).2.1 (TX4 9).2.2.1 ∈ lw_tbl from (tb2 (i := 6) rfl))
  | 10, _ => (show Cond.laysFinal RX4 (TX4 10).1 (TX4 10).2.1 (TX4 10).2.2.1 ∈ lw_tbl from (tb2 (i := 8) rfl))
  | 11, _ => (show Cond.laysFinal RX4 (TX4 11).1 (TX4 11).2.1 (TX4 11).2.2.1 ∈ lw_tbl from (tb2 (i := 10) rfl))
  | 12, _ => (show Cond.laysFinal RX4 (TX4 12).1 (TX4 12).2.1 (TX4 12).2.2.1 ∈ lw_tbl from (tb2 (i := 12) rfl))
  | 13, _ => (show Cond.laysFinal RX4 (TX4 13).1 (TX4 13).2.1 (TX4 13).2.2.1 ∈ lw_tbl from (tb2 (i := 14) rfl))
  | 14, _ => (show Cond.laysFinal RX4 (TX4 14).1 (TX4 14).2.1 (TX4 14).2.2.1 ∈ lw_tbl from (tb2 (i := 16) rfl))
  | 15, _ => (show Cond.laysFinal RX4 (TX4 15).1 (TX4 15).2.1 (TX4 15).2.2.1 ∈ lw_tbl from (tb2 (i := 18) rfl))
  | k + 16, h => absurd h (by omega)
theorem kc_5 : kCls 5 RX4 TX4 16 tyX4 := ⟨rfl, fun w hw => by obtain ⟨k, hk, rfl⟩ := List.mem_map.mp hw; exact ku_5 k (List.mem_range.mp hk), tyX4_ok, nmX4⟩
theorem ku_6 : ∀ k, k < 4 → u_lay RX5 TX5 k ∈ lw_tbl := fun k h => match k, h with
  | 0, _ => (show Cond.laysFinal RX5 (TX5 0).1 (TX5 0).2.1 (TX5 0).2.2.1 ∈ lw_tbl from (tb2 (i := 221) rfl))
  | 1, _ => (show Cond.laysFinal RX5 (TX5 1).1 (TX5 1).2.1 (TX5 1).2.2.1 ∈ lw_tbl from (tb2 (i := 223) rfl))
  | 2, _ => (show Cond.lays RX5 (TX5 2).1 (TX5 2).2.1 (TX5 2).2.2.1 ∈ lw_tbl from (tb2 (i := 225) rfl))
  | 3, _ => (show Cond.lays RX5 (TX5 3).1 (TX5 3).2.1 (TX5 3).2.2.1 ∈ lw_tbl from (tb2 (i := 227) rfl))
  | k + 4, h => absurd h (by omega)
theorem kc_6 : kCls 6 RX5 TX5 4 tyX5 := ⟨rfl, fun w hw => by obtain ⟨k, hk, rfl⟩ := List.mem_map.mp hw; exact ku_6 k (List.mem_range.mp hk), tyX5_ok, nmX5⟩
theorem ku_7 : ∀ k, k < 2 → u_lay RX6 TX6 k ∈ lw_tbl := fun k h => match k, h with
  | 0, _ => (show Cond.laysFinal RX6 (TX6 0).1 (TX6 0).2.1 (TX6 0).2.2.1 ∈ lw_tbl from (tb2 (i := 31) rfl))
  | 1, _ => (show Cond.laysFinal RX6 (TX6 1).1 (TX6 1).2.1 (TX6 1).2.2.1 ∈ lw_tbl from (tb2 (i := 33) rfl))
  | k + 2, h => absurd h (by omega)
theorem kc_7 : kCls 7 RX6 TX6 2 tyX6 := ⟨rfl, fun w hw => by obtain ⟨k, hk, rfl⟩ := List.mem_map.mp hw; exact ku_7 k (List.mem_range.mp hk), tyX6_ok, nmX6⟩
theorem ku_8 : ∀ k, k < 6 → u_lay RX7 TX7 k ∈ lw_tbl := fun k h => match k, h with
  | 0, _ => (show Cond.laysFinal RX7 (TX7 0).1 (TX7 0).2.1 (TX7 0).2.2.1 ∈ lw_tbl from (tb3 (i := 215) rfl))
  | 1, _ => (show Cond.laysFinal RX7 (TX7 1).1 (TX7 1).2.1 (TX7 1).2.2.1 ∈ lw_tbl from (tb3 (i := 217) rfl))
  | 2, _ => (show Cond.laysFinal RX7 (TX7 2).1 (TX7 2).2.1 (TX7 2).2.2.1 ∈ lw_tbl from (tb3 (i := 219) rfl))
  | 3, _ => (show Cond.laysFinal RX7 (TX7 3).1 (TX7 3).2.1 (TX7 3).2.2.1 ∈ lw_tbl from (tb3 (i := 221) rfl))
  | 4, _ => (show Cond.laysFinal RX7 (TX7 4).1 (TX7 4).2.1 (TX7 4).2.2.1 ∈ lw_tbl from (tb3 (i := 223) rfl))
  | 5, _ => (show Cond.lays RX7 (TX7 5).1 (TX7 5).2.1 (TX7 5).2.2.1 ∈ lw_tbl from (tb3 (i := 225) rfl))
  | k + 6, h => absurd h (by omega)
theorem kc_8 : kCls 8 RX7 TX7 6 tyX7 := ⟨rfl, fun w hw => by obtain ⟨k, hk, rfl⟩ := List.mem_map.mp hw; exact ku_8 k (List.mem_range.mp hk), tyX7_ok, nmX7⟩
theorem ku_9 : ∀ k, k < 3 → u_lay RX8 TX8 k ∈ lw_tbl := fun k h => match k, h with
  | 0, _ => (show Cond.laysFinal RX8 (TX8 0).1 (TX8 0).2.1 (TX8 0).2.2.1 ∈ lw_tbl from (tb2 (i := 47) rfl))
  | 1, _ => (show Cond.laysFinal RX8 (TX8 1).1 (TX8 1).2.1 (TX8 1).2.2.1 ∈ lw_tbl from (tb2 (i := 49) rfl))
  | 2, _ => (show Cond.laysFinal RX8 (TX8 2).1 (TX8 2).2.1 (TX8 2).2.2.1 ∈ lw_tbl from (tb2 (i := 51) rfl))
  | k + 3, h => absurd h (by omega)
theorem kc_9 : kCls 9 RX8 TX8 3 tyX8 := ⟨rfl, fun w hw => by obtain ⟨k, hk, rfl⟩ := List.mem_map.mp hw; exact ku_9 k (List.mem_range.mp hk), tyX8_ok, nmX8⟩
theorem ku_10 : ∀ k, k < 3 → u_lay RX9 TX9 k ∈ lw_tbl := fun k h => match k, h with
  | 0, _ => (show Cond.laysFinal RX9 (TX9 0).1 (TX9 0).2.1 (TX9 0).2.2.1 ∈ lw_tbl from (tb1 (i := 54) rfl))
  | 1, _ => (show Cond.lays RX9 (TX9 1).1 (TX9 1).2.1 (TX9 1).2.2.1 ∈ lw_tbl from (tb1 (i := 56) rfl))
  | 2, _ => (show Cond.lays RX9 (TX9 2).1 (TX9 2).2.1 (TX9 2).2.2.1 ∈ lw_tbl from (tb1 (i := 58) rfl))
  | k + 3, h => absurd h (by omega)
theorem kc_10 : kCls 10 RX9 TX9 3 tyX9 := ⟨rfl, fun w hw => by obtain ⟨k, hk, rfl⟩ := List.mem_map.mp hw; exact ku_10 k (List.mem_range.mp hk), tyX9_ok, nmX9⟩
theorem ku_11 : ∀ k, k < 4 → u_lay RX10 TX10 k ∈ lw_tbl := fun k h => match k, h with
  | 0, _ => (show Cond.laysFinal RX10 (TX10 0).1 (TX10 0).2.1 (TX10 0).2.2.1 ∈ lw_tbl from (tb4 (i := 139) rfl))
  | 1, _ => (show Cond.laysFinal RX10 (TX10 1).1 (TX10 1).2.1 (TX10 1).2.2.1 ∈ lw_tbl from (tb4 (i := 141) rfl))
  | 2, _ => (show Cond.laysFinal RX10 (TX10 2).1 (TX10 2).2.1 (TX10 2).2.2.1 ∈ lw_tbl from (tb4 (i := 143) rfl))
  | 3, _ => (show Cond.lays RX10 (TX10 3).1 (TX10 3).2.1 (TX10 3).2.2.1 ∈ lw_tbl from (tb4 (i := 145) rfl))
  | k + 4, h => absurd h (by omega)
theorem kc_11 : kCls 11 RX10 TX10 4 tyX10 := ⟨rfl, fun w hw => by obtain ⟨k, hk, rfl⟩ := List.mem_map.mp hw; exact ku_11 k (List.mem_range.mp hk), tyX10_ok, nmX10⟩
theorem ku_12 : ∀ k, k < 18 → u_lay RX11 TX11 k ∈ lw_tbl := fun k h => match k, h with
  | 0, _ => (show Cond.laysFinal RX11 (TX11 0).1 (TX11 0).2.1 (TX11 0).2.2.1 ∈ lw_tbl from (tb2 (i := 75) rfl))
  | 1, _ => (show Cond.laysFinal RX11 (TX11 1).1 (TX11 1).2.1 (TX11 1).2.2.1 ∈ lw_tbl from (tb2 (i := 77) rfl))
  | 2, _ => (show Cond.laysFinal RX11 (TX11 2).1 (TX11 2).2.1 (TX11 2).2.2.1 ∈ lw_tbl from (tb2 (i := 79) rfl))
  | 3, _ => (show Cond.laysFinal RX11 (TX11 3).1 (TX11 3).2.1 (TX11 3).2.2.1 ∈ lw_tbl from (tb2 (i := 81) rfl))
  | 4, _ => (show Cond.laysFinal RX11 (TX11 4).1 (TX11 4).2.1 (TX11 4).2.2.1 ∈ lw_tbl from (tb2 (i := 83) rfl))
  | 5, _ => (show Cond.laysFinal RX11 (TX11 5).1 (TX11 5).2.1 (TX11 5).2.2.1 ∈ lw_tbl from (tb2 (i := 85) rfl))
  | 6, _ => (show Cond.laysFinal RX11 (TX11 6).1 (TX11 6).2.1 (TX11 6).2.2.1 ∈ lw_tbl from (tb2 (i := 87) rfl))
  | 7, _ => (show Cond.laysFinal RX11 (TX11 7).1 (TX11 7).2.1 (TX11 7).2.2.1 ∈ lw_tbl from (tb2 (i := 89) rfl))
  | 8, _ => (show Cond.laysFinal RX11 (TX11 8).1 (TX11 8).2.1 (TX11 8).2.2.1 ∈ lw_tbl from (tb2 (i := 91) rfl))
  | 9, _ => (show Cond.laysFinal RX11 (TX11 9).1 (TX11 9).2.1 (TX11 9).2.2.1 ∈ lw_tbl from (tb2 (i := 93) rfl))
  | 10, _ => (show Cond.laysFinal RX11 (TX11 10).1 (TX11 10).2.1 (TX11 10).2.2.1 ∈ lw_tbl from (tb2 (i := 95) rfl))
  | 11, _ => (show Cond.laysFinal RX11 (TX11 11).1 (TX11 11).2.1 (TX11 11).2.2.1 ∈ lw_tbl from (tb2 (i := 97) rfl))
  | 12, _ => (show Cond.lays RX11 (TX11 12).1 (TX11 12).2.1 (TX11 12).2.2.1 ∈ lw_tbl from (tb2 (i := 99) rfl))
  | 13, _ => (show Cond.lays RX11 (TX11 13).1 (TX11 13).2.1 (TX11 13).2.2.1 ∈ lw_tbl from (tb2 (i := 101) rfl))
  | 14, _ => (show Cond.lays RX11 (TX11 14).1 (TX11 14).2.1 (TX11 14).2.2.1 ∈ lw_tbl from (tb2 (i := 103) rfl))
  | 15, _ => (show Cond.lays RX11 (TX11 15).1 (TX11 15).2.1 (TX11 15).2.2.1 ∈ lw_tbl from (tb2 (i := 105) rfl))
  | 16, _ => (show Cond.lays RX11 (TX11 16).1 (TX11 16).2.1 (TX11 16).2.2.1 ∈ lw_tbl from (tb2 (i := 107) rfl))
  | 17, _ => (show Cond.lays RX11 (TX11 17).1 (TX11 17).2.1 (TX11 17).2.2.1 ∈ lw_tbl from (tb2 (i := 109) rfl))
  | k + 18, h => absurd h (by omega)
theorem kc_12 : kCls 12 RX11 TX11 18 tyX11 := ⟨rfl, fun w hw => by obtain ⟨k, hk, rfl⟩ := List.mem_map.mp hw; exact ku_12 k (List.mem_range.mp hk), tyX11_ok, nmX11⟩
theorem ku_13 : ∀ k, k < 75 → u_lay RX12 TX12 k ∈ lw_tbl := fun k h => match k, h with
  | 0, _ => (show Cond.lays RX12 (TX12 0).1 (TX12 0).2.1 (TX12 0).2.2.1 ∈ lw_tbl from (tb6 (i := 120) rfl))
  | 1, _ => (show Cond.laysFinal RX12 (TX12 1).1 (TX12 1).2.1 (TX12 1).2.2.1 ∈ lw_tbl from (tb6 (i := 122) rfl))
  | 2, _ => (show Cond.lays RX12 (TX12 2).1 (TX12 2).2.1 (TX12 2).2.2.1 ∈ lw_tbl from (tb6 (i := 124) rfl))
  | 3, _ => (show Cond.laysFinal RX12 (TX12 3).1 (TX12 3).2.1 (TX12 3).2.2.1 ∈ lw_tbl from (tb6 (i := 126) rfl))
  | 4, _ => (show Cond.lays RX12 (TX12 4).1 (TX12 4).2.1 (TX12 4).2.2.1 ∈ lw_tbl from (tb6 (i := 128) rfl))
  | 5, _ => (show Cond.lays RX12 (TX12 5).1 (TX12 5).2.1 (TX12 5).2.2.1 ∈ lw_tbl from (tb6 (i := 130) rfl))
  | 6, _ => (show Cond.lays RX12 (TX12 6).1 (TX12 6).2.1 (TX12 6).2.2.1 ∈ lw_tbl from (tb6 (i := 132) rfl))
  | 7, _ => (show Cond.laysFinal RX12 (TX12 7).1 (TX12 7).2.1 (TX12 7).2.2.1 ∈ lw_tbl from (tb6 (i := 134) rfl))
  | 8, _ => (show Cond.laysFinal RX12 (TX12 8).1 (TX12 8).2.1 (TX12 8).2.2.1 ∈ lw_tbl from (tb6 (i := 136) rfl))
  | 9, _ => (show Cond.lays RX12 (TX12 9).1 (TX12 9).2.1 (TX12 9).2.2.1 ∈ lw_tbl from (tb6 (i := 138) rfl))
  | 10, _ => (show Cond.laysFinal RX12 (TX12 10).1 (TX12 10).2.1 (TX12 10).2.2.1 ∈ lw_tbl from (tb6 (i := 140) rfl))
  | 11, _ => (show Cond.laysFinal RX12 (TX12 11).1 (TX12 11).2.1 (TX12 11).2.2.1 ∈ lw_tbl from (tb6 (i := 142) rfl))
  | 12, _ => (show Cond.laysFinal RX12 (TX12 12).1 (TX12 12).2.1 (TX12 12).2.2.1 ∈ lw_tbl from (tb6 (i := 144) rfl))
  | 13, _ => (show Cond.laysFinal RX12 (TX12 13).1 (TX12 13).2.1 (TX12 13).2.2.1 ∈ lw_tbl from (tb6 (i := 146) rfl))
  | 14, _ => (show Cond.laysFinal RX12 (TX12 14).1 (TX12 14).2.1 (TX12 14).2.2.1 ∈ lw_tbl from (tb6 (i := 148) rfl))
  | 15, _ => (show Cond.laysFinal RX12 (TX12 15).1 (TX12 15).2.1 (TX12 15).2.2.1 ∈ lw_tbl from (tb6 (i := 150) rfl))
  | 16, _ => (show Cond.laysFinal RX12 (TX12 16).1 (TX12 16).2.1 (TX12 16).2.2.1 ∈ lw_tbl from (tb6 (i := 152) rfl))
  | 17, _ => (show Cond.laysFinal RX12 (TX12 17).1 (TX12 17).2.1 (TX12 17).2.2.1 ∈ lw_tbl from (tb6 (i := 154) rfl))
  | 18, _ => (show Cond.laysFinal RX12 (TX12 18).1 (TX12 18).2.1 (TX12 18).2.2.1 ∈ lw_tbl from (tb6 (i := 156) rfl))
  | 19, _ => (show Cond.laysFinal RX12 (TX12 19).1 (TX12 19).2.1 (TX12 19).2.2.1 ∈ lw_tbl from (tb6 (i := 158) rfl))
  | 20, _ => (show Cond.lays RX12 (TX12 20).1 (TX12 20).2.1 (TX12 20).2.2.1 ∈ lw_tbl from (tb6 (i := 160) rfl))
  | 21, _ => (show Cond.laysFinal RX12 (TX12 21).1 (TX12 21).2.1 (TX12 21).2.2.1 ∈ lw_tbl from (tb6 (i := 162) rfl))
  | 22, _ => (show Cond.lays RX12 (TX12 22).1 (TX12 22).2.1 (TX12 22).2.2.1 ∈ lw_tbl from (tb6 (i := 164) rfl))
  | 23, _ => (show Cond.laysFinal RX12 (TX12 23).1 (TX12 23).2.1 (TX12 23).2.2.1 ∈ lw_tbl from (tb6 (i := 166) rfl))
  | 24, _ => (show Cond.lays RX12 (TX12 24).1 (TX12 24).2.1 (TX12 24).2.2.1 ∈ lw_tbl from (tb6 (i := 168) rfl))
  | 25, _ => (show Cond.lays RX12 (TX12 25).1 (TX12 25).2.1 (TX12 25).2.2.1 ∈ lw_tbl from (tb6 (i := 170) rfl))
  | 26, _ => (show Cond.lays RX12 (TX12 26).1 (TX12 26).2.1 (TX12 26).2.2.1 ∈ lw_tbl from (tb6 (i := 172) rfl))
  | 27, _ => (show Cond.lays RX12 (TX12 27).1 (TX12 27).2.1 (TX12 27).2.2.1 ∈ lw_tbl from (tb6 (i := 174) rfl))
  | 28, _ => (show Cond.lays RX12 (TX12 28).1 (TX12 28).2.1 (TX12 28).2.2.1 ∈ lw_tbl from (tb6 (i := 176) rfl))
  | 29, _ => (show Cond.laysFinal RX12 (TX12 29).1 (TX12 29).2.1 (TX12 29).2.2.1 ∈ lw_tbl from (tb6 (i := 178) rfl))
  | 30, _ => (show Cond.laysFinal RX12 (TX12 30).1 (TX12 30).2.1 (TX12 30).2.2.1 ∈ lw_tbl from (tb6 (i := 180) rfl))
  | 31, _ => (show Cond.laysFinal RX12 (TX12 31).1 (TX12 31).2.1 (TX12 31).2.2.1 ∈ lw_tbl from (tb6 (i := 182) rfl))
  | 32, _ => (show Cond.laysFinal RX12 (TX12 32).1 (TX12 32).2.1 (TX12 32).2.2.1 ∈ lw_tbl from (tb6 (i := 184) rfl))
  | 33, _ => (show Cond.laysFinal RX12 (TX12 33).1 (TX12 33).2.1 (TX12 33).2.2.1 ∈ lw_tbl from (tb6 (i := 186) rfl))
  | 34, _ => (show Cond.laysFinal RX12 (TX12 34).1 (TX12 34).2.1 (TX12 34).2.2.1 ∈ lw_tbl from (tb6 (i := 188) rfl))
  | 35, _ => (show Cond.laysFinal RX12 (TX12 35).1 (TX12 35).2.1 (TX12 35).2.2.1 ∈ lw_tbl from (tb6 (i := 190) rfl))
  | 36, _ => (show Cond.laysFinal RX12 (TX12 36).1 (TX12 36).2.1 (TX12 36).2.2.1 ∈ lw_tbl from (tb6 (i := 192) rfl))
  | 37, _ => (show Cond.lays RX12 (TX12 37).1 (TX12 37).2.1 (TX12 37).2.2.1 ∈ lw_tbl from (tb6 (i := 194) rfl))
  | 38, _ => (show Cond.lays RX12 (TX12 38).1 (TX12 38).2.1 (TX12 38).2.2.1 ∈ lw_tbl from (tb6 (i := 196) rfl))
  | 39, _ => (show Cond.laysFinal RX12 (TX12 39).1 (TX12 39).2.1 (TX12 39).2.2.1 ∈ lw_tbl from (tb6 (i := 198) rfl))
  | 40, _ => (show Cond.laysFinal RX12 (TX12 40).1 (TX12 40).2.1 (TX12 40).2.2.1 ∈ lw_tbl from (tb6 (i := 200) rfl))
  | 41, _ => (show Cond.laysFinal RX12 (TX12 41).1 (TX12 41).2.1 (TX12 41).2.2.1 ∈ lw_tbl from (tb6 (i := 202) rfl))
  | 42, _ => (show Cond.laysFinal RX12 (TX12 42).1 (TX12 42).2.1 (TX12 42).2.2.1 ∈ lw_tbl from (tb6 (i := 204) rfl))
  | 43, _ => (show Cond.laysFinal RX12 (TX12 43).1 (TX12 43).2.1 (TX12 43).2.2.1 ∈ lw_tbl from (tb6 (i := 206) rfl))
  | 44, _ => (show Cond.laysFinal RX12 (TX12 44).1 (TX12 44).2.1 (TX12 44).2.2.1 ∈ lw_tbl from (tb6 (i := 208) rfl))
  | 45, _ => (show Cond.lays RX12 (TX12 45).1 (TX12 45).2.1 (TX12 45).2.2.1 ∈ lw_tbl from (tb6 (i := 210) rfl))
  | 46, _ => (show Cond.laysFinal RX12 (TX12 46).1 (TX12 46).2.1 (TX12 46).2.2.1 ∈ lw_tbl from (tb6 (i := 212) rfl))
  | 47, _ => (show Cond.laysFinal RX12 (TX12 47).1 (TX12 47).2.1 (TX12 47).2.2.1 ∈ lw_tbl from (tb6 (i := 214) rfl))
  | 48, _ => (show Cond.laysFinal RX12 (TX12 48).1 (TX12 48).2.1 (TX12 48).2.2.1 ∈ lw_tbl from (tb6 (i := 216) rfl))
  | 49, _ => (show Cond.laysFinal RX12 (TX12 49).1 (TX12 49).2.1 (TX12 49).2.2.1 ∈ lw_tbl from (tb6 (i := 218) rfl))
  | 50, _ => (show Cond.laysFinal RX12 (TX12 50).1 (TX12 50).2.1 (TX12 50).2.2.1 ∈ lw_tbl from (tb6 (i := 220) rfl))
  | 51, _ => (show Cond.lays RX12 (TX12 51).1 (TX12 51).2.1 (TX12 51).2.2.1 ∈ lw_tbl from (tb6 (i := 222) rfl))
  | 52, _ => (show Cond.laysFinal RX12 (TX12 52).1 (TX12 52).2.1 (TX12 52).2.2.1 ∈ lw_tbl from (tb6 (i := 224) rfl))
  | 53, _ => (show Cond.laysFinal RX12 (TX12 53).1 (TX12 53).2.1 (TX12 53).2.2.1 ∈ lw_tbl from (tb6 (i := 226) rfl))
  | 54, _ => (show Cond.laysFinal RX12 (TX12 54).1 (TX12 54).2.1 (TX12 54).2.2.1 ∈ lw_tbl from (tb6 (i := 228) rfl))
  | 55, _ => (show Cond.laysFinal RX12 (TX12 55).1 (TX12 55).2.1 (TX12 55).2.2.1 ∈ lw_tbl from (tb6 (i := 230) rfl))
  | 56, _ => (show Cond.laysFinal RX12 (TX12 56).1 (TX12 56).2.1 (TX12 56).2.2.1 ∈ lw_tbl from (tb6 (i := 232) rfl))
  | 57, _ => (show Cond.lays RX12 (TX12 57).1 (TX12 57).2.1 (TX12 57).2.2.1 ∈ lw_tbl from (tb6 (i := 234) rfl))
  | 58, _ => (show Cond.laysFinal RX12 (TX12 58).1 (TX12 58).2.1 (TX12 58).2.2.1 ∈ lw_tbl from (tb6 (i := 236) rfl))
  | 59, _ => (show Cond.laysFinal RX12 (TX12 59).1 (TX12 59).2.1 (TX12 59).2.2.1 ∈ lw_tbl from (tb6 (i := 238) rfl))
  | 60, _ => (show Cond.laysFinal RX12 (TX12 60).1 (TX12 60).2.1 (TX12 60).2.2.1 ∈ lw_tbl from (tb7 (i := 0) rfl))
  | 61, _ => (show Cond.laysFinal RX12 (TX12 61).1 (TX12 61).2.1 (TX12 61).2.2.1 ∈ lw_tbl from (tb7 (i := 2) rfl))
  | 62, _ => (show Cond.lays RX12 (TX12 62).1 (TX12 62).2.1 (TX12 62).2.2.1 ∈ lw_tbl from (tb7 (i := 4) rfl))
  | 63, _ => (show Cond.laysFinal RX12 (TX12 63).1 (TX12 63).2.1 (TX12 63).2.2.1 ∈ lw_tbl from (tb7 (i := 6) rfl))
  | 64, _ => (show Cond.laysFinal RX12 (TX12 64).1 (TX12 64).2.1 (TX12 64).2.2.1 ∈ lw_tbl from (tb7 (i := 8) rfl))
  | 65, _ => (show Cond.laysFinal RX12 (TX12 65).1 (TX12 65).2.1 (TX12 65).2.2.1 ∈ lw_tbl from (tb7 (i := 10) rfl))
  | 66, _ => (show Cond.laysFinal RX12 (TX12 66).1 (TX12 66).2.1 (TX12 66).2.2.1 ∈ lw_tbl from (tb7 (i := 12) rfl))
  | 67, _ => (show Cond.lays RX12 (TX12 67).1 (TX12 67).2.1 (TX12 67).2.2.1 ∈ lw_tbl from (tb7 (i := 14) rfl))
  | 68, _ => (show Cond.laysFinal RX12 (TX12 68).1 (TX12 68).2.1 (TX12 68).2.2.1 ∈ lw_tbl from (tb7 (i := 16) rfl))
  | 69, _ => (show Cond.laysFinal RX12 (TX12 69).1 (TX12 69).2.1 (TX12 69).2.2.1 ∈ lw_tbl from (tb7 (i := 18) rfl))
  | 70, _ => (show Cond.laysFinal RX12 (TX12 70).1 (TX12 70).2.1 (TX12 70).2.2.1 ∈ lw_tbl from (tb7 (i := 20) rfl))
  | 71, _ => (show Cond.laysFinal RX12 (TX12 71).1 (TX12 71).2.1 (TX12 71).2.2.1 ∈ lw_tbl from (tb7 (i := 22) rfl))
  | 72, _ => (show Cond.laysFinal RX12 (TX12 72).1 (TX12 72).2.1 (TX12 72).2.2.1 ∈ lw_tbl from (tb7 (i := 24) rfl))
  | 73, _ => (show Cond.laysFinal RX12 (TX12 73).1 (TX12 73).2.1 (TX12 73).2.2.1 ∈ lw_tbl from (tb7 (i := 26) rfl))
  | 74, _ => (show Cond.laysFinal RX12 (TX12 74).1 (TX12 74).2.1 (TX12 74).2.2.1 ∈ lw_tbl from (tb7 (i := 28) rfl))
  | k + 75, h => absurd h (by omega)
theorem kc_13 : kCls 13 RX12 TX12 75 tyX12 := ⟨rfl, fun w hw => by obtain ⟨k, hk, rfl⟩ := List.mem_map.mp hw; exact ku_13 k (List.mem_range.mp hk), tyX12_ok, nmX12⟩
theorem fl_X9_24 : kFl RX9 24 10 0 := ⟨RX9, TX9, 3, tyX9, "GrantServer$Text", kc_10, by decide, Or.inl (tb1 (i := 51) rfl), Or.inl rfl⟩
theorem fp_X9_24 : kFp RX9 24 10 0 (.array .byte) true := ⟨RX9, TX9, 3, tyX9, "GrantServer$Text", kc_10, by decide, Or.inl (tb1 (i := 51) rfl), Or.inl rfl, by decide +kernel, rfl, fun _ => ⟨rfl, (tb1 (i := 51) rfl)⟩⟩
theorem fl_X9_9 : kFl RX9 9 10 1 := ⟨RX9, TX9, 3, tyX9, "GrantServer$Text", kc_10, by decide, Or.inl (tb1 (i := 52) rfl), Or.inl rfl⟩
theorem fp_X9_9 : kFp RX9 9 10 1 .int false := ⟨RX9, TX9, 3, tyX9, "GrantServer$Text", kc_10, by decide, Or.inl (tb1 (i := 52) rfl), Or.inl rfl, by decide +kernel, rfl, fun h => by cases h⟩
theorem fl_X9_15 : kFl RX9 15 10 2 := ⟨RX9, TX9, 3, tyX9, "GrantServer$Text", kc_10, by decide, Or.inl (tb1 (i := 53) rfl), Or.inl rfl⟩
theorem fp_X9_15 : kFp RX9 15 10 2 .int false := ⟨RX9, TX9, 3, tyX9, "GrantServer$Text", kc_10, by decide, Or.inl (tb1 (i := 53) rfl), Or.inl rfl, by decide +kernel, rfl, fun h => by cases h⟩
theorem fl_X3_13 : kFl RX3 13 4 0 := ⟨RX3, TX3, 3, tyX3, "GrantServer$Field", kc_4, by decide, Or.inl (tb1 (i := 82) rfl), Or.inl rfl⟩
theorem fp_X3_13 : kFp RX3 13 4 0 (.object "java/lang/String") true := ⟨RX3, TX3, 3, tyX3, "GrantServer$Field", kc_4, by decide, Or.inl (tb1 (i := 82) rfl), Or.inl rfl, by decide +kernel, rfl, fun _ => ⟨rfl, (tb1 (i := 82) rfl)⟩⟩
theorem fl_X4_159 : kFl RX4 159 4 0 := ⟨RX3, TX3, 3, tyX3, "GrantServer$Field", kc_4, by decide, Or.inr ⟨"GrantServer", (tb1 (i := 83) rfl)⟩, Or.inl rfl⟩
theorem fl_X3_22 : kFl RX3 22 4 1 := ⟨RX3, TX3, 3, tyX3, "GrantServer$Field", kc_4, by decide, Or.inl (tb1 (i := 84) rfl), Or.inl rfl⟩
theorem fp_X3_22 : kFp RX3 22 4 1 (.object "GrantServer$Text") true := ⟨RX3, TX3, 3, tyX3, "GrantServer$Field", kc_4, by decide, Or.inl (tb1 (i := 84) rfl), Or.inl rfl, by decide +kernel, rfl, fun _ => ⟨rfl, (tb1 (i := 84) rfl)⟩⟩
theorem fl_X0_40 : kFl RX0 40 4 1 := ⟨RX3, TX3, 3, tyX3, "GrantServer$Field", kc_4, by decide, Or.inr ⟨"GrantServer", (tb1 (i := 85) rfl)⟩, Or.inl rfl⟩
theorem fl_X4_147 : kFl RX4 147 4 1 := ⟨RX3, TX3, 3, tyX3, "GrantServer$Field", kc_4, by decide, Or.inr ⟨"GrantServer", (tb1 (i := 86) rfl)⟩, Or.inl rfl⟩
theorem fl_X11_199 : kFl RX11 199 4 1 := ⟨RX3, TX3, 3, tyX3, "GrantServer$Field", kc_4, by decide, Or.inr ⟨"GrantServer", (tb1 (i := 87) rfl)⟩, Or.inl rfl⟩
theorem fl_X3_7 : kFl RX3 7 4 2 := ⟨RX3, TX3, 3, tyX3, "GrantServer$Field", kc_4, by decide, Or.inl (tb1 (i := 88) rfl), Or.inl rfl⟩
theorem fp_X3_7 : kFp RX3 7 4 2 .boolean false := ⟨RX3, TX3, 3, tyX3, "GrantServer$Field", kc_4, by decide, Or.inl (tb1 (i := 88) rfl), Or.inl rfl, by decide +kernel, rfl, fun h => by cases h⟩
theorem fl_X4_143 : kFl RX4 143 4 2 := ⟨RX3, TX3, 3, tyX3, "GrantServer$Field", kc_4, by decide, Or.inr ⟨"GrantServer", (tb1 (i := 89) rfl)⟩, Or.inl rfl⟩
theorem fp_X4_143 : kFp RX4 143 4 2 .boolean false := ⟨RX3, TX3, 3, tyX3, "GrantServer$Field", kc_4, by decide, Or.inr ⟨"GrantServer", (tb1 (i := 89) rfl)⟩, Or.inl rfl, by decide +kernel, rfl, fun h => by cases h⟩
theorem fl_Jx4a65c_9 : kFl RJx4a65c 9 0 1 := ⟨RJx4a65c, TJx4a65c, 3, tyJx4a65c, "java/util/ArrayList", kc_0, by decide, Or.inl (tb1 (i := 123) rfl), Or.inl rfl⟩
theorem fp_Jx4a65c_9 : kFp RJx4a65c 9 0 1 (.array (.object "java/lang/Object")) false := ⟨RJx4a65c, TJx4a65c, 3, tyJx4a65c, "java/util/ArrayList", kc_0, by decide, Or.inl (tb1 (i := 123) rfl), Or.inl rfl, by decide +kernel, rfl, fun h => by cases h⟩
theorem fl_Jx4a65c_48 : kFl RJx4a65c 48 0 2 := ⟨RJx4a65c, TJx4a65c, 3, tyJx4a65c, "java/util/ArrayList", kc_0, by decide, Or.inl (tb1 (i := 124) rfl), Or.inl rfl⟩
theorem fp_Jx4a65c_48 : kFp RJx4a65c 48 0 2 .int false := ⟨RJx4a65c, TJx4a65c, 3, tyJx4a65c, "java/util/ArrayList", kc_0, by decide, Or.inl (tb1 (i := 124) rfl), Or.inl rfl, by decide +kernel, rfl, fun h => by cases h⟩
theorem fl_Jxc12de_7 : kFl RJxc12de 7 0 0 := ⟨RJx4a65c, TJx4a65c, 3, tyJx4a65c, "java/util/AbstractList", kc_0, by decide, Or.inl (tb1 (i := 125) rfl), Or.inl rfl⟩
theorem fp_Jxc12de_7 : kFp RJxc12de 7 0 0 .int false := ⟨RJx4a65c, TJx4a65c, 3, tyJx4a65c, "java/util/AbstractList", kc_0, by decide, Or.inl (tb1 (i := 125) rfl), Or.inl rfl, by decide +kernel, rfl, fun h => by cases h⟩
theorem fl_Jx4a65c_63 : kFl RJx4a65c 63 0 0 := ⟨RJx4a65c, TJx4a65c, 3, tyJx4a65c, "java/util/ArrayList", kc_0, by decide, Or.inl (tb1 (i := 126) rfl), Or.inr (tb1 (i := 127) rfl)⟩
theorem fp_Jx4a65c_63 : kFp RJx4a65c 63 0 0 .int false := ⟨RJx4a65c, TJx4a65c, 3, tyJx4a65c, "java/util/ArrayList", kc_0, by decide, Or.inl (tb1 (i := 126) rfl), Or.inr (tb1 (i := 127) rfl), by decide +kernel, rfl, fun h => by cases h⟩
theorem fl_X4_14 : kFl RX4 14 5 0 := ⟨RX4, TX4, 16, tyX4, "GrantServer$Form", kc_5, by decide, Or.inl (tb1 (i := 199) rfl), Or.inl rfl⟩
theorem fp_X4_14 : kFp RX4 14 5 0 (.object "GrantServer$Text") true := ⟨RX4, TX4, 16, tyX4, "GrantServer$Form", kc_5, by decide, Or.inl (tb1 (i := 199) rfl), Or.inl rfl, by decide +kernel, rfl, fun _ => ⟨rfl, (tb1 (i := 199) rfl)⟩⟩
theorem fl_X4_23 : kFl RX4 23 5 1 := ⟨RX4, TX4, 16, tyX4, "GrantServer$Form", kc_5, by decide, Or.inl (tb1 (i := 200) rfl), Or.inl rfl⟩
theorem fp_X4_23 : kFp RX4 23 5 1 (.object "GrantServer$Text") true := ⟨RX4, TX4, 16, tyX4, "GrantServer$Form", kc_5, by decide, Or.inl (tb1 (i := 200) rfl), Or.inl rfl, by decide +kernel, rfl, fun _ => ⟨rfl, (tb1 (i := 200) rfl)⟩⟩
theorem fl_X4_33 : kFl RX4 33 5 2 := ⟨RX4, TX4, 16, tyX4, "GrantServer$Form", kc_5, by decide, Or.inl (tb1 (i := 201) rfl), Or.inl rfl⟩
theorem fp_X4_33 : kFp RX4 33 5 2 (.object "GrantServer$Field") true := ⟨RX4, TX4, 16, tyX4, "GrantServer$Form", kc_5, by decide, Or.inl (tb1 (i := 201) rfl), Or.inl rfl, by decide +kernel, rfl, fun _ => ⟨rfl, (tb1 (i := 201) rfl)⟩⟩
theorem fl_X11_421 : kFl RX11 421 5 2 := ⟨RX4, TX4, 16, tyX4, "GrantServer$Form", kc_5, by decide, Or.inr ⟨"GrantServer", (tb1 (i := 202) rfl)⟩, Or.inl rfl⟩
theorem fl_X4_39 : kFl RX4 39 5 3 := ⟨RX4, TX4, 16, tyX4, "GrantServer$Form", kc_5, by decide, Or.inl (tb1 (i := 203) rfl), Or.inl rfl⟩
theorem fp_X4_39 : kFp RX4 39 5 3 (.object "GrantServer$Field") true := ⟨RX4, TX4, 16, tyX4, "GrantServer$Form", kc_5, by decide, Or.inl (tb1 (i := 203) rfl), Or.inl rfl, by decide +kernel, rfl, fun _ => ⟨rfl, (tb1 (i := 203) rfl)⟩⟩
theorem fl_X11_195 : kFl RX11 195 5 3 := ⟨RX4, TX4, 16, tyX4, "GrantServer$Form", kc_5, by decide, Or.inr ⟨"GrantServer", (tb1 (i := 204) rfl)⟩, Or.inl rfl⟩
theorem fl_X4_44 : kFl RX4 44 5 4 := ⟨RX4, TX4, 16, tyX4, "GrantServer$Form", kc_5, by decide, Or.inl (tb1 (i := 205) rfl), Or.inl rfl⟩
theorem fp_X4_44 : kFp RX4 44 5 4 (.object "GrantServer$Field") true := ⟨RX4, TX4, 16, tyX4, "GrantServer$Form", kc_5, by decide, Or.inl (tb1 (i := 205) rfl), Or.inl rfl, by decide +kernel, rfl, fun _ => ⟨rfl, (tb1 (i := 205) rfl)⟩⟩
theorem fl_X11_204 : kFl RX11 204 5 4 := ⟨RX4, TX4, 16, tyX4, "GrantServer$Form", kc_5, by decide, Or.inr ⟨"GrantServer", (tb1 (i := 206) rfl)⟩, Or.inl rfl⟩
theorem fl_X4_49 : kFl RX4 49 5 5 := ⟨RX4, TX4, 16, tyX4, "GrantServer$Form", kc_5, by decide, Or.inl (tb1 (i := 207) rfl), Or.inl rfl⟩
theorem fp_X4_49 : kFp RX4 49 5 5 (.object "GrantServer$Field") true := ⟨RX4, TX4, 16, tyX4, "GrantServer$Form", kc_5, by decide, Or.inl (tb1 (i := 207) rfl), Or.inl rfl, by decide +kernel, rfl, fun _ => ⟨rfl, (tb1 (i := 207) rfl)⟩⟩
theorem fl_X11_401 : kFl RX11 401 5 5 := ⟨RX4, TX4, 16, tyX4, "GrantServer$Form", kc_5, by decide, Or.inr ⟨"GrantServer", (tb1 (i := 208) rfl)⟩, Or.inl rfl⟩
theorem fl_X4_53 : kFl RX4 53 5 6 := ⟨RX4, TX4, 16, tyX4, "GrantServer$Form", kc_5, by decide, Or.inl (tb1 (i := 209) rfl), Or.inl rfl⟩
theorem fp_X4_53 : kFp RX4 53 5 6 (.object "GrantServer$Field") true := ⟨RX4, TX4, 16, tyX4, "GrantServer$Form", kc_5, by decide, Or.inl (tb1 (i := 209) rfl), Or.inl rfl, by decide +kernel, rfl, fun _ => ⟨rfl, (tb1 (i := 209) rfl)⟩⟩
theorem fl_X11_221 : kFl RX11 221 5 6 := ⟨RX4, TX4, 16, tyX4, "GrantServer$Form", kc_5, by decide, Or.inr ⟨"GrantServer", (tb1 (i := 210) rfl)⟩, Or.inl rfl⟩
theorem fl_X4_57 : kFl RX4 57 5 7 := ⟨RX4, TX4, 16, tyX4, "GrantServer$Form", kc_5, by decide, Or.inl (tb1 (i := 211) rfl), Or.inl rfl⟩
theorem fp_X4_57 : kFp RX4 57 5 7 (.object "GrantServer$Field") true := ⟨RX4, TX4, 16, tyX4, "GrantServer$Form", kc_5, by decide, Or.inl (tb1 (i := 211) rfl), Or.inl rfl, by decide +kernel, rfl, fun _ => ⟨rfl, (tb1 (i := 211) rfl)⟩⟩
theorem fl_X11_230 : kFl RX11 230 5 7 := ⟨RX4, TX4, 16, tyX4, "GrantServer$Form", kc_5, by decide, Or.inr ⟨"GrantServer", (tb1 (i := 212) rfl)⟩, Or.inl rfl⟩
theorem fl_X4_62 : kFl RX4 62 5 8 := ⟨RX4, TX4, 16, tyX4, "GrantServer$Form", kc_5, by decide, Or.inl (tb1 (i := 213) rfl), Or.inl rfl⟩
theorem fp_X4_62 : kFp RX4 62 5 8 (.object "GrantServer$Field") true := ⟨RX4, TX4, 16, tyX4, "GrantServer$Form", kc_5, by decide, Or.inl (tb1 (i := 213) rfl), Or.inl rfl, by decide +kernel, rfl, fun _ => ⟨rfl, (tb1 (i := 213) rfl)⟩⟩
theorem fl_X11_429 : kFl RX11 429 5 8 := ⟨RX4, TX4, 16, tyX4, "GrantServer$Form", kc_5, by decide, Or.inr ⟨"GrantServer", (tb1 (i := 214) rfl)⟩, Or.inl rfl⟩
theorem fl_X4_67 : kFl RX4 67 5 9 := ⟨RX4, TX4, 16, tyX4, "GrantServer$Form", kc_5, by decide, Or.inl (tb1 (i := 215) rfl), Or.inl rfl⟩
theorem fp_X4_67 : kFp RX4 67 5 9 (.object "GrantServer$Field") true := ⟨RX4, TX4, 16, tyX4, "GrantServer$Form", kc_5, by decide, Or.inl (tb1 (i := 215) rfl), Or.inl rfl, by decide +kernel, rfl, fun _ => ⟨rfl, (tb1 (i := 215) rfl)⟩⟩
theorem fl_X11_282 : kFl RX11 282 5 9 := ⟨RX4, TX4, 16, tyX4, "GrantServer$Form", kc_5, by decide, Or.inr ⟨"GrantServer", (tb1 (i := 216) rfl)⟩, Or.inl rfl⟩
theorem fl_X4_72 : kFl RX4 72 5 10 := ⟨RX4, TX4, 16, tyX4, "GrantServer$Form", kc_5, by decide, Or.inl (tb1 (i := 217) rfl), Or.inl rfl⟩
theorem fp_X4_72 : kFp RX4 72 5 10 (.object "GrantServer$Field") true := ⟨RX4, TX4, 16, tyX4, "GrantServer$Form", kc_5, by decide, Or.inl (tb1 (i := 217) rfl), Or.inl rfl, by decide +kernel, rfl, fun _ => ⟨rfl, (tb1 (i := 217) rfl)⟩⟩
theorem fl_X11_466 : kFl RX11 466 5 10 := ⟨RX4, TX4, 16, tyX4, "GrantServer$Form", kc_5, by decide, Or.inr ⟨"GrantServer", (tb1 (i := 218) rfl)⟩, Or.inl rfl⟩
theorem fl_X4_76 : kFl RX4 76 5 11 := ⟨RX4, TX4, 16, tyX4, "GrantServer$Form", kc_5, by decide, Or.inl (tb1 (i := 219) rfl), Or.inl rfl⟩
theorem fp_X4_76 : kFp RX4 76 5 11 (.object "GrantServer$Field") true := ⟨RX4, TX4, 16, tyX4, "GrantServer$Form", kc_5, by decide, Or.inl (tb1 (i := 219) rfl), Or.inl rfl, by decide +kernel, rfl, fun _ => ⟨rfl, (tb1 (i := 219) rfl)⟩⟩
theorem fl_X11_468 : kFl RX11 468 5 11 := ⟨RX4, TX4, 16, tyX4, "GrantServer$Form", kc_5, by decide, Or.inr ⟨"GrantServer", (tb1 (i := 220) rfl)⟩, Or.inl rfl⟩
theorem fl_X4_81 : kFl RX4 81 5 12 := ⟨RX4, TX4, 16, tyX4, "GrantServer$Form", kc_5, by decide, Or.inl (tb1 (i := 221) rfl), Or.inl rfl⟩
theorem fp_X4_81 : kFp RX4 81 5 12 (.object "GrantServer$Field") true := ⟨RX4, TX4, 16, tyX4, "GrantServer$Form", kc_5, by decide, Or.inl (tb1 (i := 221) rfl), Or.inl rfl, by decide +kernel, rfl, fun _ => ⟨rfl, (tb1 (i := 221) rfl)⟩⟩
theorem fl_X11_414 : kFl RX11 414 5 12 := ⟨RX4, TX4, 16, tyX4, "GrantServer$Form", kc_5, by decide, Or.inr ⟨"GrantServer", (tb1 (i := 222) rfl)⟩, Or.inl rfl⟩
theorem fl_X4_86 : kFl RX4 86 5 13 := ⟨RX4, TX4, 16, tyX4, "GrantServer$Form", kc_5, by decide, Or.inl (tb1 (i := 223) rfl), Or.inl rfl⟩
theorem fp_X4_86 : kFp RX4 86 5 13 (.object "GrantServer$Field") true := ⟨RX4, TX4, 16, tyX4, "GrantServer$Form", kc_5, by decide, Or.inl (tb1 (i := 223) rfl), Or.inl rfl, by decide +kernel, rfl, fun _ => ⟨rfl, (tb1 (i := 223) rfl)⟩⟩
theorem fl_X11_501 : kFl RX11 501 5 13 := ⟨RX4, TX4, 16, tyX4, "GrantServer$Form", kc_5, by decide, Or.inr ⟨"GrantServer", (tb1 (i := 224) rfl)⟩, Or.inl rfl⟩
theorem fl_X4_91 : kFl RX4 91 5 14 := ⟨RX4, TX4, 16, tyX4, "GrantServer$Form", kc_5, by decide, Or.inl (tb1 (i := 225) rfl), Or.inl rfl⟩
theorem fp_X4_91 : kFp RX4 91 5 14 (.object "GrantServer$Field") true := ⟨RX4, TX4, 16, tyX4, "GrantServer$Form", kc_5, by decide, Or.inl (tb1 (i := 225) rfl), Or.inl rfl, by decide +kernel, rfl, fun _ => ⟨rfl, (tb1 (i := 225) rfl)⟩⟩
theorem fl_X11_310 : kFl RX11 310 5 14 := ⟨RX4, TX4, 16, tyX4, "GrantServer$Form", kc_5, by decide, Or.inr ⟨"GrantServer", (tb1 (i := 226) rfl)⟩, Or.inl rfl⟩
theorem fl_X4_96 : kFl RX4 96 5 15 := ⟨RX4, TX4, 16, tyX4, "GrantServer$Form", kc_5, by decide, Or.inl (tb1 (i := 227) rfl), Or.inl rfl⟩
theorem fp_X4_96 : kFp RX4 96 5 15 (.object "java/util/ArrayList") true := ⟨RX4, TX4, 16, tyX4, "GrantServer$Form", kc_5, by decide, Or.inl (tb1 (i := 227) rfl), Or.inl rfl, by decide +kernel, rfl, fun _ => ⟨rfl, (tb1 (i := 227) rfl)⟩⟩
theorem fl_X6_12 : kFl RX6 12 7 0 := ⟨RX6, TX6, 2, tyX6, "GrantServer$Handles", kc_7, by decide, Or.inl (tb2 (i := 29) rfl), Or.inl rfl⟩
theorem fp_X6_12 : kFp RX6 12 7 0 (.object "java/util/ArrayList") true := ⟨RX6, TX6, 2, tyX6, "GrantServer$Handles", kc_7, by decide, Or.inl (tb2 (i := 29) rfl), Or.inl rfl, by decide +kernel, rfl, fun _ => ⟨rfl, (tb2 (i := 29) rfl)⟩⟩
theorem fl_X6_18 : kFl RX6 18 7 1 := ⟨RX6, TX6, 2, tyX6, "GrantServer$Handles", kc_7, by decide, Or.inl (tb2 (i := 30) rfl), Or.inl rfl⟩
theorem fp_X6_18 : kFp RX6 18 7 1 (.object "java/util/ArrayList") true := ⟨RX6, TX6, 2, tyX6, "GrantServer$Handles", kc_7, by decide, Or.inl (tb2 (i := 30) rfl), Or.inl rfl, by decide +kernel, rfl, fun _ => ⟨rfl, (tb2 (i := 30) rfl)⟩⟩
theorem fl_X8_9 : kFl RX8 9 9 0 := ⟨RX8, TX8, 3, tyX8, "GrantServer$Sha256", kc_9, by decide, Or.inl (tb2 (i := 44) rfl), Or.inl rfl⟩
theorem fp_X8_9 : kFp RX8 9 9 0 (.array .int) true := ⟨RX8, TX8, 3, tyX8, "GrantServer$Sha256", kc_9, by decide, Or.inl (tb2 (i := 44) rfl), Or.inl rfl, by decide +kernel, rfl, fun _ => ⟨rfl, (tb2 (i := 44) rfl)⟩⟩
theorem fl_X8_15 : kFl RX8 15 9 1 := ⟨RX8, TX8, 3, tyX8, "GrantServer$Sha256", kc_9, by decide, Or.inl (tb2 (i := 45) rfl), Or.inl rfl⟩
theorem fp_X8_15 : kFp RX8 15 9 1 (.array .int) true := ⟨RX8, TX8, 3, tyX8, "GrantServer$Sha256", kc_9, by decide, Or.inl (tb2 (i := 45) rfl), Or.inl rfl, by decide +kernel, rfl, fun _ => ⟨rfl, (tb2 (i := 45) rfl)⟩⟩
theorem fl_X8_23 : kFl RX8 23 9 2 := ⟨RX8, TX8, 3, tyX8, "GrantServer$Sha256", kc_9, by decide, Or.inl (tb2 (i := 46) rfl), Or.inl rfl⟩
theorem fp_X8_23 : kFp RX8 23 9 2 (.object "GrantServer$Text") true := ⟨RX8, TX8, 3, tyX8, "GrantServer$Sha256", kc_9, by decide, Or.inl (tb2 (i := 46) rfl), Or.inl rfl, by decide +kernel, rfl, fun _ => ⟨rfl, (tb2 (i := 46) rfl)⟩⟩
theorem fl_X11_14 : kFl RX11 14 12 0 := ⟨RX11, TX11, 18, tyX11, "GrantServer", kc_12, by decide, Or.inl (tb2 (i := 57) rfl), Or.inl rfl⟩
theorem fp_X11_14 : kFp RX11 14 12 0 (.object "GrantServer$Text") true := ⟨RX11, TX11, 18, tyX11, "GrantServer", kc_12, by decide, Or.inl (tb2 (i := 57) rfl), Or.inl rfl, by decide +kernel, rfl, fun _ => ⟨rfl, (tb2 (i := 57) rfl)⟩⟩
theorem fl_X11_18 : kFl RX11 18 12 1 := ⟨RX11, TX11, 18, tyX11, "GrantServer", kc_12, by decide, Or.inl (tb2 (i := 58) rfl), Or.inl rfl⟩
theorem fp_X11_18 : kFp RX11 18 12 1 (.object "GrantServer$Text") true := ⟨RX11, TX11, 18, tyX11, "GrantServer", kc_12, by decide, Or.inl (tb2 (i := 58) rfl), Or.inl rfl, by decide +kernel, rfl, fun _ => ⟨rfl, (tb2 (i := 58) rfl)⟩⟩
theorem fl_X11_24 : kFl RX11 24 12 2 := ⟨RX11, TX11, 18, tyX11, "GrantServer", kc_12, by decide, Or.inl (tb2 (i := 59) rfl), Or.inl rfl⟩
theorem fp_X11_24 : kFp RX11 24 12 2 (.object "GrantServer$Form") true := ⟨RX11, TX11, 18, tyX11, "GrantServer", kc_12, by decide, Or.inl (tb2 (i := 59) rfl), Or.inl rfl, by decide +kernel, rfl, fun _ => ⟨rfl, (tb2 (i := 59) rfl)⟩⟩
theorem fl_X11_31 : kFl RX11 31 12 3 := ⟨RX11, TX11, 18, tyX11, "GrantServer", kc_12, by decide, Or.inl (tb2 (i := 60) rfl), Or.inl rfl⟩
theorem fp_X11_31 : kFp RX11 31 12 3 (.object "GrantServer$Handles") true := ⟨RX11, TX11, 18, tyX11, "GrantServer", kc_12, by decide, Or.inl (tb2 (i := 60) rfl), Or.inl rfl, by decide +kernel, rfl, fun _ => ⟨rfl, (tb2 (i := 60) rfl)⟩⟩
theorem fl_X11_38 : kFl RX11 38 12 4 := ⟨RX11, TX11, 18, tyX11, "GrantServer", kc_12, by decide, Or.inl (tb2 (i := 61) rfl), Or.inl rfl⟩
theorem fp_X11_38 : kFp RX11 38 12 4 (.object "GrantServer$Sha256") true := ⟨RX11, TX11, 18, tyX11, "GrantServer", kc_12, by decide, Or.inl (tb2 (i := 61) rfl), Or.inl rfl, by decide +kernel, rfl, fun _ => ⟨rfl, (tb2 (i := 61) rfl)⟩⟩
theorem fl_X11_45 : kFl RX11 45 12 5 := ⟨RX11, TX11, 18, tyX11, "GrantServer", kc_12, by decide, Or.inl (tb2 (i := 62) rfl), Or.inl rfl⟩
theorem fp_X11_45 : kFp RX11 45 12 5 (.object "java/util/ArrayList") true := ⟨RX11, TX11, 18, tyX11, "GrantServer", kc_12, by decide, Or.inl (tb2 (i := 62) rfl), Or.inl rfl, by decide +kernel, rfl, fun _ => ⟨rfl, (tb2 (i := 62) rfl)⟩⟩
theorem fl_X11_49 : kFl RX11 49 12 6 := ⟨RX11, TX11, 18, tyX11, "GrantServer", kc_12, by decide, Or.inl (tb2 (i := 63) rfl), Or.inl rfl⟩
theorem fp_X11_49 : kFp RX11 49 12 6 (.object "java/util/ArrayList") true := ⟨RX11, TX11, 18, tyX11, "GrantServer", kc_12, by decide, Or.inl (tb2 (i := 63) rfl), Or.inl rfl, by decide +kernel, rfl, fun _ => ⟨rfl, (tb2 (i := 63) rfl)⟩⟩
theorem fl_X11_52 : kFl RX11 52 12 7 := ⟨RX11, TX11, 18, tyX11, "GrantServer", kc_12, by decide, Or.inl (tb2 (i := 64) rfl), Or.inl rfl⟩
theorem fp_X11_52 : kFp RX11 52 12 7 (.object "java/util/ArrayList") true := ⟨RX11, TX11, 18, tyX11, "GrantServer", kc_12, by decide, Or.inl (tb2 (i := 64) rfl), Or.inl rfl, by decide +kernel, rfl, fun _ => ⟨rfl, (tb2 (i := 64) rfl)⟩⟩
theorem fl_X11_55 : kFl RX11 55 12 8 := ⟨RX11, TX11, 18, tyX11, "GrantServer", kc_12, by decide, Or.inl (tb2 (i := 65) rfl), Or.inl rfl⟩
theorem fp_X11_55 : kFp RX11 55 12 8 (.object "java/util/ArrayList") true := ⟨RX11, TX11, 18, tyX11, "GrantServer", kc_12, by decide, Or.inl (tb2 (i := 65) rfl), Or.inl rfl, by decide +kernel, rfl, fun _ => ⟨rfl, (tb2 (i := 65) rfl)⟩⟩
theorem fl_X11_58 : kFl RX11 58 12 9 := ⟨RX11, TX11, 18, tyX11, "GrantServer", kc_12, by decide, Or.inl (tb2 (i := 66) rfl), Or.inl rfl⟩
theorem fp_X11_58 : kFp RX11 58 12 9 (.object "java/util/ArrayList") true := ⟨RX11, TX11, 18, tyX11, "GrantServer", kc_12, by decide, Or.inl (tb2 (i := 66) rfl), Or.inl rfl, by decide +kernel, rfl, fun _ => ⟨rfl, (tb2 (i := 66) rfl)⟩⟩
theorem fl_X11_61 : kFl RX11 61 12 10 := ⟨RX11, TX11, 18, tyX11, "GrantServer", kc_12, by decide, Or.inl (tb2 (i := 67) rfl), Or.inl rfl⟩
theorem fp_X11_61 : kFp RX11 61 12 10 (.object "java/util/ArrayList") true := ⟨RX11, TX11, 18, tyX11, "GrantServer", kc_12, by decide, Or.inl (tb2 (i := 67) rfl), Or.inl rfl, by decide +kernel, rfl, fun _ => ⟨rfl, (tb2 (i := 67) rfl)⟩⟩
theorem fl_X11_64 : kFl RX11 64 12 11 := ⟨RX11, TX11, 18, tyX11, "GrantServer", kc_12, by decide, Or.inl (tb2 (i := 68) rfl), Or.inl rfl⟩
theorem fp_X11_64 : kFp RX11 64 12 11 (.object "java/util/ArrayList") true := ⟨RX11, TX11, 18, tyX11, "GrantServer", kc_12, by decide, Or.inl (tb2 (i := 68) rfl), Or.inl rfl, by decide +kernel, rfl, fun _ => ⟨rfl, (tb2 (i := 68) rfl)⟩⟩
theorem fl_X11_67 : kFl RX11 67 12 12 := ⟨RX11, TX11, 18, tyX11, "GrantServer", kc_12, by decide, Or.inl (tb2 (i := 69) rfl), Or.inl rfl⟩
theorem fp_X11_67 : kFp RX11 67 12 12 .int false := ⟨RX11, TX11, 18, tyX11, "GrantServer", kc_12, by decide, Or.inl (tb2 (i := 69) rfl), Or.inl rfl, by decide +kernel, rfl, fun h => by cases h⟩
theorem fl_X11_71 : kFl RX11 71 12 13 := ⟨RX11, TX11, 18, tyX11, "GrantServer", kc_12, by decide, Or.inl (tb2 (i := 70) rfl), Or.inl rfl⟩
theorem fp_X11_71 : kFp RX11 71 12 13 .int false := ⟨RX11, TX11, 18, tyX11, "GrantServer", kc_12, by decide, Or.inl (tb2 (i := 70) rfl), Or.inl rfl, by decide +kernel, rfl, fun h => by cases h⟩
theorem fl_X11_74 : kFl RX11 74 12 14 := ⟨RX11, TX11, 18, tyX11, "GrantServer", kc_12, by decide, Or.inl (tb2 (i := 71) rfl), Or.inl rfl⟩
theorem fp_X11_74 : kFp RX11 74 12 14 .int false := ⟨RX11, TX11, 18, tyX11, "GrantServer", kc_12, by decide, Or.inl (tb2 (i := 71) rfl), Or.inl rfl, by decide +kernel, rfl, fun h => by cases h⟩
theorem fl_X11_77 : kFl RX11 77 12 15 := ⟨RX11, TX11, 18, tyX11, "GrantServer", kc_12, by decide, Or.inl (tb2 (i := 72) rfl), Or.inl rfl⟩
theorem fp_X11_77 : kFp RX11 77 12 15 .int false := ⟨RX11, TX11, 18, tyX11, "GrantServer", kc_12, by decide, Or.inl (tb2 (i := 72) rfl), Or.inl rfl, by decide +kernel, rfl, fun h => by cases h⟩
theorem fl_X11_80 : kFl RX11 80 12 16 := ⟨RX11, TX11, 18, tyX11, "GrantServer", kc_12, by decide, Or.inl (tb2 (i := 73) rfl), Or.inl rfl⟩
theorem fp_X11_80 : kFp RX11 80 12 16 .int false := ⟨RX11, TX11, 18, tyX11, "GrantServer", kc_12, by decide, Or.inl (tb2 (i := 73) rfl), Or.inl rfl, by decide +kernel, rfl, fun h => by cases h⟩
theorem fl_X11_83 : kFl RX11 83 12 17 := ⟨RX11, TX11, 18, tyX11, "GrantServer", kc_12, by decide, Or.inl (tb2 (i := 74) rfl), Or.inl rfl⟩
theorem fp_X11_83 : kFp RX11 83 12 17 .int false := ⟨RX11, TX11, 18, tyX11, "GrantServer", kc_12, by decide, Or.inl (tb2 (i := 74) rfl), Or.inl rfl, by decide +kernel, rfl, fun h => by cases h⟩
theorem fl_X5_9 : kFl RX5 9 6 0 := ⟨RX5, TX5, 4, tyX5, "GrantServer$Handle", kc_6, by decide, Or.inl (tb2 (i := 214) rfl), Or.inl rfl⟩
theorem fp_X5_9 : kFp RX5 9 6 0 (.array .int) true := ⟨RX5, TX5, 4, tyX5, "GrantServer$Handle", kc_6, by decide, Or.inl (tb2 (i := 214) rfl), Or.inl rfl, by decide +kernel, rfl, fun _ => ⟨rfl, (tb2 (i := 214) rfl)⟩⟩
theorem fl_X5_20 : kFl RX5 20 6 1 := ⟨RX5, TX5, 4, tyX5, "GrantServer$Handle", kc_6, by decide, Or.inl (tb2 (i := 215) rfl), Or.inl rfl⟩
theorem fp_X5_20 : kFp RX5 20 6 1 (.object "GrantServer$Text") true := ⟨RX5, TX5, 4, tyX5, "GrantServer$Handle", kc_6, by decide, Or.inl (tb2 (i := 215) rfl), Or.inl rfl, by decide +kernel, rfl, fun _ => ⟨rfl, (tb2 (i := 215) rfl)⟩⟩
theorem fl_X6_60 : kFl RX6 60 6 1 := ⟨RX5, TX5, 4, tyX5, "GrantServer$Handle", kc_6, by decide, Or.inr ⟨"GrantServer", (tb2 (i := 216) rfl)⟩, Or.inl rfl⟩
theorem fl_X5_24 : kFl RX5 24 6 2 := ⟨RX5, TX5, 4, tyX5, "GrantServer$Handle", kc_6, by decide, Or.inl (tb2 (i := 217) rfl), Or.inl rfl⟩
theorem fp_X5_24 : kFp RX5 24 6 2 .int false := ⟨RX5, TX5, 4, tyX5, "GrantServer$Handle", kc_6, by decide, Or.inl (tb2 (i := 217) rfl), Or.inl rfl, by decide +kernel, rfl, fun h => by cases h⟩
theorem fl_X6_53 : kFl RX6 53 6 2 := ⟨RX5, TX5, 4, tyX5, "GrantServer$Handle", kc_6, by decide, Or.inr ⟨"GrantServer", (tb2 (i := 218) rfl)⟩, Or.inl rfl⟩
theorem fp_X6_53 : kFp RX6 53 6 2 .int false := ⟨RX5, TX5, 4, tyX5, "GrantServer$Handle", kc_6, by decide, Or.inr ⟨"GrantServer", (tb2 (i := 218) rfl)⟩, Or.inl rfl, by decide +kernel, rfl, fun h => by cases h⟩
theorem fl_X5_28 : kFl RX5 28 6 3 := ⟨RX5, TX5, 4, tyX5, "GrantServer$Handle", kc_6, by decide, Or.inl (tb2 (i := 219) rfl), Or.inl rfl⟩
theorem fp_X5_28 : kFp RX5 28 6 3 .int false := ⟨RX5, TX5, 4, tyX5, "GrantServer$Handle", kc_6, by decide, Or.inl (tb2 (i := 219) rfl), Or.inl rfl, by decide +kernel, rfl, fun h => by cases h⟩
theorem fl_X6_57 : kFl RX6 57 6 3 := ⟨RX5, TX5, 4, tyX5, "GrantServer$Handle", kc_6, by decide, Or.inr ⟨"GrantServer", (tb2 (i := 220) rfl)⟩, Or.inl rfl⟩
theorem fp_X6_57 : kFp RX6 57 6 3 .int false := ⟨RX5, TX5, 4, tyX5, "GrantServer$Handle", kc_6, by decide, Or.inr ⟨"GrantServer", (tb2 (i := 220) rfl)⟩, Or.inl rfl, by decide +kernel, rfl, fun h => by cases h⟩
theorem fl_X7_13 : kFl RX7 13 8 0 := ⟨RX7, TX7, 6, tyX7, "GrantServer$Request", kc_8, by decide, Or.inl (tb3 (i := 203) rfl), Or.inl rfl⟩
theorem fp_X7_13 : kFp RX7 13 8 0 (.object "GrantServer$Client") true := ⟨RX7, TX7, 6, tyX7, "GrantServer$Request", kc_8, by decide, Or.inl (tb3 (i := 203) rfl), Or.inl rfl, by decide +kernel, rfl, fun _ => ⟨rfl, (tb3 (i := 203) rfl)⟩⟩
theorem fl_X11_361 : kFl RX11 361 8 0 := ⟨RX7, TX7, 6, tyX7, "GrantServer$Request", kc_8, by decide, Or.inr ⟨"GrantServer", (tb3 (i := 204) rfl)⟩, Or.inl rfl⟩
theorem fl_X7_17 : kFl RX7 17 8 1 := ⟨RX7, TX7, 6, tyX7, "GrantServer$Request", kc_8, by decide, Or.inl (tb3 (i := 205) rfl), Or.inl rfl⟩
theorem fp_X7_17 : kFp RX7 17 8 1 (.object "GrantServer$Text") true := ⟨RX7, TX7, 6, tyX7, "GrantServer$Request", kc_8, by decide, Or.inl (tb3 (i := 205) rfl), Or.inl rfl, by decide +kernel, rfl, fun _ => ⟨rfl, (tb3 (i := 205) rfl)⟩⟩
theorem fl_X11_268 : kFl RX11 268 8 1 := ⟨RX7, TX7, 6, tyX7, "GrantServer$Request", kc_8, by decide, Or.inr ⟨"GrantServer", (tb3 (i := 206) rfl)⟩, Or.inl rfl⟩
theorem fl_X7_21 : kFl RX7 21 8 2 := ⟨RX7, TX7, 6, tyX7, "GrantServer$Request", kc_8, by decide, Or.inl (tb3 (i := 207) rfl), Or.inl rfl⟩
theorem fp_X7_21 : kFp RX7 21 8 2 .int true := ⟨RX7, TX7, 6, tyX7, "GrantServer$Request", kc_8, by decide, Or.inl (tb3 (i := 207) rfl), Or.inl rfl, by decide +kernel, rfl, fun _ => ⟨rfl, (tb3 (i := 207) rfl)⟩⟩
theorem fl_X11_253 : kFl RX11 253 8 2 := ⟨RX7, TX7, 6, tyX7, "GrantServer$Request", kc_8, by decide, Or.inr ⟨"GrantServer", (tb3 (i := 208) rfl)⟩, Or.inl rfl⟩
theorem fl_X7_25 : kFl RX7 25 8 3 := ⟨RX7, TX7, 6, tyX7, "GrantServer$Request", kc_8, by decide, Or.inl (tb3 (i := 209) rfl), Or.inl rfl⟩
theorem fp_X7_25 : kFp RX7 25 8 3 (.object "GrantServer$Text") true := ⟨RX7, TX7, 6, tyX7, "GrantServer$Request", kc_8, by decide, Or.inl (tb3 (i := 209) rfl), Or.inl rfl, by decide +kernel, rfl, fun _ => ⟨rfl, (tb3 (i := 209) rfl)⟩⟩
theorem fl_X11_484 : kFl RX11 484 8 3 := ⟨RX7, TX7, 6, tyX7, "GrantServer$Request", kc_8, by decide, Or.inr ⟨"GrantServer", (tb3 (i := 210) rfl)⟩, Or.inl rfl⟩
theorem fl_X7_28 : kFl RX7 28 8 4 := ⟨RX7, TX7, 6, tyX7, "GrantServer$Request", kc_8, by decide, Or.inl (tb3 (i := 211) rfl), Or.inl rfl⟩
theorem fp_X7_28 : kFp RX7 28 8 4 (.object "GrantServer$Text") true := ⟨RX7, TX7, 6, tyX7, "GrantServer$Request", kc_8, by decide, Or.inl (tb3 (i := 211) rfl), Or.inl rfl, by decide +kernel, rfl, fun _ => ⟨rfl, (tb3 (i := 211) rfl)⟩⟩
theorem fl_X11_271 : kFl RX11 271 8 4 := ⟨RX7, TX7, 6, tyX7, "GrantServer$Request", kc_8, by decide, Or.inr ⟨"GrantServer", (tb3 (i := 212) rfl)⟩, Or.inl rfl⟩
theorem fl_X7_7 : kFl RX7 7 8 5 := ⟨RX7, TX7, 6, tyX7, "GrantServer$Request", kc_8, by decide, Or.inl (tb3 (i := 213) rfl), Or.inl rfl⟩
theorem fp_X7_7 : kFp RX7 7 8 5 .boolean false := ⟨RX7, TX7, 6, tyX7, "GrantServer$Request", kc_8, by decide, Or.inl (tb3 (i := 213) rfl), Or.inl rfl, by decide +kernel, rfl, fun h => by cases h⟩
theorem fl_X11_244 : kFl RX11 244 8 5 := ⟨RX7, TX7, 6, tyX7, "GrantServer$Request", kc_8, by decide, Or.inr ⟨"GrantServer", (tb3 (i := 214) rfl)⟩, Or.inl rfl⟩
theorem fp_X11_244 : kFp RX11 244 8 5 .boolean false := ⟨RX7, TX7, 6, tyX7, "GrantServer$Request", kc_8, by decide, Or.inr ⟨"GrantServer", (tb3 (i := 214) rfl)⟩, Or.inl rfl, by decide +kernel, rfl, fun h => by cases h⟩
theorem fl_X2_17 : kFl RX2 17 3 0 := ⟨RX2, TX2, 6, tyX2, "GrantServer$Family", kc_3, by decide, Or.inl (tb4 (i := 75) rfl), Or.inl rfl⟩
theorem fp_X2_17 : kFp RX2 17 3 0 .int true := ⟨RX2, TX2, 6, tyX2, "GrantServer$Family", kc_3, by decide, Or.inl (tb4 (i := 75) rfl), Or.inl rfl, by decide +kernel, rfl, fun _ => ⟨rfl, (tb4 (i := 75) rfl)⟩⟩
theorem fl_X11_367 : kFl RX11 367 3 0 := ⟨RX2, TX2, 6, tyX2, "GrantServer$Family", kc_3, by decide, Or.inr ⟨"GrantServer", (tb4 (i := 76) rfl)⟩, Or.inl rfl⟩
theorem fl_X2_20 : kFl RX2 20 3 1 := ⟨RX2, TX2, 6, tyX2, "GrantServer$Family", kc_3, by decide, Or.inl (tb4 (i := 77) rfl), Or.inl rfl⟩
theorem fp_X2_20 : kFp RX2 20 3 1 .int true := ⟨RX2, TX2, 6, tyX2, "GrantServer$Family", kc_3, by decide, Or.inl (tb4 (i := 77) rfl), Or.inl rfl, by decide +kernel, rfl, fun _ => ⟨rfl, (tb4 (i := 77) rfl)⟩⟩
theorem fl_X11_323 : kFl RX11 323 3 1 := ⟨RX2, TX2, 6, tyX2, "GrantServer$Family", kc_3, by decide, Or.inr ⟨"GrantServer", (tb4 (i := 78) rfl)⟩, Or.inl rfl⟩
theorem fl_X2_23 : kFl RX2 23 3 2 := ⟨RX2, TX2, 6, tyX2, "GrantServer$Family", kc_3, by decide, Or.inl (tb4 (i := 79) rfl), Or.inl rfl⟩
theorem fp_X2_23 : kFp RX2 23 3 2 .int true := ⟨RX2, TX2, 6, tyX2, "GrantServer$Family", kc_3, by decide, Or.inl (tb4 (i := 79) rfl), Or.inl rfl, by decide +kernel, rfl, fun _ => ⟨rfl, (tb4 (i := 79) rfl)⟩⟩
theorem fl_X11_346 : kFl RX11 346 3 2 := ⟨RX2, TX2, 6, tyX2, "GrantServer$Family", kc_3, by decide, Or.inr ⟨"GrantServer", (tb4 (i := 80) rfl)⟩, Or.inl rfl⟩
theorem fl_X2_26 : kFl RX2 26 3 3 := ⟨RX2, TX2, 6, tyX2, "GrantServer$Family", kc_3, by decide, Or.inl (tb4 (i := 81) rfl), Or.inl rfl⟩
theorem fp_X2_26 : kFp RX2 26 3 3 .int true := ⟨RX2, TX2, 6, tyX2, "GrantServer$Family", kc_3, by decide, Or.inl (tb4 (i := 81) rfl), Or.inl rfl, by decide +kernel, rfl, fun _ => ⟨rfl, (tb4 (i := 81) rfl)⟩⟩
theorem fl_X11_372 : kFl RX11 372 3 3 := ⟨RX2, TX2, 6, tyX2, "GrantServer$Family", kc_3, by decide, Or.inr ⟨"GrantServer", (tb4 (i := 82) rfl)⟩, Or.inl rfl⟩
theorem fl_X2_7 : kFl RX2 7 3 4 := ⟨RX2, TX2, 6, tyX2, "GrantServer$Family", kc_3, by decide, Or.inl (tb4 (i := 83) rfl), Or.inl rfl⟩
theorem fp_X2_7 : kFp RX2 7 3 4 .boolean false := ⟨RX2, TX2, 6, tyX2, "GrantServer$Family", kc_3, by decide, Or.inl (tb4 (i := 83) rfl), Or.inl rfl, by decide +kernel, rfl, fun h => by cases h⟩
theorem fl_X10_24 : kFl RX10 24 3 4 := ⟨RX2, TX2, 6, tyX2, "GrantServer$Family", kc_3, by decide, Or.inr ⟨"GrantServer", (tb4 (i := 84) rfl)⟩, Or.inl rfl⟩
theorem fp_X10_24 : kFp RX10 24 3 4 .boolean false := ⟨RX2, TX2, 6, tyX2, "GrantServer$Family", kc_3, by decide, Or.inr ⟨"GrantServer", (tb4 (i := 84) rfl)⟩, Or.inl rfl, by decide +kernel, rfl, fun h => by cases h⟩
theorem fl_X11_331 : kFl RX11 331 3 4 := ⟨RX2, TX2, 6, tyX2, "GrantServer$Family", kc_3, by decide, Or.inr ⟨"GrantServer", (tb4 (i := 85) rfl)⟩, Or.inl rfl⟩
theorem fp_X11_331 : kFp RX11 331 3 4 .boolean false := ⟨RX2, TX2, 6, tyX2, "GrantServer$Family", kc_3, by decide, Or.inr ⟨"GrantServer", (tb4 (i := 85) rfl)⟩, Or.inl rfl, by decide +kernel, rfl, fun h => by cases h⟩
theorem fl_X2_13 : kFl RX2 13 3 5 := ⟨RX2, TX2, 6, tyX2, "GrantServer$Family", kc_3, by decide, Or.inl (tb4 (i := 86) rfl), Or.inl rfl⟩
theorem fp_X2_13 : kFp RX2 13 3 5 .int false := ⟨RX2, TX2, 6, tyX2, "GrantServer$Family", kc_3, by decide, Or.inl (tb4 (i := 86) rfl), Or.inl rfl, by decide +kernel, rfl, fun h => by cases h⟩
theorem fl_X11_376 : kFl RX11 376 3 5 := ⟨RX2, TX2, 6, tyX2, "GrantServer$Family", kc_3, by decide, Or.inr ⟨"GrantServer", (tb4 (i := 87) rfl)⟩, Or.inl rfl⟩
theorem fp_X11_376 : kFp RX11 376 3 5 .int false := ⟨RX2, TX2, 6, tyX2, "GrantServer$Family", kc_3, by decide, Or.inr ⟨"GrantServer", (tb4 (i := 87) rfl)⟩, Or.inl rfl, by decide +kernel, rfl, fun h => by cases h⟩
theorem fl_X10_13 : kFl RX10 13 11 0 := ⟨RX10, TX10, 4, tyX10, "GrantServer$Token", kc_11, by decide, Or.inl (tb4 (i := 131) rfl), Or.inl rfl⟩
theorem fp_X10_13 : kFp RX10 13 11 0 (.object "GrantServer$Family") true := ⟨RX10, TX10, 4, tyX10, "GrantServer$Token", kc_11, by decide, Or.inl (tb4 (i := 131) rfl), Or.inl rfl, by decide +kernel, rfl, fun _ => ⟨rfl, (tb4 (i := 131) rfl)⟩⟩
theorem fl_X11_317 : kFl RX11 317 11 0 := ⟨RX10, TX10, 4, tyX10, "GrantServer$Token", kc_11, by decide, Or.inr ⟨"GrantServer", (tb4 (i := 132) rfl)⟩, Or.inl rfl⟩
theorem fl_X10_17 : kFl RX10 17 11 1 := ⟨RX10, TX10, 4, tyX10, "GrantServer$Token", kc_11, by decide, Or.inl (tb4 (i := 133) rfl), Or.inl rfl⟩
theorem fp_X10_17 : kFp RX10 17 11 1 .int true := ⟨RX10, TX10, 4, tyX10, "GrantServer$Token", kc_11, by decide, Or.inl (tb4 (i := 133) rfl), Or.inl rfl, by decide +kernel, rfl, fun _ => ⟨rfl, (tb4 (i := 133) rfl)⟩⟩
theorem fl_X11_345 : kFl RX11 345 11 1 := ⟨RX10, TX10, 4, tyX10, "GrantServer$Token", kc_11, by decide, Or.inr ⟨"GrantServer", (tb4 (i := 134) rfl)⟩, Or.inl rfl⟩
theorem fl_X10_21 : kFl RX10 21 11 2 := ⟨RX10, TX10, 4, tyX10, "GrantServer$Token", kc_11, by decide, Or.inl (tb4 (i := 135) rfl), Or.inl rfl⟩
theorem fp_X10_21 : kFp RX10 21 11 2 .int true := ⟨RX10, TX10, 4, tyX10, "GrantServer$Token", kc_11, by decide, Or.inl (tb4 (i := 135) rfl), Or.inl rfl, by decide +kernel, rfl, fun _ => ⟨rfl, (tb4 (i := 135) rfl)⟩⟩
theorem fl_X11_504 : kFl RX11 504 11 2 := ⟨RX10, TX10, 4, tyX10, "GrantServer$Token", kc_11, by decide, Or.inr ⟨"GrantServer", (tb4 (i := 136) rfl)⟩, Or.inl rfl⟩
theorem fl_X10_7 : kFl RX10 7 11 3 := ⟨RX10, TX10, 4, tyX10, "GrantServer$Token", kc_11, by decide, Or.inl (tb4 (i := 137) rfl), Or.inl rfl⟩
theorem fp_X10_7 : kFp RX10 7 11 3 .boolean false := ⟨RX10, TX10, 4, tyX10, "GrantServer$Token", kc_11, by decide, Or.inl (tb4 (i := 137) rfl), Or.inl rfl, by decide +kernel, rfl, fun h => by cases h⟩
theorem fl_X11_337 : kFl RX11 337 11 3 := ⟨RX10, TX10, 4, tyX10, "GrantServer$Token", kc_11, by decide, Or.inr ⟨"GrantServer", (tb4 (i := 138) rfl)⟩, Or.inl rfl⟩
theorem fp_X11_337 : kFp RX11 337 11 3 .boolean false := ⟨RX10, TX10, 4, tyX10, "GrantServer$Token", kc_11, by decide, Or.inr ⟨"GrantServer", (tb4 (i := 138) rfl)⟩, Or.inl rfl, by decide +kernel, rfl, fun h => by cases h⟩
theorem fl_X0_16 : kFl RX0 16 1 0 := ⟨RX0, TX0, 6, tyX0, "GrantServer$Client", kc_1, by decide, Or.inl (tb5 (i := 87) rfl), Or.inl rfl⟩
theorem fp_X0_16 : kFp RX0 16 1 0 .int true := ⟨RX0, TX0, 6, tyX0, "GrantServer$Client", kc_1, by decide, Or.inl (tb5 (i := 87) rfl), Or.inl rfl, by decide +kernel, rfl, fun _ => ⟨rfl, (tb5 (i := 87) rfl)⟩⟩
theorem fl_X11_328 : kFl RX11 328 1 0 := ⟨RX0, TX0, 6, tyX0, "GrantServer$Client", kc_1, by decide, Or.inr ⟨"GrantServer", (tb5 (i := 88) rfl)⟩, Or.inl rfl⟩
theorem fl_X0_20 : kFl RX0 20 1 1 := ⟨RX0, TX0, 6, tyX0, "GrantServer$Client", kc_1, by decide, Or.inl (tb5 (i := 89) rfl), Or.inl rfl⟩
theorem fp_X0_20 : kFp RX0 20 1 1 (.object "GrantServer$Text") true := ⟨RX0, TX0, 6, tyX0, "GrantServer$Client", kc_1, by decide, Or.inl (tb5 (i := 89) rfl), Or.inl rfl, by decide +kernel, rfl, fun _ => ⟨rfl, (tb5 (i := 89) rfl)⟩⟩
theorem fl_X11_140 : kFl RX11 140 1 1 := ⟨RX0, TX0, 6, tyX0, "GrantServer$Client", kc_1, by decide, Or.inr ⟨"GrantServer", (tb5 (i := 90) rfl)⟩, Or.inl rfl⟩
theorem fl_X0_24 : kFl RX0 24 1 2 := ⟨RX0, TX0, 6, tyX0, "GrantServer$Client", kc_1, by decide, Or.inl (tb5 (i := 91) rfl), Or.inl rfl⟩
theorem fp_X0_24 : kFp RX0 24 1 2 (.object "GrantServer$Text") true := ⟨RX0, TX0, 6, tyX0, "GrantServer$Client", kc_1, by decide, Or.inl (tb5 (i := 91) rfl), Or.inl rfl, by decide +kernel, rfl, fun _ => ⟨rfl, (tb5 (i := 91) rfl)⟩⟩
theorem fl_X0_27 : kFl RX0 27 1 3 := ⟨RX0, TX0, 6, tyX0, "GrantServer$Client", kc_1, by decide, Or.inl (tb5 (i := 92) rfl), Or.inl rfl⟩
theorem fp_X0_27 : kFp RX0 27 1 3 .int true := ⟨RX0, TX0, 6, tyX0, "GrantServer$Client", kc_1, by decide, Or.inl (tb5 (i := 92) rfl), Or.inl rfl, by decide +kernel, rfl, fun _ => ⟨rfl, (tb5 (i := 92) rfl)⟩⟩
theorem fl_X11_211 : kFl RX11 211 1 3 := ⟨RX0, TX0, 6, tyX0, "GrantServer$Client", kc_1, by decide, Or.inr ⟨"GrantServer", (tb5 (i := 93) rfl)⟩, Or.inl rfl⟩
theorem fl_X0_30 : kFl RX0 30 1 4 := ⟨RX0, TX0, 6, tyX0, "GrantServer$Client", kc_1, by decide, Or.inl (tb5 (i := 94) rfl), Or.inl rfl⟩
theorem fp_X0_30 : kFp RX0 30 1 4 .boolean true := ⟨RX0, TX0, 6, tyX0, "GrantServer$Client", kc_1, by decide, Or.inl (tb5 (i := 94) rfl), Or.inl rfl, by decide +kernel, rfl, fun _ => ⟨rfl, (tb5 (i := 94) rfl)⟩⟩
theorem fl_X11_487 : kFl RX11 487 1 4 := ⟨RX0, TX0, 6, tyX0, "GrantServer$Client", kc_1, by decide, Or.inr ⟨"GrantServer", (tb5 (i := 95) rfl)⟩, Or.inl rfl⟩
theorem fl_X0_10 : kFl RX0 10 1 5 := ⟨RX0, TX0, 6, tyX0, "GrantServer$Client", kc_1, by decide, Or.inl (tb5 (i := 96) rfl), Or.inl rfl⟩
theorem fp_X0_10 : kFp RX0 10 1 5 (.object "java/util/ArrayList") true := ⟨RX0, TX0, 6, tyX0, "GrantServer$Client", kc_1, by decide, Or.inl (tb5 (i := 96) rfl), Or.inl rfl, by decide +kernel, rfl, fun _ => ⟨rfl, (tb5 (i := 96) rfl)⟩⟩
theorem fl_X11_167 : kFl RX11 167 1 5 := ⟨RX0, TX0, 6, tyX0, "GrantServer$Client", kc_1, by decide, Or.inr ⟨"GrantServer", (tb5 (i := 97) rfl)⟩, Or.inl rfl⟩
theorem fl_X1_13 : kFl RX1 13 2 0 := ⟨RX1, TX1, 5, tyX1, "GrantServer$Code", kc_2, by decide, Or.inl (tb5 (i := 214) rfl), Or.inl rfl⟩
theorem fp_X1_13 : kFp RX1 13 2 0 (.object "GrantServer$Request") true := ⟨RX1, TX1, 5, tyX1, "GrantServer$Code", kc_2, by decide, Or.inl (tb5 (i := 214) rfl), Or.inl rfl, by decide +kernel, rfl, fun _ => ⟨rfl, (tb5 (i := 214) rfl)⟩⟩
theorem fl_X11_357 : kFl RX11 357 2 0 := ⟨RX1, TX1, 5, tyX1, "GrantServer$Code", kc_2, by decide, Or.inr ⟨"GrantServer", (tb5 (i := 215) rfl)⟩, Or.inl rfl⟩
theorem fl_X1_17 : kFl RX1 17 2 1 := ⟨RX1, TX1, 5, tyX1, "GrantServer$Code", kc_2, by decide, Or.inl (tb5 (i := 216) rfl), Or.inl rfl⟩
theorem fp_X1_17 : kFp RX1 17 2 1 .int true := ⟨RX1, TX1, 5, tyX1, "GrantServer$Code", kc_2, by decide, Or.inl (tb5 (i := 216) rfl), Or.inl rfl, by decide +kernel, rfl, fun _ => ⟨rfl, (tb5 (i := 216) rfl)⟩⟩
theorem fl_X11_364 : kFl RX11 364 2 1 := ⟨RX1, TX1, 5, tyX1, "GrantServer$Code", kc_2, by decide, Or.inr ⟨"GrantServer", (tb5 (i := 217) rfl)⟩, Or.inl rfl⟩
theorem fl_X1_21 : kFl RX1 21 2 2 := ⟨RX1, TX1, 5, tyX1, "GrantServer$Code", kc_2, by decide, Or.inl (tb5 (i := 218) rfl), Or.inl rfl⟩
theorem fp_X1_21 : kFp RX1 21 2 2 .int true := ⟨RX1, TX1, 5, tyX1, "GrantServer$Code", kc_2, by decide, Or.inl (tb5 (i := 218) rfl), Or.inl rfl, by decide +kernel, rfl, fun _ => ⟨rfl, (tb5 (i := 218) rfl)⟩⟩
theorem fl_X11_365 : kFl RX11 365 2 2 := ⟨RX1, TX1, 5, tyX1, "GrantServer$Code", kc_2, by decide, Or.inr ⟨"GrantServer", (tb5 (i := 219) rfl)⟩, Or.inl rfl⟩
theorem fl_X1_24 : kFl RX1 24 2 3 := ⟨RX1, TX1, 5, tyX1, "GrantServer$Code", kc_2, by decide, Or.inl (tb5 (i := 220) rfl), Or.inl rfl⟩
theorem fp_X1_24 : kFp RX1 24 2 3 .int true := ⟨RX1, TX1, 5, tyX1, "GrantServer$Code", kc_2, by decide, Or.inl (tb5 (i := 220) rfl), Or.inl rfl, by decide +kernel, rfl, fun _ => ⟨rfl, (tb5 (i := 220) rfl)⟩⟩
theorem fl_X11_478 : kFl RX11 478 2 3 := ⟨RX1, TX1, 5, tyX1, "GrantServer$Code", kc_2, by decide, Or.inr ⟨"GrantServer", (tb5 (i := 221) rfl)⟩, Or.inl rfl⟩
theorem fl_X1_7 : kFl RX1 7 2 4 := ⟨RX1, TX1, 5, tyX1, "GrantServer$Code", kc_2, by decide, Or.inl (tb5 (i := 222) rfl), Or.inl rfl⟩
theorem fp_X1_7 : kFp RX1 7 2 4 (.object "GrantServer$Family") false := ⟨RX1, TX1, 5, tyX1, "GrantServer$Code", kc_2, by decide, Or.inl (tb5 (i := 222) rfl), Or.inl rfl, by decide +kernel, rfl, fun h => by cases h⟩
theorem fl_X11_366 : kFl RX11 366 2 4 := ⟨RX1, TX1, 5, tyX1, "GrantServer$Code", kc_2, by decide, Or.inr ⟨"GrantServer", (tb5 (i := 223) rfl)⟩, Or.inl rfl⟩
theorem fp_X11_366 : kFp RX11 366 2 4 (.object "GrantServer$Family") false := ⟨RX1, TX1, 5, tyX1, "GrantServer$Code", kc_2, by decide, Or.inr ⟨"GrantServer", (tb5 (i := 223) rfl)⟩, Or.inl rfl, by decide +kernel, rfl, fun h => by cases h⟩
theorem fl_X12_188 : kFl RX12 188 13 0 := ⟨RX12, TX12, 75, tyX12, "GrantServerModel", kc_13, by decide, Or.inl (tb6 (i := 45) rfl), Or.inl rfl⟩
theorem fp_X12_188 : kFp RX12 188 13 0 .int false := ⟨RX12, TX12, 75, tyX12, "GrantServerModel", kc_13, by decide, Or.inl (tb6 (i := 45) rfl), Or.inl rfl, by decide +kernel, rfl, fun h => by cases h⟩
theorem fl_X12_9 : kFl RX12 9 13 1 := ⟨RX12, TX12, 75, tyX12, "GrantServerModel", kc_13, by decide, Or.inl (tb6 (i := 46) rfl), Or.inl rfl⟩
theorem fp_X12_9 : kFp RX12 9 13 1 (.array .byte) true := ⟨RX12, TX12, 75, tyX12, "GrantServerModel", kc_13, by decide, Or.inl (tb6 (i := 46) rfl), Or.inl rfl, by decide +kernel, rfl, fun _ => ⟨rfl, (tb6 (i := 46) rfl)⟩⟩
theorem fl_X12_348 : kFl RX12 348 13 2 := ⟨RX12, TX12, 75, tyX12, "GrantServerModel", kc_13, by decide, Or.inl (tb6 (i := 47) rfl), Or.inl rfl⟩
theorem fp_X12_348 : kFp RX12 348 13 2 .int false := ⟨RX12, TX12, 75, tyX12, "GrantServerModel", kc_13, by decide, Or.inl (tb6 (i := 47) rfl), Or.inl rfl, by decide +kernel, rfl, fun h => by cases h⟩
theorem fl_X12_13 : kFl RX12 13 13 3 := ⟨RX12, TX12, 75, tyX12, "GrantServerModel", kc_13, by decide, Or.inl (tb6 (i := 48) rfl), Or.inl rfl⟩
theorem fp_X12_13 : kFp RX12 13 13 3 (.array .byte) true := ⟨RX12, TX12, 75, tyX12, "GrantServerModel", kc_13, by decide, Or.inl (tb6 (i := 48) rfl), Or.inl rfl, by decide +kernel, rfl, fun _ => ⟨rfl, (tb6 (i := 48) rfl)⟩⟩
theorem fl_X12_296 : kFl RX12 296 13 4 := ⟨RX12, TX12, 75, tyX12, "GrantServerModel", kc_13, by decide, Or.inl (tb6 (i := 49) rfl), Or.inl rfl⟩
theorem fp_X12_296 : kFp RX12 296 13 4 .int false := ⟨RX12, TX12, 75, tyX12, "GrantServerModel", kc_13, by decide, Or.inl (tb6 (i := 49) rfl), Or.inl rfl, by decide +kernel, rfl, fun h => by cases h⟩
theorem fl_X12_322 : kFl RX12 322 13 5 := ⟨RX12, TX12, 75, tyX12, "GrantServerModel", kc_13, by decide, Or.inl (tb6 (i := 50) rfl), Or.inl rfl⟩
theorem fp_X12_322 : kFp RX12 322 13 5 .int false := ⟨RX12, TX12, 75, tyX12, "GrantServerModel", kc_13, by decide, Or.inl (tb6 (i := 50) rfl), Or.inl rfl, by decide +kernel, rfl, fun h => by cases h⟩
theorem fl_X12_325 : kFl RX12 325 13 6 := ⟨RX12, TX12, 75, tyX12, "GrantServerModel", kc_13, by decide, Or.inl (tb6 (i := 51) rfl), Or.inl rfl⟩
theorem fp_X12_325 : kFp RX12 325 13 6 .int false := ⟨RX12, TX12, 75, tyX12, "GrantServerModel", kc_13, by decide, Or.inl (tb6 (i := 51) rfl), Or.inl rfl, by decide +kernel, rfl, fun h => by cases h⟩
theorem fl_X12_16 : kFl RX12 16 13 7 := ⟨RX12, TX12, 75, tyX12, "GrantServerModel", kc_13, by decide, Or.inl (tb6 (i := 52) rfl), Or.inl rfl⟩
theorem fp_X12_16 : kFp RX12 16 13 7 (.array .byte) true := ⟨RX12, TX12, 75, tyX12, "GrantServerModel", kc_13, by decide, Or.inl (tb6 (i := 52) rfl), Or.inl rfl, by decide +kernel, rfl, fun _ => ⟨rfl, (tb6 (i := 52) rfl)⟩⟩
theorem fl_X12_19 : kFl RX12 19 13 8 := ⟨RX12, TX12, 75, tyX12, "GrantServerModel", kc_13, by decide, Or.inl (tb6 (i := 53) rfl), Or.inl rfl⟩
theorem fp_X12_19 : kFp RX12 19 13 8 (.array .int) true := ⟨RX12, TX12, 75, tyX12, "GrantServerModel", kc_13, by decide, Or.inl (tb6 (i := 53) rfl), Or.inl rfl, by decide +kernel, rfl, fun _ => ⟨rfl, (tb6 (i := 53) rfl)⟩⟩
theorem fl_X12_268 : kFl RX12 268 13 9 := ⟨RX12, TX12, 75, tyX12, "GrantServerModel", kc_13, by decide, Or.inl (tb6 (i := 54) rfl), Or.inl rfl⟩
theorem fp_X12_268 : kFp RX12 268 13 9 .int false := ⟨RX12, TX12, 75, tyX12, "GrantServerModel", kc_13, by decide, Or.inl (tb6 (i := 54) rfl), Or.inl rfl, by decide +kernel, rfl, fun h => by cases h⟩
theorem fl_X12_23 : kFl RX12 23 13 10 := ⟨RX12, TX12, 75, tyX12, "GrantServerModel", kc_13, by decide, Or.inl (tb6 (i := 55) rfl), Or.inl rfl⟩
theorem fp_X12_23 : kFp RX12 23 13 10 (.array .byte) true := ⟨RX12, TX12, 75, tyX12, "GrantServerModel", kc_13, by decide, Or.inl (tb6 (i := 55) rfl), Or.inl rfl, by decide +kernel, rfl, fun _ => ⟨rfl, (tb6 (i := 55) rfl)⟩⟩
theorem fl_X12_26 : kFl RX12 26 13 11 := ⟨RX12, TX12, 75, tyX12, "GrantServerModel", kc_13, by decide, Or.inl (tb6 (i := 56) rfl), Or.inl rfl⟩
theorem fp_X12_26 : kFp RX12 26 13 11 (.array .int) true := ⟨RX12, TX12, 75, tyX12, "GrantServerModel", kc_13, by decide, Or.inl (tb6 (i := 56) rfl), Or.inl rfl, by decide +kernel, rfl, fun _ => ⟨rfl, (tb6 (i := 56) rfl)⟩⟩
theorem fl_X12_29 : kFl RX12 29 13 12 := ⟨RX12, TX12, 75, tyX12, "GrantServerModel", kc_13, by decide, Or.inl (tb6 (i := 57) rfl), Or.inl rfl⟩
theorem fp_X12_29 : kFp RX12 29 13 12 (.array .byte) true := ⟨RX12, TX12, 75, tyX12, "GrantServerModel", kc_13, by decide, Or.inl (tb6 (i := 57) rfl), Or.inl rfl, by decide +kernel, rfl, fun _ => ⟨rfl, (tb6 (i := 57) rfl)⟩⟩
theorem fl_X12_32 : kFl RX12 32 13 13 := ⟨RX12, TX12, 75, tyX12, "GrantServerModel", kc_13, by decide, Or.inl (tb6 (i := 58) rfl), Or.inl rfl⟩
theorem fp_X12_32 : kFp RX12 32 13 13 (.array .int) true := ⟨RX12, TX12, 75, tyX12, "GrantServerModel", kc_13, by decide, Or.inl (tb6 (i := 58) rfl), Or.inl rfl, by decide +kernel, rfl, fun _ => ⟨rfl, (tb6 (i := 58) rfl)⟩⟩
theorem fl_X12_35 : kFl RX12 35 13 14 := ⟨RX12, TX12, 75, tyX12, "GrantServerModel", kc_13, by decide, Or.inl (tb6 (i := 59) rfl), Or.inl rfl⟩
theorem fp_X12_35 : kFp RX12 35 13 14 (.array .boolean) true := ⟨RX12, TX12, 75, tyX12, "GrantServerModel", kc_13, by decide, Or.inl (tb6 (i := 59) rfl), Or.inl rfl, by decide +kernel, rfl, fun _ => ⟨rfl, (tb6 (i := 59) rfl)⟩⟩
theorem fl_X12_39 : kFl RX12 39 13 15 := ⟨RX12, TX12, 75, tyX12, "GrantServerModel", kc_13, by decide, Or.inl (tb6 (i := 60) rfl), Or.inl rfl⟩
theorem fp_X12_39 : kFp RX12 39 13 15 (.array .int) true := ⟨RX12, TX12, 75, tyX12, "GrantServerModel", kc_13, by decide, Or.inl (tb6 (i := 60) rfl), Or.inl rfl, by decide +kernel, rfl, fun _ => ⟨rfl, (tb6 (i := 60) rfl)⟩⟩
theorem fl_X12_42 : kFl RX12 42 13 16 := ⟨RX12, TX12, 75, tyX12, "GrantServerModel", kc_13, by decide, Or.inl (tb6 (i := 61) rfl), Or.inl rfl⟩
theorem fp_X12_42 : kFp RX12 42 13 16 (.array .boolean) true := ⟨RX12, TX12, 75, tyX12, "GrantServerModel", kc_13, by decide, Or.inl (tb6 (i := 61) rfl), Or.inl rfl, by decide +kernel, rfl, fun _ => ⟨rfl, (tb6 (i := 61) rfl)⟩⟩
theorem fl_X12_45 : kFl RX12 45 13 17 := ⟨RX12, TX12, 75, tyX12, "GrantServerModel", kc_13, by decide, Or.inl (tb6 (i := 62) rfl), Or.inl rfl⟩
theorem fp_X12_45 : kFp RX12 45 13 17 (.array .byte) true := ⟨RX12, TX12, 75, tyX12, "GrantServerModel", kc_13, by decide, Or.inl (tb6 (i := 62) rfl), Or.inl rfl, by decide +kernel, rfl, fun _ => ⟨rfl, (tb6 (i := 62) rfl)⟩⟩
theorem fl_X12_48 : kFl RX12 48 13 18 := ⟨RX12, TX12, 75, tyX12, "GrantServerModel", kc_13, by decide, Or.inl (tb6 (i := 63) rfl), Or.inl rfl⟩
theorem fp_X12_48 : kFp RX12 48 13 18 (.array .int) true := ⟨RX12, TX12, 75, tyX12, "GrantServerModel", kc_13, by decide, Or.inl (tb6 (i := 63) rfl), Or.inl rfl, by decide +kernel, rfl, fun _ => ⟨rfl, (tb6 (i := 63) rfl)⟩⟩
theorem fl_X12_51 : kFl RX12 51 13 19 := ⟨RX12, TX12, 75, tyX12, "GrantServerModel", kc_13, by decide, Or.inl (tb6 (i := 64) rfl), Or.inl rfl⟩
theorem fp_X12_51 : kFp RX12 51 13 19 (.array .int) true := ⟨RX12, TX12, 75, tyX12, "GrantServerModel", kc_13, by decide, Or.inl (tb6 (i := 64) rfl), Or.inl rfl, by decide +kernel, rfl, fun _ => ⟨rfl, (tb6 (i := 64) rfl)⟩⟩
theorem fl_X12_257 : kFl RX12 257 13 20 := ⟨RX12, TX12, 75, tyX12, "GrantServerModel", kc_13, by decide, Or.inl (tb6 (i := 65) rfl), Or.inl rfl⟩
theorem fp_X12_257 : kFp RX12 257 13 20 .int false := ⟨RX12, TX12, 75, tyX12, "GrantServerModel", kc_13, by decide, Or.inl (tb6 (i := 65) rfl), Or.inl rfl, by decide +kernel, rfl, fun h => by cases h⟩
theorem fl_X12_54 : kFl RX12 54 13 21 := ⟨RX12, TX12, 75, tyX12, "GrantServerModel", kc_13, by decide, Or.inl (tb6 (i := 66) rfl), Or.inl rfl⟩
theorem fp_X12_54 : kFp RX12 54 13 21 (.array .int) true := ⟨RX12, TX12, 75, tyX12, "GrantServerModel", kc_13, by decide, Or.inl (tb6 (i := 66) rfl), Or.inl rfl, by decide +kernel, rfl, fun _ => ⟨rfl, (tb6 (i := 66) rfl)⟩⟩
theorem fl_X12_278 : kFl RX12 278 13 22 := ⟨RX12, TX12, 75, tyX12, "GrantServerModel", kc_13, by decide, Or.inl (tb6 (i := 67) rfl), Or.inl rfl⟩
theorem fp_X12_278 : kFp RX12 278 13 22 .int false := ⟨RX12, TX12, 75, tyX12, "GrantServerModel", kc_13, by decide, Or.inl (tb6 (i := 67) rfl), Or.inl rfl, by decide +kernel, rfl, fun h => by cases h⟩
theorem fl_X12_57 : kFl RX12 57 13 23 := ⟨RX12, TX12, 75, tyX12, "GrantServerModel", kc_13, by decide, Or.inl (tb6 (i := 68) rfl), Or.inl rfl⟩
theorem fp_X12_57 : kFp RX12 57 13 23 (.array .int) true := ⟨RX12, TX12, 75, tyX12, "GrantServerModel", kc_13, by decide, Or.inl (tb6 (i := 68) rfl), Or.inl rfl, by decide +kernel, rfl, fun _ => ⟨rfl, (tb6 (i := 68) rfl)⟩⟩
theorem fl_X12_271 : kFl RX12 271 13 24 := ⟨RX12, TX12, 75, tyX12, "GrantServerModel", kc_13, by decide, Or.inl (tb6 (i := 69) rfl), Or.inl rfl⟩
theorem fp_X12_271 : kFp RX12 271 13 24 .int false := ⟨RX12, TX12, 75, tyX12, "GrantServerModel", kc_13, by decide, Or.inl (tb6 (i := 69) rfl), Or.inl rfl, by decide +kernel, rfl, fun h => by cases h⟩
theorem fl_X12_366 : kFl RX12 366 13 25 := ⟨RX12, TX12, 75, tyX12, "GrantServerModel", kc_13, by decide, Or.inl (tb6 (i := 70) rfl), Or.inl rfl⟩
theorem fp_X12_366 : kFp RX12 366 13 25 .int false := ⟨RX12, TX12, 75, tyX12, "GrantServerModel", kc_13, by decide, Or.inl (tb6 (i := 70) rfl), Or.inl rfl, by decide +kernel, rfl, fun h => by cases h⟩
theorem fl_X12_60 : kFl RX12 60 13 26 := ⟨RX12, TX12, 75, tyX12, "GrantServerModel", kc_13, by decide, Or.inl (tb6 (i := 71) rfl), Or.inl rfl⟩
theorem fp_X12_60 : kFp RX12 60 13 26 .int false := ⟨RX12, TX12, 75, tyX12, "GrantServerModel", kc_13, by decide, Or.inl (tb6 (i := 71) rfl), Or.inl rfl, by decide +kernel, rfl, fun h => by cases h⟩
theorem fl_X12_64 : kFl RX12 64 13 27 := ⟨RX12, TX12, 75, tyX12, "GrantServerModel", kc_13, by decide, Or.inl (tb6 (i := 72) rfl), Or.inl rfl⟩
theorem fp_X12_64 : kFp RX12 64 13 27 .int false := ⟨RX12, TX12, 75, tyX12, "GrantServerModel", kc_13, by decide, Or.inl (tb6 (i := 72) rfl), Or.inl rfl, by decide +kernel, rfl, fun h => by cases h⟩
theorem fl_X12_67 : kFl RX12 67 13 28 := ⟨RX12, TX12, 75, tyX12, "GrantServerModel", kc_13, by decide, Or.inl (tb6 (i := 73) rfl), Or.inl rfl⟩
theorem fp_X12_67 : kFp RX12 67 13 28 .int false := ⟨RX12, TX12, 75, tyX12, "GrantServerModel", kc_13, by decide, Or.inl (tb6 (i := 73) rfl), Or.inl rfl, by decide +kernel, rfl, fun h => by cases h⟩
theorem fl_X12_70 : kFl RX12 70 13 29 := ⟨RX12, TX12, 75, tyX12, "GrantServerModel", kc_13, by decide, Or.inl (tb6 (i := 74) rfl), Or.inl rfl⟩
theorem fp_X12_70 : kFp RX12 70 13 29 (.array .int) true := ⟨RX12, TX12, 75, tyX12, "GrantServerModel", kc_13, by decide, Or.inl (tb6 (i := 74) rfl), Or.inl rfl, by decide +kernel, rfl, fun _ => ⟨rfl, (tb6 (i := 74) rfl)⟩⟩
theorem fl_X12_73 : kFl RX12 73 13 30 := ⟨RX12, TX12, 75, tyX12, "GrantServerModel", kc_13, by decide, Or.inl (tb6 (i := 75) rfl), Or.inl rfl⟩
theorem fp_X12_73 : kFp RX12 73 13 30 (.array .int) true := ⟨RX12, TX12, 75, tyX12, "GrantServerModel", kc_13, by decide, Or.inl (tb6 (i := 75) rfl), Or.inl rfl, by decide +kernel, rfl, fun _ => ⟨rfl, (tb6 (i := 75) rfl)⟩⟩
theorem fl_X12_76 : kFl RX12 76 13 31 := ⟨RX12, TX12, 75, tyX12, "GrantServerModel", kc_13, by decide, Or.inl (tb6 (i := 76) rfl), Or.inl rfl⟩
theorem fp_X12_76 : kFp RX12 76 13 31 (.array .int) true := ⟨RX12, TX12, 75, tyX12, "GrantServerModel", kc_13, by decide, Or.inl (tb6 (i := 76) rfl), Or.inl rfl, by decide +kernel, rfl, fun _ => ⟨rfl, (tb6 (i := 76) rfl)⟩⟩
theorem fl_X12_79 : kFl RX12 79 13 32 := ⟨RX12, TX12, 75, tyX12, "GrantServerModel", kc_13, by decide, Or.inl (tb6 (i := 77) rfl), Or.inl rfl⟩
theorem fp_X12_79 : kFp RX12 79 13 32 (.array .boolean) true := ⟨RX12, TX12, 75, tyX12, "GrantServerModel", kc_13, by decide, Or.inl (tb6 (i := 77) rfl), Or.inl rfl, by decide +kernel, rfl, fun _ => ⟨rfl, (tb6 (i := 77) rfl)⟩⟩
theorem fl_X12_82 : kFl RX12 82 13 33 := ⟨RX12, TX12, 75, tyX12, "GrantServerModel", kc_13, by decide, Or.inl (tb6 (i := 78) rfl), Or.inl rfl⟩
theorem fp_X12_82 : kFp RX12 82 13 33 (.array .byte) true := ⟨RX12, TX12, 75, tyX12, "GrantServerModel", kc_13, by decide, Or.inl (tb6 (i := 78) rfl), Or.inl rfl, by decide +kernel, rfl, fun _ => ⟨rfl, (tb6 (i := 78) rfl)⟩⟩
theorem fl_X12_86 : kFl RX12 86 13 34 := ⟨RX12, TX12, 75, tyX12, "GrantServerModel", kc_13, by decide, Or.inl (tb6 (i := 79) rfl), Or.inl rfl⟩
theorem fp_X12_86 : kFp RX12 86 13 34 (.array .byte) true := ⟨RX12, TX12, 75, tyX12, "GrantServerModel", kc_13, by decide, Or.inl (tb6 (i := 79) rfl), Or.inl rfl, by decide +kernel, rfl, fun _ => ⟨rfl, (tb6 (i := 79) rfl)⟩⟩
theorem fl_X12_89 : kFl RX12 89 13 35 := ⟨RX12, TX12, 75, tyX12, "GrantServerModel", kc_13, by decide, Or.inl (tb6 (i := 80) rfl), Or.inl rfl⟩
theorem fp_X12_89 : kFp RX12 89 13 35 (.array .int) true := ⟨RX12, TX12, 75, tyX12, "GrantServerModel", kc_13, by decide, Or.inl (tb6 (i := 80) rfl), Or.inl rfl, by decide +kernel, rfl, fun _ => ⟨rfl, (tb6 (i := 80) rfl)⟩⟩
theorem fl_X12_92 : kFl RX12 92 13 36 := ⟨RX12, TX12, 75, tyX12, "GrantServerModel", kc_13, by decide, Or.inl (tb6 (i := 81) rfl), Or.inl rfl⟩
theorem fp_X12_92 : kFp RX12 92 13 36 (.array .int) true := ⟨RX12, TX12, 75, tyX12, "GrantServerModel", kc_13, by decide, Or.inl (tb6 (i := 81) rfl), Or.inl rfl, by decide +kernel, rfl, fun _ => ⟨rfl, (tb6 (i := 81) rfl)⟩⟩
theorem fl_X12_394 : kFl RX12 394 13 37 := ⟨RX12, TX12, 75, tyX12, "GrantServerModel", kc_13, by decide, Or.inl (tb6 (i := 82) rfl), Or.inl rfl⟩
theorem fp_X12_394 : kFp RX12 394 13 37 .int false := ⟨RX12, TX12, 75, tyX12, "GrantServerModel", kc_13, by decide, Or.inl (tb6 (i := 82) rfl), Or.inl rfl, by decide +kernel, rfl, fun h => by cases h⟩
theorem fl_X12_405 : kFl RX12 405 13 38 := ⟨RX12, TX12, 75, tyX12, "GrantServerModel", kc_13, by decide, Or.inl (tb6 (i := 83) rfl), Or.inl rfl⟩
theorem fp_X12_405 : kFp RX12 405 13 38 .int false := ⟨RX12, TX12, 75, tyX12, "GrantServerModel", kc_13, by decide, Or.inl (tb6 (i := 83) rfl), Or.inl rfl, by decide +kernel, rfl, fun h => by cases h⟩
theorem fl_X12_95 : kFl RX12 95 13 39 := ⟨RX12, TX12, 75, tyX12, "GrantServerModel", kc_13, by decide, Or.inl (tb6 (i := 84) rfl), Or.inl rfl⟩
theorem fp_X12_95 : kFp RX12 95 13 39 (.array .int) true := ⟨RX12, TX12, 75, tyX12, "GrantServerModel", kc_13, by decide, Or.inl (tb6 (i := 84) rfl), Or.inl rfl, by decide +kernel, rfl, fun _ => ⟨rfl, (tb6 (i := 84) rfl)⟩⟩
theorem fl_X12_98 : kFl RX12 98 13 40 := ⟨RX12, TX12, 75, tyX12, "GrantServerModel", kc_13, by decide, Or.inl (tb6 (i := 85) rfl), Or.inl rfl⟩
theorem fp_X12_98 : kFp RX12 98 13 40 (.array .int) true := ⟨RX12, TX12, 75, tyX12, "GrantServerModel", kc_13, by decide, Or.inl (tb6 (i := 85) rfl), Or.inl rfl, by decide +kernel, rfl, fun _ => ⟨rfl, (tb6 (i := 85) rfl)⟩⟩
theorem fl_X12_101 : kFl RX12 101 13 41 := ⟨RX12, TX12, 75, tyX12, "GrantServerModel", kc_13, by decide, Or.inl (tb6 (i := 86) rfl), Or.inl rfl⟩
theorem fp_X12_101 : kFp RX12 101 13 41 (.array .int) true := ⟨RX12, TX12, 75, tyX12, "GrantServerModel", kc_13, by decide, Or.inl (tb6 (i := 86) rfl), Or.inl rfl, by decide +kernel, rfl, fun _ => ⟨rfl, (tb6 (i := 86) rfl)⟩⟩
theorem fl_X12_104 : kFl RX12 104 13 42 := ⟨RX12, TX12, 75, tyX12, "GrantServerModel", kc_13, by decide, Or.inl (tb6 (i := 87) rfl), Or.inl rfl⟩
theorem fp_X12_104 : kFp RX12 104 13 42 (.array .int) true := ⟨RX12, TX12, 75, tyX12, "GrantServerModel", kc_13, by decide, Or.inl (tb6 (i := 87) rfl), Or.inl rfl, by decide +kernel, rfl, fun _ => ⟨rfl, (tb6 (i := 87) rfl)⟩⟩
theorem fl_X12_107 : kFl RX12 107 13 43 := ⟨RX12, TX12, 75, tyX12, "GrantServerModel", kc_13, by decide, Or.inl (tb6 (i := 88) rfl), Or.inl rfl⟩
theorem fp_X12_107 : kFp RX12 107 13 43 (.array .int) true := ⟨RX12, TX12, 75, tyX12, "GrantServerModel", kc_13, by decide, Or.inl (tb6 (i := 88) rfl), Or.inl rfl, by decide +kernel, rfl, fun _ => ⟨rfl, (tb6 (i := 88) rfl)⟩⟩
theorem fl_X12_110 : kFl RX12 110 13 44 := ⟨RX12, TX12, 75, tyX12, "GrantServerModel", kc_13, by decide, Or.inl (tb6 (i := 89) rfl), Or.inl rfl⟩
theorem fp_X12_110 : kFp RX12 110 13 44 (.array .int) true := ⟨RX12, TX12, 75, tyX12, "GrantServerModel", kc_13, by decide, Or.inl (tb6 (i := 89) rfl), Or.inl rfl, by decide +kernel, rfl, fun _ => ⟨rfl, (tb6 (i := 89) rfl)⟩⟩
theorem fl_X12_408 : kFl RX12 408 13 45 := ⟨RX12, TX12, 75, tyX12, "GrantServerModel", kc_13, by decide, Or.inl (tb6 (i := 90) rfl), Or.inl rfl⟩
theorem fp_X12_408 : kFp RX12 408 13 45 .int false := ⟨RX12, TX12, 75, tyX12, "GrantServerModel", kc_13, by decide, Or.inl (tb6 (i := 90) rfl), Or.inl rfl, by decide +kernel, rfl, fun h => by cases h⟩
theorem fl_X12_113 : kFl RX12 113 13 46 := ⟨RX12, TX12, 75, tyX12, "GrantServerModel", kc_13, by decide, Or.inl (tb6 (i := 91) rfl), Or.inl rfl⟩
theorem fp_X12_113 : kFp RX12 113 13 46 (.array .int) true := ⟨RX12, TX12, 75, tyX12, "GrantServerModel", kc_13, by decide, Or.inl (tb6 (i := 91) rfl), Or.inl rfl, by decide +kernel, rfl, fun _ => ⟨rfl, (tb6 (i := 91) rfl)⟩⟩
theorem fl_X12_116 : kFl RX12 116 13 47 := ⟨RX12, TX12, 75, tyX12, "GrantServerModel", kc_13, by decide, Or.inl (tb6 (i := 92) rfl), Or.inl rfl⟩
theorem fp_X12_116 : kFp RX12 116 13 47 (.array .int) true := ⟨RX12, TX12, 75, tyX12, "GrantServerModel", kc_13, by decide, Or.inl (tb6 (i := 92) rfl), Or.inl rfl, by decide +kernel, rfl, fun _ => ⟨rfl, (tb6 (i := 92) rfl)⟩⟩
theorem fl_X12_119 : kFl RX12 119 13 48 := ⟨RX12, TX12, 75, tyX12, "GrantServerModel", kc_13, by decide, Or.inl (tb6 (i := 93) rfl), Or.inl rfl⟩
theorem fp_X12_119 : kFp RX12 119 13 48 (.array .int) true := ⟨RX12, TX12, 75, tyX12, "GrantServerModel", kc_13, by decide, Or.inl (tb6 (i := 93) rfl), Or.inl rfl, by decide +kernel, rfl, fun _ => ⟨rfl, (tb6 (i := 93) rfl)⟩⟩
theorem fl_X12_122 : kFl RX12 122 13 49 := ⟨RX12, TX12, 75, tyX12, "GrantServerModel", kc_13, by decide, Or.inl (tb6 (i := 94) rfl), Or.inl rfl⟩
theorem fp_X12_122 : kFp RX12 122 13 49 (.array .int) true := ⟨RX12, TX12, 75, tyX12, "GrantServerModel", kc_13, by decide, Or.inl (tb6 (i := 94) rfl), Or.inl rfl, by decide +kernel, rfl, fun _ => ⟨rfl, (tb6 (i := 94) rfl)⟩⟩
theorem fl_X12_125 : kFl RX12 125 13 50 := ⟨RX12, TX12, 75, tyX12, "GrantServerModel", kc_13, by decide, Or.inl (tb6 (i := 95) rfl), Or.inl rfl⟩
theorem fp_X12_125 : kFp RX12 125 13 50 (.array .boolean) true := ⟨RX12, TX12, 75, tyX12, "GrantServerModel", kc_13, by decide, Or.inl (tb6 (i := 95) rfl), Or.inl rfl, by decide +kernel, rfl, fun _ => ⟨rfl, (tb6 (i := 95) rfl)⟩⟩
theorem fl_X12_455 : kFl RX12 455 13 51 := ⟨RX12, TX12, 75, tyX12, "GrantServerModel", kc_13, by decide, Or.inl (tb6 (i := 96) rfl), Or.inl rfl⟩
theorem fp_X12_455 : kFp RX12 455 13 51 .int false := ⟨RX12, TX12, 75, tyX12, "GrantServerModel", kc_13, by decide, Or.inl (tb6 (i := 96) rfl), Or.inl rfl, by decide +kernel, rfl, fun h => by cases h⟩
theorem fl_X12_128 : kFl RX12 128 13 52 := ⟨RX12, TX12, 75, tyX12, "GrantServerModel", kc_13, by decide, Or.inl (tb6 (i := 97) rfl), Or.inl rfl⟩
theorem fp_X12_128 : kFp RX12 128 13 52 (.array .int) true := ⟨RX12, TX12, 75, tyX12, "GrantServerModel", kc_13, by decide, Or.inl (tb6 (i := 97) rfl), Or.inl rfl, by decide +kernel, rfl, fun _ => ⟨rfl, (tb6 (i := 97) rfl)⟩⟩
theorem fl_X12_131 : kFl RX12 131 13 53 := ⟨RX12, TX12, 75, tyX12, "GrantServerModel", kc_13, by decide, Or.inl (tb6 (i := 98) rfl), Or.inl rfl⟩
theorem fp_X12_131 : kFp RX12 131 13 53 (.array .int) true := ⟨RX12, TX12, 75, tyX12, "GrantServerModel", kc_13, by decide, Or.inl (tb6 (i := 98) rfl), Or.inl rfl, by decide +kernel, rfl, fun _ => ⟨rfl, (tb6 (i := 98) rfl)⟩⟩
theorem fl_X12_134 : kFl RX12 134 13 54 := ⟨RX12, TX12, 75, tyX12, "GrantServerModel", kc_13, by decide, Or.inl (tb6 (i := 99) rfl), Or.inl rfl⟩
theorem fp_X12_134 : kFp RX12 134 13 54 (.array .int) true := ⟨RX12, TX12, 75, tyX12, "GrantServerModel", kc_13, by decide, Or.inl (tb6 (i := 99) rfl), Or.inl rfl, by decide +kernel, rfl, fun _ => ⟨rfl, (tb6 (i := 99) rfl)⟩⟩
theorem fl_X12_137 : kFl RX12 137 13 55 := ⟨RX12, TX12, 75, tyX12, "GrantServerModel", kc_13, by decide, Or.inl (tb6 (i := 100) rfl), Or.inl rfl⟩
theorem fp_X12_137 : kFp RX12 137 13 55 (.array .int) true := ⟨RX12, TX12, 75, tyX12, "GrantServerModel", kc_13, by decide, Or.inl (tb6 (i := 100) rfl), Or.inl rfl, by decide +kernel, rfl, fun _ => ⟨rfl, (tb6 (i := 100) rfl)⟩⟩
theorem fl_X12_140 : kFl RX12 140 13 56 := ⟨RX12, TX12, 75, tyX12, "GrantServerModel", kc_13, by decide, Or.inl (tb6 (i := 101) rfl), Or.inl rfl⟩
theorem fp_X12_140 : kFp RX12 140 13 56 (.array .boolean) true := ⟨RX12, TX12, 75, tyX12, "GrantServerModel", kc_13, by decide, Or.inl (tb6 (i := 101) rfl), Or.inl rfl, by decide +kernel, rfl, fun _ => ⟨rfl, (tb6 (i := 101) rfl)⟩⟩
theorem fl_X12_462 : kFl RX12 462 13 57 := ⟨RX12, TX12, 75, tyX12, "GrantServerModel", kc_13, by decide, Or.inl (tb6 (i := 102) rfl), Or.inl rfl⟩
theorem fp_X12_462 : kFp RX12 462 13 57 .int false := ⟨RX12, TX12, 75, tyX12, "GrantServerModel", kc_13, by decide, Or.inl (tb6 (i := 102) rfl), Or.inl rfl, by decide +kernel, rfl, fun h => by cases h⟩
theorem fl_X12_143 : kFl RX12 143 13 58 := ⟨RX12, TX12, 75, tyX12, "GrantServerModel", kc_13, by decide, Or.inl (tb6 (i := 103) rfl), Or.inl rfl⟩
theorem fp_X12_143 : kFp RX12 143 13 58 (.array .int) true := ⟨RX12, TX12, 75, tyX12, "GrantServerModel", kc_13, by decide, Or.inl (tb6 (i := 103) rfl), Or.inl rfl, by decide +kernel, rfl, fun _ => ⟨rfl, (tb6 (i := 103) rfl)⟩⟩
theorem fl_X12_146 : kFl RX12 146 13 59 := ⟨RX12, TX12, 75, tyX12, "GrantServerModel", kc_13, by decide, Or.inl (tb6 (i := 104) rfl), Or.inl rfl⟩
theorem fp_X12_146 : kFp RX12 146 13 59 (.array .int) true := ⟨RX12, TX12, 75, tyX12, "GrantServerModel", kc_13, by decide, Or.inl (tb6 (i := 104) rfl), Or.inl rfl, by decide +kernel, rfl, fun _ => ⟨rfl, (tb6 (i := 104) rfl)⟩⟩
theorem fl_X12_149 : kFl RX12 149 13 60 := ⟨RX12, TX12, 75, tyX12, "GrantServerModel", kc_13, by decide, Or.inl (tb6 (i := 105) rfl), Or.inl rfl⟩
theorem fp_X12_149 : kFp RX12 149 13 60 (.array .int) true := ⟨RX12, TX12, 75, tyX12, "GrantServerModel", kc_13, by decide, Or.inl (tb6 (i := 105) rfl), Or.inl rfl, by decide +kernel, rfl, fun _ => ⟨rfl, (tb6 (i := 105) rfl)⟩⟩
theorem fl_X12_152 : kFl RX12 152 13 61 := ⟨RX12, TX12, 75, tyX12, "GrantServerModel", kc_13, by decide, Or.inl (tb6 (i := 106) rfl), Or.inl rfl⟩
theorem fp_X12_152 : kFp RX12 152 13 61 (.array .boolean) true := ⟨RX12, TX12, 75, tyX12, "GrantServerModel", kc_13, by decide, Or.inl (tb6 (i := 106) rfl), Or.inl rfl, by decide +kernel, rfl, fun _ => ⟨rfl, (tb6 (i := 106) rfl)⟩⟩
theorem fl_X12_465 : kFl RX12 465 13 62 := ⟨RX12, TX12, 75, tyX12, "GrantServerModel", kc_13, by decide, Or.inl (tb6 (i := 107) rfl), Or.inl rfl⟩
theorem fp_X12_465 : kFp RX12 465 13 62 .int false := ⟨RX12, TX12, 75, tyX12, "GrantServerModel", kc_13, by decide, Or.inl (tb6 (i := 107) rfl), Or.inl rfl, by decide +kernel, rfl, fun h => by cases h⟩
theorem fl_X12_155 : kFl RX12 155 13 63 := ⟨RX12, TX12, 75, tyX12, "GrantServerModel", kc_13, by decide, Or.inl (tb6 (i := 108) rfl), Or.inl rfl⟩
theorem fp_X12_155 : kFp RX12 155 13 63 (.array .byte) true := ⟨RX12, TX12, 75, tyX12, "GrantServerModel", kc_13, by decide, Or.inl (tb6 (i := 108) rfl), Or.inl rfl, by decide +kernel, rfl, fun _ => ⟨rfl, (tb6 (i := 108) rfl)⟩⟩
theorem fl_X12_158 : kFl RX12 158 13 64 := ⟨RX12, TX12, 75, tyX12, "GrantServerModel", kc_13, by decide, Or.inl (tb6 (i := 109) rfl), Or.inl rfl⟩
theorem fp_X12_158 : kFp RX12 158 13 64 (.array .int) true := ⟨RX12, TX12, 75, tyX12, "GrantServerModel", kc_13, by decide, Or.inl (tb6 (i := 109) rfl), Or.inl rfl, by decide +kernel, rfl, fun _ => ⟨rfl, (tb6 (i := 109) rfl)⟩⟩
theorem fl_X12_161 : kFl RX12 161 13 65 := ⟨RX12, TX12, 75, tyX12, "GrantServerModel", kc_13, by decide, Or.inl (tb6 (i := 110) rfl), Or.inl rfl⟩
theorem fp_X12_161 : kFp RX12 161 13 65 (.array .int) true := ⟨RX12, TX12, 75, tyX12, "GrantServerModel", kc_13, by decide, Or.inl (tb6 (i := 110) rfl), Or.inl rfl, by decide +kernel, rfl, fun _ => ⟨rfl, (tb6 (i := 110) rfl)⟩⟩
theorem fl_X12_164 : kFl RX12 164 13 66 := ⟨RX12, TX12, 75, tyX12, "GrantServerModel", kc_13, by decide, Or.inl (tb6 (i := 111) rfl), Or.inl rfl⟩
theorem fp_X12_164 : kFp RX12 164 13 66 (.array .byte) true := ⟨RX12, TX12, 75, tyX12, "GrantServerModel", kc_13, by decide, Or.inl (tb6 (i := 111) rfl), Or.inl rfl, by decide +kernel, rfl, fun _ => ⟨rfl, (tb6 (i := 111) rfl)⟩⟩
theorem fl_X12_239 : kFl RX12 239 13 67 := ⟨RX12, TX12, 75, tyX12, "GrantServerModel", kc_13, by decide, Or.inl (tb6 (i := 112) rfl), Or.inl rfl⟩
theorem fp_X12_239 : kFp RX12 239 13 67 .int false := ⟨RX12, TX12, 75, tyX12, "GrantServerModel", kc_13, by decide, Or.inl (tb6 (i := 112) rfl), Or.inl rfl, by decide +kernel, rfl, fun h => by cases h⟩
theorem fl_X12_167 : kFl RX12 167 13 68 := ⟨RX12, TX12, 75, tyX12, "GrantServerModel", kc_13, by decide, Or.inl (tb6 (i := 113) rfl), Or.inl rfl⟩
theorem fp_X12_167 : kFp RX12 167 13 68 (.array .byte) true := ⟨RX12, TX12, 75, tyX12, "GrantServerModel", kc_13, by decide, Or.inl (tb6 (i := 113) rfl), Or.inl rfl, by decide +kernel, rfl, fun _ => ⟨rfl, (tb6 (i := 113) rfl)⟩⟩
theorem fl_X12_170 : kFl RX12 170 13 69 := ⟨RX12, TX12, 75, tyX12, "GrantServerModel", kc_13, by decide, Or.inl (tb6 (i := 114) rfl), Or.inl rfl⟩
theorem fp_X12_170 : kFp RX12 170 13 69 (.array .byte) true := ⟨RX12, TX12, 75, tyX12, "GrantServerModel", kc_13, by decide, Or.inl (tb6 (i := 114) rfl), Or.inl rfl, by decide +kernel, rfl, fun _ => ⟨rfl, (tb6 (i := 114) rfl)⟩⟩
theorem fl_X12_173 : kFl RX12 173 13 70 := ⟨RX12, TX12, 75, tyX12, "GrantServerModel", kc_13, by decide, Or.inl (tb6 (i := 115) rfl), Or.inl rfl⟩
theorem fp_X12_173 : kFp RX12 173 13 70 (.array .int) true := ⟨RX12, TX12, 75, tyX12, "GrantServerModel", kc_13, by decide, Or.inl (tb6 (i := 115) rfl), Or.inl rfl, by decide +kernel, rfl, fun _ => ⟨rfl, (tb6 (i := 115) rfl)⟩⟩
theorem fl_X12_176 : kFl RX12 176 13 71 := ⟨RX12, TX12, 75, tyX12, "GrantServerModel", kc_13, by decide, Or.inl (tb6 (i := 116) rfl), Or.inl rfl⟩
theorem fp_X12_176 : kFp RX12 176 13 71 (.array .byte) true := ⟨RX12, TX12, 75, tyX12, "GrantServerModel", kc_13, by decide, Or.inl (tb6 (i := 116) rfl), Or.inl rfl, by decide +kernel, rfl, fun _ => ⟨rfl, (tb6 (i := 116) rfl)⟩⟩
theorem fl_X12_179 : kFl RX12 179 13 72 := ⟨RX12, TX12, 75, tyX12, "GrantServerModel", kc_13, by decide, Or.inl (tb6 (i := 117) rfl), Or.inl rfl⟩
theorem fp_X12_179 : kFp RX12 179 13 72 (.array .int) true := ⟨RX12, TX12, 75, tyX12, "GrantServerModel", kc_13, by decide, Or.inl (tb6 (i := 117) rfl), Or.inl rfl, by decide +kernel, rfl, fun _ => ⟨rfl, (tb6 (i := 117) rfl)⟩⟩
theorem fl_X12_182 : kFl RX12 182 13 73 := ⟨RX12, TX12, 75, tyX12, "GrantServerModel", kc_13, by decide, Or.inl (tb6 (i := 118) rfl), Or.inl rfl⟩
theorem fp_X12_182 : kFp RX12 182 13 73 (.array .byte) true := ⟨RX12, TX12, 75, tyX12, "GrantServerModel", kc_13, by decide, Or.inl (tb6 (i := 118) rfl), Or.inl rfl, by decide +kernel, rfl, fun _ => ⟨rfl, (tb6 (i := 118) rfl)⟩⟩
theorem fl_X12_185 : kFl RX12 185 13 74 := ⟨RX12, TX12, 75, tyX12, "GrantServerModel", kc_13, by decide, Or.inl (tb6 (i := 119) rfl), Or.inl rfl⟩
theorem fp_X12_185 : kFp RX12 185 13 74 (.array .int) true := ⟨RX12, TX12, 75, tyX12, "GrantServerModel", kc_13, by decide, Or.inl (tb6 (i := 119) rfl), Or.inl rfl, by decide +kernel, rfl, fun _ => ⟨rfl, (tb6 (i := 119) rfl)⟩⟩
theorem nw_L_8 : kNw RL 8 12 18 [.null, .null, .null, .null, .null, .null, .null, .null, .null, .null, .null, .null, .int 0, .int 0, .int 0, .int 0, .int 0, .int 0] := ⟨RX11, TX11, tyX11, kc_12, (tb1 (i := 34) rfl), (tb1 (i := 35) rfl), (tb1 (i := 1) rfl), by decide +kernel⟩
theorem nw_X11_7 : kNw RX11 7 10 3 [.null, .int 0, .int 0] := ⟨RX9, TX9, tyX9, kc_10, (tb1 (i := 42) rfl), (tb1 (i := 43) rfl), (tb1 (i := 2) rfl), by decide +kernel⟩
theorem nw_X11_21 : kNw RX11 21 5 16 [.null, .null, .null, .null, .null, .null, .null, .null, .null, .null, .null, .null, .null, .null, .null, .null] := ⟨RX4, TX4, tyX4, kc_5, (tb1 (i := 62) rfl), (tb1 (i := 63) rfl), (tb1 (i := 4) rfl), by decide +kernel⟩
theorem nw_X4_9 : kNw RX4 9 10 3 [.null, .int 0, .int 0] := ⟨RX9, TX9, tyX9, kc_10, (tb1 (i := 68) rfl), (tb1 (i := 43) rfl), (tb1 (i := 2) rfl), by decide +kernel⟩
theorem nw_X4_26 : kNw RX4 26 4 3 [.null, .null, .int 0] := ⟨RX3, TX3, tyX3, kc_4, (tb1 (i := 73) rfl), (tb1 (i := 74) rfl), (tb1 (i := 5) rfl), by decide +kernel⟩
theorem nw_X3_17 : kNw RX3 17 10 3 [.null, .int 0, .int 0] := ⟨RX9, TX9, tyX9, kc_10, (tb1 (i := 80) rfl), (tb1 (i := 43) rfl), (tb1 (i := 2) rfl), by decide +kernel⟩
theorem nw_X4_93 : kNw RX4 93 0 3 [.int 0, .null, .int 0] := ⟨RJx4a65c, TJx4a65c, tyJx4a65c, kc_0, (tb1 (i := 109) rfl), (tb1 (i := 110) rfl), (tb1 (i := 8) rfl), by decide +kernel⟩
theorem nw_X11_28 : kNw RX11 28 7 2 [.null, .null] := ⟨RX6, TX6, tyX6, kc_7, (tb2 (i := 21) rfl), (tb2 (i := 22) rfl), (tb1 (i := 12) rfl), by decide +kernel⟩
theorem nw_X6_9 : kNw RX6 9 0 3 [.int 0, .null, .int 0] := ⟨RJx4a65c, TJx4a65c, tyJx4a65c, kc_0, (tb2 (i := 27) rfl), (tb1 (i := 110) rfl), (tb1 (i := 8) rfl), by decide +kernel⟩
theorem nw_X11_35 : kNw RX11 35 9 3 [.null, .null, .null] := ⟨RX8, TX8, tyX8, kc_9, (tb2 (i := 36) rfl), (tb2 (i := 37) rfl), (tb1 (i := 13) rfl), by decide +kernel⟩
theorem nw_X8_18 : kNw RX8 18 10 3 [.null, .int 0, .int 0] := ⟨RX9, TX9, tyX9, kc_10, (tb2 (i := 42) rfl), (tb1 (i := 43) rfl), (tb1 (i := 2) rfl), by decide +kernel⟩
theorem nw_X11_42 : kNw RX11 42 0 3 [.int 0, .null, .int 0] := ⟨RJx4a65c, TJx4a65c, tyJx4a65c, kc_0, (tb2 (i := 55) rfl), (tb1 (i := 110) rfl), (tb1 (i := 8) rfl), by decide +kernel⟩
theorem nw_X6_25 : kNw RX6 25 6 4 [.null, .null, .int 0, .int 0] := ⟨RX5, TX5, tyX5, kc_6, (tb2 (i := 160) rfl), (tb2 (i := 161) rfl), (tb1 (i := 24) rfl), by decide +kernel⟩
theorem nw_X5_15 : kNw RX5 15 10 3 [.null, .int 0, .int 0] := ⟨RX9, TX9, tyX9, kc_10, (tb2 (i := 166) rfl), (tb1 (i := 43) rfl), (tb1 (i := 2) rfl), by decide +kernel⟩
theorem nw_X11_141 : kNw RX11 141 1 6 [.int 0, .null, .null, .int 0, .int 0, .null] := ⟨RX0, TX0, tyX0, kc_1, (tb3 (i := 89) rfl), (tb5 (i := 80) rfl), (tb1 (i := 22) rfl), by decide +kernel⟩
theorem nw_X0_44 : kNw RX0 44 10 3 [.null, .int 0, .int 0] := ⟨RX9, TX9, tyX9, kc_10, (tb3 (i := 105) rfl), (tb1 (i := 43) rfl), (tb1 (i := 2) rfl), by decide +kernel⟩
theorem nw_X11_228 : kNw RX11 228 8 6 [.null, .null, .int 0, .null, .null, .int 0] := ⟨RX7, TX7, tyX7, kc_8, (tb3 (i := 185) rfl), (tb3 (i := 186) rfl), (tb1 (i := 28) rfl), by decide +kernel⟩
theorem nw_X9_10 : kNw RX9 10 10 3 [.null, .int 0, .int 0] := ⟨RX9, TX9, tyX9, kc_10, (tb3 (i := 195) rfl), (tb1 (i := 43) rfl), (tb1 (i := 2) rfl), by decide +kernel⟩
theorem nw_X11_273 : kNw RX11 273 2 5 [.null, .int 0, .int 0, .int 0, .null] := ⟨RX1, TX1, tyX1, kc_2, (tb4 (i := 26) rfl), (tb5 (i := 209) rfl), (tb1 (i := 31) rfl), by decide +kernel⟩
theorem nw_X11_324 : kNw RX11 324 3 6 [.int 0, .int 0, .int 0, .int 0, .int 0, .int 0] := ⟨RX2, TX2, tyX2, kc_3, (tb4 (i := 69) rfl), (tb4 (i := 70) rfl), (tb1 (i := 32) rfl), by decide +kernel⟩
theorem nw_X11_318 : kNw RX11 318 11 4 [.null, .int 0, .int 0, .int 0] := ⟨RX10, TX10, tyX10, kc_11, (tb4 (i := 125) rfl), (tb4 (i := 126) rfl), (tb1 (i := 33) rfl), by decide +kernel⟩
theorem nw_X0_7 : kNw RX0 7 0 3 [.int 0, .null, .int 0] := ⟨RJx4a65c, TJx4a65c, tyJx4a65c, kc_0, (tb5 (i := 85) rfl), (tb1 (i := 110) rfl), (tb1 (i := 8) rfl), by decide +kernel⟩
theorem nw_L_53 : kNw RL 53 13 75 [.int 0, .null, .int 0, .null, .int 0, .int 0, .int 0, .null, .null, .int 0, .null, .null, .null, .null, .null, .null, .null, .null, .null, .null, .int 0, .null, .int 0, .null, .int 0, .int 0, .int 0, .int 0, .int 0, .null, .null, .null, .null, .null, .null, .null, .null, .int 0, .int 0, .null, .null, .null, .null, .null, .null, .int 0, .null, .null, .null, .null, .null, .int 0, .null, .null, .null, .null, .null, .int 0, .null, .null, .null, .null, .int 0, .null, .null, .null, .null, .int 0, .null, .null, .null, .null, .null, .null, .null] := ⟨RX12, TX12, tyX12, kc_13, (tb6 (i := 38) rfl), (tb6 (i := 39) rfl), (tb1 (i := 14) rfl), by decide +kernel⟩
abbrev mX0_init : kMi := (yX0_init, cX0_init, 6, none, 4, 80)
theorem mdX0_init : kMd mX0_init 5 := ⟨(tb5 (i := 83) rfl), (tb1 (i := 22) rfl), by decide, by decide +kernel⟩
theorem imX0_init : Cond.instanceMethod yX0_init ∈ lw_tbl := (tb5 (i := 82) rfl)
abbrev mX0_isShownBy : kMi := (yX0_isShownBy, cX0_isShownBy, 2, (some (.boolean)), 3, 66)
theorem mdX0_isShownBy : kMd mX0_isShownBy 1 := ⟨(tb4 (i := 6) rfl), (tb1 (i := 22) rfl), by decide, by decide +kernel⟩
theorem imX0_isShownBy : Cond.instanceMethod yX0_isShownBy ∈ lw_tbl := (tb4 (i := 4) rfl)
theorem seX0_isShownBy : Cond.selects RX0 yX0_isShownBy yX0_isShownBy ∈ lw_tbl := (tb4 (i := 5) rfl)
abbrev mX0_redirectFor : kMi := (yX0_redirectFor, cX0_redirectFor, 3, (some (.object "GrantServer$Text")), 4, 94)
theorem mdX0_redirectFor : kMd mX0_redirectFor 1 := ⟨(tb3 (i := 101) rfl), (tb1 (i := 22) rfl), by decide, by decide +kernel⟩
theorem imX0_redirectFor : Cond.instanceMethod yX0_redirectFor ∈ lw_tbl := (tb3 (i := 99) rfl)
theorem seX0_redirectFor : Cond.selects RX0 yX0_redirectFor yX0_redirectFor ∈ lw_tbl := (tb3 (i := 100) rfl)
abbrev mX1_init : kMi := (yX1_init, cX1_init, 5, none, 1, 20)
theorem mdX1_init : kMd mX1_init 4 := ⟨(tb5 (i := 212) rfl), (tb1 (i := 31) rfl), by decide, by decide +kernel⟩
theorem imX1_init : Cond.instanceMethod yX1_init ∈ lw_tbl := (tb5 (i := 211) rfl)
abbrev mX1_standing : kMi := (yX1_standing, cX1_standing, 2, (some (.int)), 0, 0)
theorem mdX1_standing : kMd mX1_standing 1 := ⟨(tb6 (i := 23) rfl), (tb1 (i := 31) rfl), by decide, by decide +kernel⟩
theorem imX1_standing : Cond.instanceMethod yX1_standing ∈ lw_tbl := (tb6 (i := 21) rfl)
theorem seX1_standing : Cond.selects RX1 yX1_standing yX1_standing ∈ lw_tbl := (tb6 (i := 22) rfl)
abbrev mX2_init : kMi := (yX2_init, cX2_init, 5, none, 1, 20)
theorem mdX2_init : kMd mX2_init 4 := ⟨(tb4 (i := 73) rfl), (tb1 (i := 32) rfl), by decide, by decide +kernel⟩
theorem imX2_init : Cond.instanceMethod yX2_init ∈ lw_tbl := (tb4 (i := 72) rfl)
abbrev mX3_init : kMi := (yX3_init, cX3_init, 3, none, 2, 41)
theorem mdX3_init : kMd mX3_init 2 := ⟨(tb1 (i := 78) rfl), (tb1 (i := 5) rfl), by decide, by decide +kernel⟩
theorem imX3_init : Cond.instanceMethod yX3_init ∈ lw_tbl := (tb1 (i := 77) rfl)
abbrev mX3_isThere : kMi := (yX3_isThere, cX3_isThere, 1, (some (.boolean)), 1, 20)
theorem mdX3_isThere : kMd mX3_isThere 0 := ⟨(tb3 (i := 114) rfl), (tb1 (i := 5) rfl), by decide, by decide +kernel⟩
theorem imX3_isThere : Cond.instanceMethod yX3_isThere ∈ lw_tbl := (tb3 (i := 112) rfl)
theorem seX3_isThere : Cond.selects RX3 yX3_isThere yX3_isThere ∈ lw_tbl := (tb3 (i := 113) rfl)
abbrev mX3_copy : kMi := (yX3_copy, cX3_copy, 1, (some (.object "GrantServer$Text")), 3, 84)
theorem mdX3_copy : kMd mX3_copy 0 := ⟨(tb3 (i := 190) rfl), (tb1 (i := 5) rfl), by decide, by decide +kernel⟩
theorem imX3_copy : Cond.instanceMethod yX3_copy ∈ lw_tbl := (tb3 (i := 188) rfl)
theorem seX3_copy : Cond.selects RX3 yX3_copy yX3_copy ∈ lw_tbl := (tb3 (i := 189) rfl)
abbrev mX3_forget : kMi := (yX3_forget, cX3_forget, 1, none, 1, 20)
theorem mdX3_forget : kMd mX3_forget 0 := ⟨(tb3 (i := 31) rfl), (tb1 (i := 5) rfl), by decide, by decide +kernel⟩
theorem imX3_forget : Cond.instanceMethod yX3_forget ∈ lw_tbl := (tb3 (i := 29) rfl)
theorem seX3_forget : Cond.selects RX3 yX3_forget yX3_forget ∈ lw_tbl := (tb3 (i := 30) rfl)
abbrev mX4_init : kMi := (yX4_init, cX4_init, 1, none, 7, 171)
theorem mdX4_init : kMd mX4_init 0 := ⟨(tb1 (i := 66) rfl), (tb1 (i := 4) rfl), by decide, by decide +kernel⟩
theorem imX4_init : Cond.instanceMethod yX4_init ∈ lw_tbl := (tb1 (i := 65) rfl)
abbrev mX4_read : kMi := (yX4_read, cX4_read, 5, (some (.boolean)), 8, 186)
theorem mdX4_read : kMd mX4_read 1 := ⟨(tb3 (i := 6) rfl), (tb1 (i := 4) rfl), by decide, by decide +kernel⟩
theorem imX4_read : Cond.instanceMethod yX4_read ∈ lw_tbl := (tb3 (i := 4) rfl)
theorem seX4_read : Cond.selects RX4 yX4_read yX4_read ∈ lw_tbl := (tb3 (i := 5) rfl)
abbrev mX4_forget : kMi := (yX4_forget, cX4_forget, 2, none, 4, 94)
theorem mdX4_forget : kMd mX4_forget 0 := ⟨(tb3 (i := 10) rfl), (tb1 (i := 4) rfl), by decide, by decide +kernel⟩
theorem imX4_forget : Cond.instanceMethod yX4_forget ∈ lw_tbl := (tb3 (i := 9) rfl)
theorem seX4_forget : Cond.selects RX4 yX4_forget yX4_forget ∈ lw_tbl := (tb0 (i := 4) rfl)
abbrev mX4_readPiece : kMi := (yX4_readPiece, cX4_readPiece, 8, (some (.boolean)), 7, 159)
theorem mdX4_readPiece : kMd mX4_readPiece 3 := ⟨(tb3 (i := 38) rfl), (tb1 (i := 4) rfl), by decide, by decide +kernel⟩
theorem imX4_readPiece : Cond.instanceMethod yX4_readPiece ∈ lw_tbl := (tb3 (i := 37) rfl)
theorem seX4_readPiece : Cond.selects RX4 yX4_readPiece yX4_readPiece ∈ lw_tbl := (tb0 (i := 5) rfl)
abbrev mX4_decode : kMi := (yX4_decode, cX4_decode, 8, (some (.boolean)), 1, 21)
theorem mdX4_decode : kMd mX4_decode 3 := ⟨(tb3 (i := 46) rfl), (tb1 (i := 4) rfl), by decide, by decide +kernel⟩
theorem imX4_decode : Cond.instanceMethod yX4_decode ∈ lw_tbl := (tb3 (i := 45) rfl)
theorem seX4_decode : Cond.selects RX4 yX4_decode yX4_decode ∈ lw_tbl := (tb0 (i := 6) rfl)
abbrev mX4_fieldOf : kMi := (yX4_fieldOf, cX4_fieldOf, 3, (some (.object "GrantServer$Field")), 6, 137)
theorem mdX4_fieldOf : kMd mX4_fieldOf 1 := ⟨(tb3 (i := 61) rfl), (tb1 (i := 4) rfl), by decide, by decide +kernel⟩
theorem imX4_fieldOf : Cond.instanceMethod yX4_fieldOf ∈ lw_tbl := (tb3 (i := 60) rfl)
theorem seX4_fieldOf : Cond.selects RX4 yX4_fieldOf yX4_fieldOf ∈ lw_tbl := (tb0 (i := 7) rfl)
abbrev mX5_init : kMi := (yX5_init, cX5_init, 5, none, 6, 145)
theorem mdX5_init : kMd mX5_init 4 := ⟨(tb2 (i := 164) rfl), (tb1 (i := 24) rfl), by decide, by decide +kernel⟩
theorem imX5_init : Cond.instanceMethod yX5_init ∈ lw_tbl := (tb2 (i := 163) rfl)
abbrev mX5_isOf : kMi := (yX5_isOf, cX5_isOf, 2, (some (.boolean)), 0, 0)
theorem mdX5_isOf : kMd mX5_isOf 1 := ⟨(tb4 (i := 68) rfl), (tb1 (i := 24) rfl), by decide, by decide +kernel⟩
theorem imX5_isOf : Cond.instanceMethod yX5_isOf ∈ lw_tbl := (tb4 (i := 66) rfl)
theorem seX5_isOf : Cond.selects RX5 yX5_isOf yX5_isOf ∈ lw_tbl := (tb4 (i := 67) rfl)
abbrev mX6_init : kMi := (yX6_init, cX6_init, 1, none, 4, 80)
theorem mdX6_init : kMd mX6_init 0 := ⟨(tb2 (i := 25) rfl), (tb1 (i := 12) rfl), by decide, by decide +kernel⟩
theorem imX6_init : Cond.instanceMethod yX6_init ∈ lw_tbl := (tb2 (i := 24) rfl)
abbrev mX6_waitingCount : kMi := (yX6_waitingCount, cX6_waitingCount, 1, (some (.int)), 1, 20)
theorem mdX6_waitingCount : kMd mX6_waitingCount 0 := ⟨(tb2 (i := 234) rfl), (tb1 (i := 12) rfl), by decide, by decide +kernel⟩
theorem imX6_waitingCount : Cond.instanceMethod yX6_waitingCount ∈ lw_tbl := (tb2 (i := 232) rfl)
theorem seX6_waitingCount : Cond.selects RX6 yX6_waitingCount yX6_waitingCount ∈ lw_tbl := (tb2 (i := 233) rfl)
abbrev mX6_addDie : kMi := (yX6_addDie, cX6_addDie, 5, (some (.boolean)), 7, 171)
theorem mdX6_addDie : kMd mX6_addDie 4 := ⟨(tb2 (i := 155) rfl), (tb1 (i := 12) rfl), by decide, by decide +kernel⟩
theorem imX6_addDie : Cond.instanceMethod yX6_addDie ∈ lw_tbl := (tb2 (i := 153) rfl)
theorem seX6_addDie : Cond.selects RX6 yX6_addDie yX6_addDie ∈ lw_tbl := (tb2 (i := 154) rfl)
abbrev mX6_canMake : kMi := (yX6_canMake, cX6_canMake, 5, (some (.boolean)), 5, 117)
theorem mdX6_canMake : kMd mX6_canMake 1 := ⟨(tb4 (i := 61) rfl), (tb1 (i := 12) rfl), by decide, by decide +kernel⟩
theorem imX6_canMake : Cond.instanceMethod yX6_canMake ∈ lw_tbl := (tb4 (i := 59) rfl)
theorem seX6_canMake : Cond.selects RX6 yX6_canMake yX6_canMake ∈ lw_tbl := (tb4 (i := 60) rfl)
abbrev mX6_isAhead : kMi := (yX6_isAhead, cX6_isAhead, 4, (some (.boolean)), 4, 94)
theorem mdX6_isAhead : kMd mX6_isAhead 3 := ⟨(tb4 (i := 64) rfl), (tb1 (i := 12) rfl), by decide, by decide +kernel⟩
theorem ssX6_isAhead : Cond.static yX6_isAhead ∈ lw_tbl := (tb4 (i := 63) rfl)
abbrev mX6_make : kMi := (yX6_make, cX6_make, 7, none, 7, 171)
theorem mdX6_make : kMd mX6_make 3 := ⟨(tb4 (i := 109) rfl), (tb1 (i := 12) rfl), by decide, by decide +kernel⟩
theorem imX6_make : Cond.instanceMethod yX6_make ∈ lw_tbl := (tb4 (i := 107) rfl)
theorem seX6_make : Cond.selects RX6 yX6_make yX6_make ∈ lw_tbl := (tb4 (i := 108) rfl)
abbrev mX6_find : kMi := (yX6_find, cX6_find, 5, (some (.int)), 4, 94)
theorem mdX6_find : kMd mX6_find 2 := ⟨(tb4 (i := 23) rfl), (tb1 (i := 12) rfl), by decide, by decide +kernel⟩
theorem imX6_find : Cond.instanceMethod yX6_find ∈ lw_tbl := (tb4 (i := 21) rfl)
theorem seX6_find : Cond.selects RX6 yX6_find yX6_find ∈ lw_tbl := (tb4 (i := 22) rfl)
abbrev mX7_init : kMi := (yX7_init, cX7_init, 6, none, 1, 20)
theorem mdX7_init : kMd mX7_init 5 := ⟨(tb3 (i := 201) rfl), (tb1 (i := 28) rfl), by decide, by decide +kernel⟩
theorem imX7_init : Cond.instanceMethod yX7_init ∈ lw_tbl := (tb3 (i := 200) rfl)
abbrev mX8_init : kMi := (yX8_init, cX8_init, 1, none, 2, 61)
theorem mdX8_init : kMd mX8_init 0 := ⟨(tb2 (i := 40) rfl), (tb1 (i := 13) rfl), by decide, by decide +kernel⟩
theorem imX8_init : Cond.instanceMethod yX8_init ∈ lw_tbl := (tb2 (i := 39) rfl)
abbrev mX8_signs : kMi := (yX8_signs, cX8_signs, 4, (some (.object "GrantServer$Text")), 6, 145)
theorem mdX8_signs : kMd mX8_signs 1 := ⟨(tb4 (i := 30) rfl), (tb1 (i := 13) rfl), by decide, by decide +kernel⟩
theorem imX8_signs : Cond.instanceMethod yX8_signs ∈ lw_tbl := (tb4 (i := 28) rfl)
theorem seX8_signs : Cond.selects RX8 yX8_signs yX8_signs ∈ lw_tbl := (tb4 (i := 29) rfl)
abbrev mX8_fillSchedule : kMi := (yX8_fillSchedule, cX8_fillSchedule, 9, none, 2, 43)
theorem mdX8_fillSchedule : kMd mX8_fillSchedule 3 := ⟨(tb4 (i := 38) rfl), (tb1 (i := 13) rfl), by decide, by decide +kernel⟩
theorem imX8_fillSchedule : Cond.instanceMethod yX8_fillSchedule ∈ lw_tbl := (tb4 (i := 37) rfl)
theorem seX8_fillSchedule : Cond.selects RX8 yX8_fillSchedule yX8_fillSchedule ∈ lw_tbl := (tb0 (i := 21) rfl)
abbrev mX8_padded : kMi := (yX8_padded, cX8_padded, 3, (some (.int)), 1, 21)
theorem mdX8_padded : kMd mX8_padded 3 := ⟨(tb4 (i := 41) rfl), (tb1 (i := 13) rfl), by decide, by decide +kernel⟩
theorem ssX8_padded : Cond.static yX8_padded ∈ lw_tbl := (tb4 (i := 40) rfl)
abbrev mX8_mixBlock : kMi := (yX8_mixBlock, cX8_mixBlock, 14, none, 1, 21)
theorem mdX8_mixBlock : kMd mX8_mixBlock 0 := ⟨(tb4 (i := 49) rfl), (tb1 (i := 13) rfl), by decide, by decide +kernel⟩
theorem imX8_mixBlock : Cond.instanceMethod yX8_mixBlock ∈ lw_tbl := (tb4 (i := 48) rfl)
theorem seX8_mixBlock : Cond.selects RX8 yX8_mixBlock yX8_mixBlock ∈ lw_tbl := (tb0 (i := 22) rfl)
abbrev mX8_rotate : kMi := (yX8_rotate, cX8_rotate, 2, (some (.int)), 0, 0)
theorem mdX8_rotate : kMd mX8_rotate 2 := ⟨(tb4 (i := 45) rfl), (tb1 (i := 13) rfl), by decide, by decide +kernel⟩
theorem ssX8_rotate : Cond.static yX8_rotate ∈ lw_tbl := (tb4 (i := 44) rfl)
abbrev mX9_init : kMi := (yX9_init, cX9_init, 2, none, 1, 40)
theorem mdX9_init : kMd mX9_init 1 := ⟨(tb1 (i := 46) rfl), (tb1 (i := 2) rfl), by decide, by decide +kernel⟩
theorem imX9_init : Cond.instanceMethod yX9_init ∈ lw_tbl := (tb1 (i := 45) rfl)
abbrev mX9_init_ : kMi := (yX9_init_, cX9_init_, 2, none, 1, 20)
theorem mdX9_init_ : kMd mX9_init_ 1 := ⟨(tb1 (i := 72) rfl), (tb1 (i := 2) rfl), by decide, by decide +kernel⟩
theorem imX9_init_ : Cond.instanceMethod yX9_init_ ∈ lw_tbl := (tb1 (i := 71) rfl)
abbrev mX9_size : kMi := (yX9_size, cX9_size, 1, (some (.int)), 0, 0)
theorem mdX9_size : kMd mX9_size 0 := ⟨(tb2 (i := 119) rfl), (tb1 (i := 2) rfl), by decide, by decide +kernel⟩
theorem imX9_size : Cond.instanceMethod yX9_size ∈ lw_tbl := (tb2 (i := 117) rfl)
theorem seX9_size : Cond.selects RX9 yX9_size yX9_size ∈ lw_tbl := (tb2 (i := 118) rfl)
abbrev mX9_at : kMi := (yX9_at, cX9_at, 2, (some (.int)), 0, 0)
theorem mdX9_at : kMd mX9_at 1 := ⟨(tb2 (i := 147) rfl), (tb1 (i := 2) rfl), by decide, by decide +kernel⟩
theorem imX9_at : Cond.instanceMethod yX9_at ∈ lw_tbl := (tb2 (i := 145) rfl)
theorem seX9_at : Cond.selects RX9 yX9_at yX9_at ∈ lw_tbl := (tb2 (i := 146) rfl)
abbrev mX9_clear : kMi := (yX9_clear, cX9_clear, 1, none, 0, 0)
theorem mdX9_clear : kMd mX9_clear 0 := ⟨(tb3 (i := 14) rfl), (tb1 (i := 2) rfl), by decide, by decide +kernel⟩
theorem imX9_clear : Cond.instanceMethod yX9_clear ∈ lw_tbl := (tb3 (i := 12) rfl)
theorem seX9_clear : Cond.selects RX9 yX9_clear yX9_clear ∈ lw_tbl := (tb3 (i := 13) rfl)
abbrev mX9_cutTo : kMi := (yX9_cutTo, cX9_cutTo, 2, (some (.boolean)), 0, 0)
theorem mdX9_cutTo : kMd mX9_cutTo 1 := ⟨(tb2 (i := 135) rfl), (tb1 (i := 2) rfl), by decide, by decide +kernel⟩
theorem imX9_cutTo : Cond.instanceMethod yX9_cutTo ∈ lw_tbl := (tb2 (i := 133) rfl)
theorem seX9_cutTo : Cond.selects RX9 yX9_cutTo yX9_cutTo ∈ lw_tbl := (tb2 (i := 134) rfl)
abbrev mX9_showEnd : kMi := (yX9_showEnd, cX9_showEnd, 3, none, 0, 0)
theorem mdX9_showEnd : kMd mX9_showEnd 2 := ⟨(tb3 (i := 57) rfl), (tb1 (i := 2) rfl), by decide, by decide +kernel⟩
theorem imX9_showEnd : Cond.instanceMethod yX9_showEnd ∈ lw_tbl := (tb3 (i := 55) rfl)
theorem seX9_showEnd : Cond.selects RX9 yX9_showEnd yX9_showEnd ∈ lw_tbl := (tb3 (i := 56) rfl)
abbrev mX9_add : kMi := (yX9_add, cX9_add, 2, none, 0, 0)
theorem mdX9_add : kMd mX9_add 1 := ⟨(tb2 (i := 127) rfl), (tb1 (i := 2) rfl), by decide, by decide +kernel⟩
theorem imX9_add : Cond.instanceMethod yX9_add ∈ lw_tbl := (tb2 (i := 125) rfl)
theorem seX9_add : Cond.selects RX9 yX9_add yX9_add ∈ lw_tbl := (tb2 (i := 126) rfl)
abbrev mX9_addInt : kMi := (yX9_addInt, cX9_addInt, 2, none, 1, 21)
theorem mdX9_addInt : kMd mX9_addInt 1 := ⟨(tb2 (i := 123) rfl), (tb1 (i := 2) rfl), by decide, by decide +kernel⟩
theorem imX9_addInt : Cond.instanceMethod yX9_addInt ∈ lw_tbl := (tb2 (i := 121) rfl)
theorem seX9_addInt : Cond.selects RX9 yX9_addInt yX9_addInt ∈ lw_tbl := (tb2 (i := 122) rfl)
abbrev mX9_addPart : kMi := (yX9_addPart, cX9_addPart, 5, none, 1, 21)
theorem mdX9_addPart : kMd mX9_addPart 3 := ⟨(tb2 (i := 143) rfl), (tb1 (i := 2) rfl), by decide, by decide +kernel⟩
theorem imX9_addPart : Cond.instanceMethod yX9_addPart ∈ lw_tbl := (tb2 (i := 141) rfl)
theorem seX9_addPart : Cond.selects RX9 yX9_addPart yX9_addPart ∈ lw_tbl := (tb2 (i := 142) rfl)
abbrev mX9_addWord : kMi := (yX9_addWord, cX9_addWord, 3, none, 5, 115)
theorem mdX9_addWord : kMd mX9_addWord 1 := ⟨(tb3 (i := 160) rfl), (tb1 (i := 2) rfl), by decide, by decide +kernel⟩
theorem imX9_addWord : Cond.instanceMethod yX9_addWord ∈ lw_tbl := (tb3 (i := 158) rfl)
theorem seX9_addWord : Cond.selects RX9 yX9_addWord yX9_addWord ∈ lw_tbl := (tb3 (i := 159) rfl)
abbrev mX9_addNumber : kMi := (yX9_addNumber, cX9_addNumber, 3, none, 1, 21)
theorem mdX9_addNumber : kMd mX9_addNumber 1 := ⟨(tb4 (i := 152) rfl), (tb1 (i := 2) rfl), by decide, by decide +kernel⟩
theorem imX9_addNumber : Cond.instanceMethod yX9_addNumber ∈ lw_tbl := (tb4 (i := 150) rfl)
theorem seX9_addNumber : Cond.selects RX9 yX9_addNumber yX9_addNumber ∈ lw_tbl := (tb4 (i := 151) rfl)
abbrev mX9_addEscaped : kMi := (yX9_addEscaped, cX9_addEscaped, 4, none, 5, 115)
theorem mdX9_addEscaped : kMd mX9_addEscaped 1 := ⟨(tb3 (i := 183) rfl), (tb1 (i := 2) rfl), by decide, by decide +kernel⟩
theorem imX9_addEscaped : Cond.instanceMethod yX9_addEscaped ∈ lw_tbl := (tb3 (i := 181) rfl)
theorem seX9_addEscaped : Cond.selects RX9 yX9_addEscaped yX9_addEscaped ∈ lw_tbl := (tb3 (i := 182) rfl)
abbrev mX9_addBase64 : kMi := (yX9_addBase64, cX9_addBase64, 11, none, 5, 115)
theorem mdX9_addBase64 : kMd mX9_addBase64 1 := ⟨(tb2 (i := 171) rfl), (tb1 (i := 2) rfl), by decide, by decide +kernel⟩
theorem imX9_addBase64 : Cond.instanceMethod yX9_addBase64 ∈ lw_tbl := (tb2 (i := 169) rfl)
theorem seX9_addBase64 : Cond.selects RX9 yX9_addBase64 yX9_addBase64 ∈ lw_tbl := (tb2 (i := 170) rfl)
abbrev mX9_copyOfPart : kMi := (yX9_copyOfPart, cX9_copyOfPart, 4, (some (.object "GrantServer$Text")), 2, 61)
theorem mdX9_copyOfPart : kMd mX9_copyOfPart 2 := ⟨(tb3 (i := 194) rfl), (tb1 (i := 2) rfl), by decide, by decide +kernel⟩
theorem imX9_copyOfPart : Cond.instanceMethod yX9_copyOfPart ∈ lw_tbl := (tb3 (i := 192) rfl)
theorem seX9_copyOfPart : Cond.selects RX9 yX9_copyOfPart yX9_copyOfPart ∈ lw_tbl := (tb3 (i := 193) rfl)
abbrev mX9_same : kMi := (yX9_same, cX9_same, 2, (some (.boolean)), 2, 45)
theorem mdX9_same : kMd mX9_same 1 := ⟨(tb3 (i := 93) rfl), (tb1 (i := 2) rfl), by decide, by decide +kernel⟩
theorem imX9_same : Cond.instanceMethod yX9_same ∈ lw_tbl := (tb3 (i := 91) rfl)
theorem seX9_same : Cond.selects RX9 yX9_same yX9_same ∈ lw_tbl := (tb3 (i := 92) rfl)
abbrev mX9_isPart : kMi := (yX9_isPart, cX9_isPart, 5, (some (.boolean)), 1, 21)
theorem mdX9_isPart : kMd mX9_isPart 3 := ⟨(tb3 (i := 97) rfl), (tb1 (i := 2) rfl), by decide, by decide +kernel⟩
theorem imX9_isPart : Cond.instanceMethod yX9_isPart ∈ lw_tbl := (tb3 (i := 95) rfl)
theorem seX9_isPart : Cond.selects RX9 yX9_isPart yX9_isPart ∈ lw_tbl := (tb3 (i := 96) rfl)
abbrev mX9_spells : kMi := (yX9_spells, cX9_spells, 3, (some (.boolean)), 5, 115)
theorem mdX9_spells : kMd mX9_spells 1 := ⟨(tb3 (i := 65) rfl), (tb1 (i := 2) rfl), by decide, by decide +kernel⟩
theorem imX9_spells : Cond.instanceMethod yX9_spells ∈ lw_tbl := (tb3 (i := 63) rfl)
theorem seX9_spells : Cond.selects RX9 yX9_spells yX9_spells ∈ lw_tbl := (tb3 (i := 64) rfl)
abbrev mX9_isVisible : kMi := (yX9_isVisible, cX9_isVisible, 3, (some (.boolean)), 1, 21)
theorem mdX9_isVisible : kMd mX9_isVisible 1 := ⟨(tb4 (i := 220) rfl), (tb1 (i := 2) rfl), by decide, by decide +kernel⟩
theorem imX9_isVisible : Cond.instanceMethod yX9_isVisible ∈ lw_tbl := (tb4 (i := 218) rfl)
theorem seX9_isVisible : Cond.selects RX9 yX9_isVisible yX9_isVisible ∈ lw_tbl := (tb4 (i := 219) rfl)
abbrev mX9_isUnreservedAll : kMi := (yX9_isUnreservedAll, cX9_isUnreservedAll, 2, (some (.boolean)), 1, 21)
theorem mdX9_isUnreservedAll : kMd mX9_isUnreservedAll 0 := ⟨(tb3 (i := 134) rfl), (tb1 (i := 2) rfl), by decide, by decide +kernel⟩
theorem imX9_isUnreservedAll : Cond.instanceMethod yX9_isUnreservedAll ∈ lw_tbl := (tb3 (i := 132) rfl)
theorem seX9_isUnreservedAll : Cond.selects RX9 yX9_isUnreservedAll yX9_isUnreservedAll ∈ lw_tbl := (tb3 (i := 133) rfl)
abbrev mX9_has : kMi := (yX9_has, cX9_has, 2, (some (.boolean)), 2, 45)
theorem mdX9_has : kMd mX9_has 1 := ⟨(tb3 (i := 141) rfl), (tb1 (i := 2) rfl), by decide, by decide +kernel⟩
theorem imX9_has : Cond.instanceMethod yX9_has ∈ lw_tbl := (tb3 (i := 139) rfl)
theorem seX9_has : Cond.selects RX9 yX9_has yX9_has ∈ lw_tbl := (tb3 (i := 140) rfl)
abbrev mX9_indexOf : kMi := (yX9_indexOf, cX9_indexOf, 5, (some (.int)), 1, 21)
theorem mdX9_indexOf : kMd mX9_indexOf 3 := ⟨(tb3 (i := 42) rfl), (tb1 (i := 2) rfl), by decide, by decide +kernel⟩
theorem imX9_indexOf : Cond.instanceMethod yX9_indexOf ∈ lw_tbl := (tb3 (i := 40) rfl)
theorem seX9_indexOf : Cond.selects RX9 yX9_indexOf yX9_indexOf ∈ lw_tbl := (tb3 (i := 41) rfl)
abbrev mX10_init : kMi := (yX10_init, cX10_init, 4, none, 1, 20)
theorem mdX10_init : kMd mX10_init 3 := ⟨(tb4 (i := 129) rfl), (tb1 (i := 33) rfl), by decide, by decide +kernel⟩
theorem imX10_init : Cond.instanceMethod yX10_init ∈ lw_tbl := (tb4 (i := 128) rfl)
abbrev mX10_isGood : kMi := (yX10_isGood, cX10_isGood, 2, (some (.boolean)), 0, 0)
theorem mdX10_isGood : kMd mX10_isGood 1 := ⟨(tb6 (i := 11) rfl), (tb1 (i := 33) rfl), by decide, by decide +kernel⟩
theorem imX10_isGood : Cond.instanceMethod yX10_isGood ∈ lw_tbl := (tb6 (i := 9) rfl)
theorem seX10_isGood : Cond.selects RX10 yX10_isGood yX10_isGood ∈ lw_tbl := (tb6 (i := 10) rfl)
abbrev mX11_init : kMi := (yX11_init, cX11_init, 1, none, 8, 191)
theorem mdX11_init : kMd mX11_init 0 := ⟨(tb1 (i := 38) rfl), (tb1 (i := 1) rfl), by decide, by decide +kernel⟩
theorem imX11_init : Cond.instanceMethod yX11_init ∈ lw_tbl := (tb1 (i := 37) rfl)
abbrev mX11_feed : kMi := (yX11_feed, cX11_feed, 6, (some (.int)), 2, 42)
theorem mdX11_feed : kMd mX11_feed 5 := ⟨(tb2 (i := 115) rfl), (tb1 (i := 1) rfl), by decide, by decide +kernel⟩
theorem imX11_feed : Cond.instanceMethod yX11_feed ∈ lw_tbl := (tb2 (i := 113) rfl)
theorem seX11_feed : Cond.selects RX11 yX11_feed yX11_feed ∈ lw_tbl := (tb2 (i := 114) rfl)
abbrev mX11_end : kMi := (yX11_end, cX11_end, 2, (some (.boolean)), 1, 21)
theorem mdX11_end : kMd mX11_end 1 := ⟨(tb2 (i := 131) rfl), (tb1 (i := 1) rfl), by decide, by decide +kernel⟩
theorem imX11_end : Cond.instanceMethod yX11_end ∈ lw_tbl := (tb2 (i := 129) rfl)
theorem seX11_end : Cond.selects RX11 yX11_end yX11_end ∈ lw_tbl := (tb2 (i := 130) rfl)
abbrev mX11_again : kMi := (yX11_again, cX11_again, 3, (some (.int)), 2, 45)
theorem mdX11_again : kMd mX11_again 2 := ⟨(tb2 (i := 139) rfl), (tb1 (i := 1) rfl), by decide, by decide +kernel⟩
theorem imX11_again : Cond.instanceMethod yX11_again ∈ lw_tbl := (tb2 (i := 137) rfl)
theorem seX11_again : Cond.selects RX11 yX11_again yX11_again ∈ lw_tbl := (tb2 (i := 138) rfl)
abbrev mX11_scope : kMi := (yX11_scope, cX11_scope, 2, (some (.int)), 7, 171)
theorem mdX11_scope : kMd mX11_scope 0 := ⟨(tb4 (i := 213) rfl), (tb1 (i := 1) rfl), by decide, by decide +kernel⟩
theorem imX11_scope : Cond.instanceMethod yX11_scope ∈ lw_tbl := (tb4 (i := 211) rfl)
theorem seX11_scope : Cond.selects RX11 yX11_scope yX11_scope ∈ lw_tbl := (tb4 (i := 212) rfl)
abbrev mX11_client : kMi := (yX11_client, cX11_client, 5, (some (.int)), 7, 171)
theorem mdX11_client : kMd mX11_client 3 := ⟨(tb5 (i := 74) rfl), (tb1 (i := 1) rfl), by decide, by decide +kernel⟩
theorem imX11_client : Cond.instanceMethod yX11_client ∈ lw_tbl := (tb5 (i := 72) rfl)
theorem seX11_client : Cond.selects RX11 yX11_client yX11_client ∈ lw_tbl := (tb5 (i := 73) rfl)
abbrev mX11_redirect : kMi := (yX11_redirect, cX11_redirect, 4, (some (.int)), 7, 171)
theorem mdX11_redirect : kMd mX11_redirect 1 := ⟨(tb5 (i := 124) rfl), (tb1 (i := 1) rfl), by decide, by decide +kernel⟩
theorem imX11_redirect : Cond.instanceMethod yX11_redirect ∈ lw_tbl := (tb5 (i := 122) rfl)
theorem seX11_redirect : Cond.selects RX11 yX11_redirect yX11_redirect ∈ lw_tbl := (tb5 (i := 123) rfl)
abbrev mX11_lives : kMi := (yX11_lives, cX11_lives, 4, none, 6, 90)
theorem mdX11_lives : kMd mX11_lives 3 := ⟨(tb5 (i := 152) rfl), (tb1 (i := 1) rfl), by decide, by decide +kernel⟩
theorem imX11_lives : Cond.instanceMethod yX11_lives ∈ lw_tbl := (tb5 (i := 150) rfl)
theorem seX11_lives : Cond.selects RX11 yX11_lives yX11_lives ∈ lw_tbl := (tb5 (i := 151) rfl)
abbrev mX11_dice : kMi := (yX11_dice, cX11_dice, 5, (some (.int)), 8, 195)
theorem mdX11_dice : kMd mX11_dice 4 := ⟨(tb2 (i := 151) rfl), (tb1 (i := 1) rfl), by decide, by decide +kernel⟩
theorem imX11_dice : Cond.instanceMethod yX11_dice ∈ lw_tbl := (tb2 (i := 149) rfl)
theorem seX11_dice : Cond.selects RX11 yX11_dice yX11_dice ∈ lw_tbl := (tb2 (i := 150) rfl)
abbrev mX11_tick : kMi := (yX11_tick, cX11_tick, 2, (some (.int)), 6, 90)
theorem mdX11_tick : kMd mX11_tick 1 := ⟨(tb5 (i := 164) rfl), (tb1 (i := 1) rfl), by decide, by decide +kernel⟩
theorem imX11_tick : Cond.instanceMethod yX11_tick ∈ lw_tbl := (tb5 (i := 162) rfl)
theorem seX11_tick : Cond.selects RX11 yX11_tick yX11_tick ∈ lw_tbl := (tb5 (i := 163) rfl)
abbrev mX11_authorize : kMi := (yX11_authorize, cX11_authorize, 5, (some (.int)), 10, 231)
theorem mdX11_authorize : kMd mX11_authorize 0 := ⟨(tb2 (i := 238) rfl), (tb1 (i := 1) rfl), by decide, by decide +kernel⟩
theorem imX11_authorize : Cond.instanceMethod yX11_authorize ∈ lw_tbl := (tb2 (i := 236) rfl)
theorem seX11_authorize : Cond.selects RX11 yX11_authorize yX11_authorize ∈ lw_tbl := (tb2 (i := 237) rfl)
abbrev mX11_consent : kMi := (yX11_consent, cX11_consent, 6, (some (.int)), 9, 218)
theorem mdX11_consent : kMd mX11_consent 4 := ⟨(tb5 (i := 175) rfl), (tb1 (i := 1) rfl), by decide, by decide +kernel⟩
theorem imX11_consent : Cond.instanceMethod yX11_consent ∈ lw_tbl := (tb5 (i := 173) rfl)
theorem seX11_consent : Cond.selects RX11 yX11_consent yX11_consent ∈ lw_tbl := (tb5 (i := 174) rfl)
abbrev mX11_token : kMi := (yX11_token, cX11_token, 2, (some (.int)), 10, 243)
theorem mdX11_token : kMd mX11_token 0 := ⟨(tb3 (i := 232) rfl), (tb1 (i := 1) rfl), by decide, by decide +kernel⟩
theorem imX11_token : Cond.instanceMethod yX11_token ∈ lw_tbl := (tb3 (i := 230) rfl)
theorem seX11_token : Cond.selects RX11 yX11_token yX11_token ∈ lw_tbl := (tb3 (i := 231) rfl)
abbrev mX11_revoke : kMi := (yX11_revoke, cX11_revoke, 4, (some (.int)), 10, 231)
theorem mdX11_revoke : kMd mX11_revoke 0 := ⟨(tb4 (i := 172) rfl), (tb1 (i := 1) rfl), by decide, by decide +kernel⟩
theorem imX11_revoke : Cond.instanceMethod yX11_revoke ∈ lw_tbl := (tb4 (i := 170) rfl)
theorem seX11_revoke : Cond.selects RX11 yX11_revoke yX11_revoke ∈ lw_tbl := (tb4 (i := 171) rfl)
abbrev mX11_check : kMi := (yX11_check, cX11_check, 3, (some (.int)), 6, 140)
theorem mdX11_check : kMd mX11_check 1 := ⟨(tb6 (i := 6) rfl), (tb1 (i := 1) rfl), by decide, by decide +kernel⟩
theorem imX11_check : Cond.instanceMethod yX11_check ∈ lw_tbl := (tb6 (i := 4) rfl)
theorem seX11_check : Cond.selects RX11 yX11_check yX11_check ∈ lw_tbl := (tb6 (i := 5) rfl)
abbrev mX11_status : kMi := (yX11_status, cX11_status, 1, (some (.int)), 0, 0)
theorem mdX11_status : kMd mX11_status 0 := ⟨(tb4 (i := 180) rfl), (tb1 (i := 1) rfl), by decide, by decide +kernel⟩
theorem imX11_status : Cond.instanceMethod yX11_status ∈ lw_tbl := (tb4 (i := 178) rfl)
theorem seX11_status : Cond.selects RX11 yX11_status yX11_status ∈ lw_tbl := (tb4 (i := 179) rfl)
abbrev mX11_error : kMi := (yX11_error, cX11_error, 1, (some (.int)), 0, 0)
theorem mdX11_error : kMd mX11_error 0 := ⟨(tb4 (i := 184) rfl), (tb1 (i := 1) rfl), by decide, by decide +kernel⟩
theorem imX11_error : Cond.instanceMethod yX11_error ∈ lw_tbl := (tb4 (i := 182) rfl)
theorem seX11_error : Cond.selects RX11 yX11_error yX11_error ∈ lw_tbl := (tb4 (i := 183) rfl)
abbrev mX11_out : kMi := (yX11_out, cX11_out, 2, (some (.int)), 1, 21)
theorem mdX11_out : kMd mX11_out 1 := ⟨(tb4 (i := 188) rfl), (tb1 (i := 1) rfl), by decide, by decide +kernel⟩
theorem imX11_out : Cond.instanceMethod yX11_out ∈ lw_tbl := (tb4 (i := 186) rfl)
theorem seX11_out : Cond.selects RX11 yX11_out yX11_out ∈ lw_tbl := (tb4 (i := 187) rfl)
abbrev mX11_outs : kMi := (yX11_outs, cX11_outs, 1, (some (.int)), 1, 20)
theorem mdX11_outs : kMd mX11_outs 0 := ⟨(tb4 (i := 192) rfl), (tb1 (i := 1) rfl), by decide, by decide +kernel⟩
theorem imX11_outs : Cond.instanceMethod yX11_outs ∈ lw_tbl := (tb4 (i := 190) rfl)
theorem seX11_outs : Cond.selects RX11 yX11_outs yX11_outs ∈ lw_tbl := (tb4 (i := 191) rfl)
abbrev mX11_code : kMi := (yX11_code, cX11_code, 4, (some (.int)), 6, 94)
theorem mdX11_code : kMd mX11_code 2 := ⟨(tb6 (i := 18) rfl), (tb1 (i := 1) rfl), by decide, by decide +kernel⟩
theorem imX11_code : Cond.instanceMethod yX11_code ∈ lw_tbl := (tb6 (i := 16) rfl)
theorem seX11_code : Cond.selects RX11 yX11_code yX11_code ∈ lw_tbl := (tb6 (i := 17) rfl)
abbrev mX11_family : kMi := (yX11_family, cX11_family, 4, (some (.int)), 6, 118)
theorem mdX11_family : kMd mX11_family 2 := ⟨(tb6 (i := 31) rfl), (tb1 (i := 1) rfl), by decide, by decide +kernel⟩
theorem imX11_family : Cond.instanceMethod yX11_family ∈ lw_tbl := (tb6 (i := 29) rfl)
theorem seX11_family : Cond.selects RX11 yX11_family yX11_family ∈ lw_tbl := (tb6 (i := 30) rfl)
abbrev mX11_count : kMi := (yX11_count, cX11_count, 2, (some (.int)), 5, 116)
theorem mdX11_count : kMd mX11_count 1 := ⟨(tb4 (i := 196) rfl), (tb1 (i := 1) rfl), by decide, by decide +kernel⟩
theorem imX11_count : Cond.instanceMethod yX11_count ∈ lw_tbl := (tb4 (i := 194) rfl)
theorem seX11_count : Cond.selects RX11 yX11_count yX11_count ∈ lw_tbl := (tb4 (i := 195) rfl)
abbrev mX11_readForm : kMi := (yX11_readForm, cX11_readForm, 2, (some (.boolean)), 9, 210)
theorem mdX11_readForm : kMd mX11_readForm 0 := ⟨(tb3 (i := 2) rfl), (tb1 (i := 1) rfl), by decide, by decide +kernel⟩
theorem imX11_readForm : Cond.instanceMethod yX11_readForm ∈ lw_tbl := (tb3 (i := 1) rfl)
theorem seX11_readForm : Cond.selects RX11 yX11_readForm yX11_readForm ∈ lw_tbl := (tb0 (i := 3) rfl)
abbrev mX11_isScopeWord : kMi := (yX11_isScopeWord, cX11_isScopeWord, 1, (some (.boolean)), 3, 66)
theorem mdX11_isScopeWord : kMd mX11_isScopeWord 1 := ⟨(tb4 (i := 216) rfl), (tb1 (i := 1) rfl), by decide, by decide +kernel⟩
theorem ssX11_isScopeWord : Cond.static yX11_isScopeWord ∈ lw_tbl := (tb4 (i := 215) rfl)
abbrev mX11_isRedirect : kMi := (yX11_isRedirect, cX11_isRedirect, 1, (some (.boolean)), 3, 66)
theorem mdX11_isRedirect : kMd mX11_isRedirect 1 := ⟨(tb5 (i := 127) rfl), (tb1 (i := 1) rfl), by decide, by decide +kernel⟩
theorem ssX11_isRedirect : Cond.static yX11_isRedirect ∈ lw_tbl := (tb5 (i := 126) rfl)
abbrev mX11_isLife : kMi := (yX11_isLife, cX11_isLife, 1, (some (.boolean)), 0, 0)
theorem mdX11_isLife : kMd mX11_isLife 1 := ⟨(tb5 (i := 155) rfl), (tb1 (i := 1) rfl), by decide, by decide +kernel⟩
theorem ssX11_isLife : Cond.static yX11_isLife ∈ lw_tbl := (tb5 (i := 154) rfl)
abbrev mX11_isWithin : kMi := (yX11_isWithin, cX11_isWithin, 2, (some (.boolean)), 0, 0)
theorem mdX11_isWithin : kMd mX11_isWithin 2 := ⟨(tb3 (i := 146) rfl), (tb1 (i := 1) rfl), by decide, by decide +kernel⟩
theorem ssX11_isWithin : Cond.static yX11_isWithin ∈ lw_tbl := (tb3 (i := 145) rfl)
abbrev mX11_areScopes : kMi := (yX11_areScopes, cX11_areScopes, 2, (some (.boolean)), 1, 21)
theorem mdX11_areScopes : kMd mX11_areScopes 1 := ⟨(tb5 (i := 114) rfl), (tb1 (i := 1) rfl), by decide, by decide +kernel⟩
theorem imX11_areScopes : Cond.instanceMethod yX11_areScopes ∈ lw_tbl := (tb5 (i := 113) rfl)
theorem seX11_areScopes : Cond.selects RX11 yX11_areScopes yX11_areScopes ∈ lw_tbl := (tb0 (i := 34) rfl)
abbrev mX11_scopeOf : kMi := (yX11_scopeOf, cX11_scopeOf, 5, (some (.int)), 4, 94)
theorem mdX11_scopeOf : kMd mX11_scopeOf 3 := ⟨(tb3 (i := 120) rfl), (tb1 (i := 1) rfl), by decide, by decide +kernel⟩
theorem imX11_scopeOf : Cond.instanceMethod yX11_scopeOf ∈ lw_tbl := (tb3 (i := 119) rfl)
theorem seX11_scopeOf : Cond.selects RX11 yX11_scopeOf yX11_scopeOf ∈ lw_tbl := (tb0 (i := 12) rfl)
abbrev mX11_scopesTold : kMi := (yX11_scopesTold, cX11_scopesTold, 7, (some (.int)), 5, 118)
theorem mdX11_scopesTold : kMd mX11_scopesTold 1 := ⟨(tb3 (i := 110) rfl), (tb1 (i := 1) rfl), by decide, by decide +kernel⟩
theorem imX11_scopesTold : Cond.instanceMethod yX11_scopesTold ∈ lw_tbl := (tb3 (i := 109) rfl)
theorem seX11_scopesTold : Cond.selects RX11 yX11_scopesTold yX11_scopesTold ∈ lw_tbl := (tb0 (i := 11) rfl)
abbrev mX11_clientOnTape : kMi := (yX11_clientOnTape, cX11_clientOnTape, 7, (some (.object "GrantServer$Client")), 5, 105)
theorem mdX11_clientOnTape : kMd mX11_clientOnTape 3 := ⟨(tb5 (i := 78) rfl), (tb1 (i := 1) rfl), by decide, by decide +kernel⟩
theorem imX11_clientOnTape : Cond.instanceMethod yX11_clientOnTape ∈ lw_tbl := (tb5 (i := 77) rfl)
theorem seX11_clientOnTape : Cond.selects RX11 yX11_clientOnTape yX11_clientOnTape ∈ lw_tbl := (tb0 (i := 33) rfl)
abbrev mX11_clientOf : kMi := (yX11_clientOf, cX11_clientOf, 3, (some (.object "GrantServer$Client")), 4, 94)
theorem mdX11_clientOf : kMd mX11_clientOf 1 := ⟨(tb3 (i := 86) rfl), (tb1 (i := 1) rfl), by decide, by decide +kernel⟩
theorem imX11_clientOf : Cond.instanceMethod yX11_clientOf ∈ lw_tbl := (tb3 (i := 85) rfl)
theorem seX11_clientOf : Cond.selects RX11 yX11_clientOf yX11_clientOf ∈ lw_tbl := (tb0 (i := 10) rfl)
abbrev mX11_whoAsks : kMi := (yX11_whoAsks, cX11_whoAsks, 2, (some (.object "GrantServer$Client")), 5, 116)
theorem mdX11_whoAsks : kMd mX11_whoAsks 0 := ⟨(tb4 (i := 2) rfl), (tb1 (i := 1) rfl), by decide, by decide +kernel⟩
theorem imX11_whoAsks : Cond.instanceMethod yX11_whoAsks ∈ lw_tbl := (tb4 (i := 1) rfl)
theorem seX11_whoAsks : Cond.selects RX11 yX11_whoAsks yX11_whoAsks ∈ lw_tbl := (tb0 (i := 18) rfl)
abbrev mX11_faultOfRequest : kMi := (yX11_faultOfRequest, cX11_faultOfRequest, 3, (some (.int)), 6, 137)
theorem mdX11_faultOfRequest : kMd mX11_faultOfRequest 2 := ⟨(tb3 (i := 125) rfl), (tb1 (i := 1) rfl), by decide, by decide +kernel⟩
theorem imX11_faultOfRequest : Cond.instanceMethod yX11_faultOfRequest ∈ lw_tbl := (tb3 (i := 124) rfl)
theorem seX11_faultOfRequest : Cond.selects RX11 yX11_faultOfRequest yX11_faultOfRequest ∈ lw_tbl := (tb0 (i := 13) rfl)
abbrev mX11_isChallenge : kMi := (yX11_isChallenge, cX11_isChallenge, 1, (some (.boolean)), 3, 66)
theorem mdX11_isChallenge : kMd mX11_isChallenge 1 := ⟨(tb3 (i := 130) rfl), (tb1 (i := 1) rfl), by decide, by decide +kernel⟩
theorem ssX11_isChallenge : Cond.static yX11_isChallenge ∈ lw_tbl := (tb3 (i := 129) rfl)
abbrev mX11_sendError : kMi := (yX11_sendError, cX11_sendError, 4, (some (.int)), 7, 159)
theorem mdX11_sendError : kMd mX11_sendError 3 := ⟨(tb3 (i := 150) rfl), (tb1 (i := 1) rfl), by decide, by decide +kernel⟩
theorem imX11_sendError : Cond.instanceMethod yX11_sendError ∈ lw_tbl := (tb3 (i := 149) rfl)
theorem seX11_sendError : Cond.selects RX11 yX11_sendError yX11_sendError ∈ lw_tbl := (tb0 (i := 14) rfl)
abbrev mX11_sendCode : kMi := (yX11_sendCode, cX11_sendCode, 2, (some (.int)), 8, 197)
theorem mdX11_sendCode : kMd mX11_sendCode 1 := ⟨(tb5 (i := 238) rfl), (tb1 (i := 1) rfl), by decide, by decide +kernel⟩
theorem imX11_sendCode : Cond.instanceMethod yX11_sendCode ∈ lw_tbl := (tb5 (i := 237) rfl)
theorem seX11_sendCode : Cond.selects RX11 yX11_sendCode yX11_sendCode ∈ lw_tbl := (tb0 (i := 35) rfl)
abbrev mX11_startLocation : kMi := (yX11_startLocation, cX11_startLocation, 2, none, 3, 66)
theorem mdX11_startLocation : kMd mX11_startLocation 1 := ⟨(tb3 (i := 154) rfl), (tb1 (i := 1) rfl), by decide, by decide +kernel⟩
theorem imX11_startLocation : Cond.instanceMethod yX11_startLocation ∈ lw_tbl := (tb3 (i := 153) rfl)
theorem seX11_startLocation : Cond.selects RX11 yX11_startLocation yX11_startLocation ∈ lw_tbl := (tb0 (i := 15) rfl)
abbrev mX11_endLocation : kMi := (yX11_endLocation, cX11_endLocation, 2, none, 6, 138)
theorem mdX11_endLocation : kMd mX11_endLocation 1 := ⟨(tb3 (i := 178) rfl), (tb1 (i := 1) rfl), by decide, by decide +kernel⟩
theorem imX11_endLocation : Cond.instanceMethod yX11_endLocation ∈ lw_tbl := (tb3 (i := 177) rfl)
theorem seX11_endLocation : Cond.selects RX11 yX11_endLocation yX11_endLocation ∈ lw_tbl := (tb0 (i := 16) rfl)
abbrev mX11_redeem : kMi := (yX11_redeem, cX11_redeem, 4, (some (.int)), 9, 220)
theorem mdX11_redeem : kMd mX11_redeem 1 := ⟨(tb4 (i := 12) rfl), (tb1 (i := 1) rfl), by decide, by decide +kernel⟩
theorem imX11_redeem : Cond.instanceMethod yX11_redeem ∈ lw_tbl := (tb4 (i := 11) rfl)
theorem seX11_redeem : Cond.selects RX11 yX11_redeem yX11_redeem ∈ lw_tbl := (tb0 (i := 19) rfl)
abbrev mX11_turn : kMi := (yX11_turn, cX11_turn, 4, (some (.int)), 9, 220)
theorem mdX11_turn : kMd mX11_turn 1 := ⟨(tb4 (i := 164) rfl), (tb1 (i := 1) rfl), by decide, by decide +kernel⟩
theorem imX11_turn : Cond.instanceMethod yX11_turn ∈ lw_tbl := (tb4 (i := 163) rfl)
theorem seX11_turn : Cond.selects RX11 yX11_turn yX11_turn ∈ lw_tbl := (tb0 (i := 27) rfl)
abbrev mX11_isVerifier : kMi := (yX11_isVerifier, cX11_isVerifier, 1, (some (.boolean)), 2, 42)
theorem mdX11_isVerifier : kMd mX11_isVerifier 1 := ⟨(tb4 (i := 15) rfl), (tb1 (i := 1) rfl), by decide, by decide +kernel⟩
theorem ssX11_isVerifier : Cond.static yX11_isVerifier ∈ lw_tbl := (tb4 (i := 14) rfl)
abbrev mX11_canGiveTokens : kMi := (yX11_canGiveTokens, cX11_canGiveTokens, 2, (some (.boolean)), 6, 141)
theorem mdX11_canGiveTokens : kMd mX11_canGiveTokens 1 := ⟨(tb4 (i := 57) rfl), (tb1 (i := 1) rfl), by decide, by decide +kernel⟩
theorem imX11_canGiveTokens : Cond.instanceMethod yX11_canGiveTokens ∈ lw_tbl := (tb4 (i := 56) rfl)
theorem seX11_canGiveTokens : Cond.selects RX11 yX11_canGiveTokens yX11_canGiveTokens ∈ lw_tbl := (tb0 (i := 23) rfl)
abbrev mX11_giveTokens : kMi := (yX11_giveTokens, cX11_giveTokens, 4, (some (.int)), 8, 197)
theorem mdX11_giveTokens : kMd mX11_giveTokens 3 := ⟨(tb4 (i := 104) rfl), (tb1 (i := 1) rfl), by decide, by decide +kernel⟩
theorem imX11_giveTokens : Cond.instanceMethod yX11_giveTokens ∈ lw_tbl := (tb4 (i := 103) rfl)
theorem seX11_giveTokens : Cond.selects RX11 yX11_giveTokens yX11_giveTokens ∈ lw_tbl := (tb0 (i := 24) rfl)
abbrev mX11_addScopeWords : kMi := (yX11_addScopeWords, cX11_addScopeWords, 4, none, 4, 94)
theorem mdX11_addScopeWords : kMd mX11_addScopeWords 1 := ⟨(tb4 (i := 159) rfl), (tb1 (i := 1) rfl), by decide, by decide +kernel⟩
theorem imX11_addScopeWords : Cond.instanceMethod yX11_addScopeWords ∈ lw_tbl := (tb4 (i := 158) rfl)
theorem seX11_addScopeWords : Cond.selects RX11 yX11_addScopeWords yX11_addScopeWords ∈ lw_tbl := (tb0 (i := 26) rfl)
abbrev mX11_codeOf : kMi := (yX11_codeOf, cX11_codeOf, 3, (some (.object "GrantServer$Code")), 5, 118)
theorem mdX11_codeOf : kMd mX11_codeOf 1 := ⟨(tb4 (i := 19) rfl), (tb1 (i := 1) rfl), by decide, by decide +kernel⟩
theorem imX11_codeOf : Cond.instanceMethod yX11_codeOf ∈ lw_tbl := (tb4 (i := 18) rfl)
theorem seX11_codeOf : Cond.selects RX11 yX11_codeOf yX11_codeOf ∈ lw_tbl := (tb0 (i := 20) rfl)
abbrev mX11_accessOf : kMi := (yX11_accessOf, cX11_accessOf, 3, (some (.object "GrantServer$Token")), 5, 118)
theorem mdX11_accessOf : kMd mX11_accessOf 1 := ⟨(tb4 (i := 176) rfl), (tb1 (i := 1) rfl), by decide, by decide +kernel⟩
theorem imX11_accessOf : Cond.instanceMethod yX11_accessOf ∈ lw_tbl := (tb4 (i := 175) rfl)
theorem seX11_accessOf : Cond.selects RX11 yX11_accessOf yX11_accessOf ∈ lw_tbl := (tb0 (i := 29) rfl)
abbrev mX11_refreshOf : kMi := (yX11_refreshOf, cX11_refreshOf, 3, (some (.object "GrantServer$Token")), 5, 118)
theorem mdX11_refreshOf : kMd mX11_refreshOf 1 := ⟨(tb4 (i := 168) rfl), (tb1 (i := 1) rfl), by decide, by decide +kernel⟩
theorem imX11_refreshOf : Cond.instanceMethod yX11_refreshOf ∈ lw_tbl := (tb4 (i := 167) rfl)
theorem seX11_refreshOf : Cond.selects RX11 yX11_refreshOf yX11_refreshOf ∈ lw_tbl := (tb0 (i := 28) rfl)
abbrev mX11_goodAccessTokens : kMi := (yX11_goodAccessTokens, cX11_goodAccessTokens, 5, (some (.int)), 4, 94)
theorem mdX11_goodAccessTokens : kMd mX11_goodAccessTokens 1 := ⟨(tb6 (i := 36) rfl), (tb1 (i := 1) rfl), by decide, by decide +kernel⟩
theorem imX11_goodAccessTokens : Cond.instanceMethod yX11_goodAccessTokens ∈ lw_tbl := (tb6 (i := 35) rfl)
theorem seX11_goodAccessTokens : Cond.selects RX11 yX11_goodAccessTokens yX11_goodAccessTokens ∈ lw_tbl := (tb0 (i := 36) rfl)
abbrev mX11_openRequests : kMi := (yX11_openRequests, cX11_openRequests, 3, (some (.int)), 4, 94)
theorem mdX11_openRequests : kMd mX11_openRequests 0 := ⟨(tb4 (i := 200) rfl), (tb1 (i := 1) rfl), by decide, by decide +kernel⟩
theorem imX11_openRequests : Cond.instanceMethod yX11_openRequests ∈ lw_tbl := (tb4 (i := 199) rfl)
theorem seX11_openRequests : Cond.selects RX11 yX11_openRequests yX11_openRequests ∈ lw_tbl := (tb0 (i := 30) rfl)
abbrev mX11_familiesTakenBack : kMi := (yX11_familiesTakenBack, cX11_familiesTakenBack, 3, (some (.int)), 4, 94)
theorem mdX11_familiesTakenBack : kMd mX11_familiesTakenBack 0 := ⟨(tb4 (i := 204) rfl), (tb1 (i := 1) rfl), by decide, by decide +kernel⟩
theorem imX11_familiesTakenBack : Cond.instanceMethod yX11_familiesTakenBack ∈ lw_tbl := (tb4 (i := 203) rfl)
theorem seX11_familiesTakenBack : Cond.selects RX11 yX11_familiesTakenBack yX11_familiesTakenBack ∈ lw_tbl := (tb0 (i := 31) rfl)
abbrev mX11_answer : kMi := (yX11_answer, cX11_answer, 3, (some (.int)), 1, 20)
theorem mdX11_answer : kMd mX11_answer 2 := ⟨(tb3 (i := 82) rfl), (tb1 (i := 1) rfl), by decide, by decide +kernel⟩
theorem imX11_answer : Cond.instanceMethod yX11_answer ∈ lw_tbl := (tb3 (i := 81) rfl)
theorem seX11_answer : Cond.selects RX11 yX11_answer yX11_answer ∈ lw_tbl := (tb0 (i := 9) rfl)
abbrev mX11_refuse : kMi := (yX11_refuse, cX11_refuse, 2, (some (.int)), 2, 42)
theorem mdX11_refuse : kMd mX11_refuse 1 := ⟨(tb3 (i := 78) rfl), (tb1 (i := 1) rfl), by decide, by decide +kernel⟩
theorem imX11_refuse : Cond.instanceMethod yX11_refuse ∈ lw_tbl := (tb3 (i := 77) rfl)
theorem seX11_refuse : Cond.selects RX11 yX11_refuse yX11_refuse ∈ lw_tbl := (tb0 (i := 8) rfl)
abbrev mX11_deny : kMi := (yX11_deny, cX11_deny, 3, (some (.int)), 6, 137)
theorem mdX11_deny : kMd mX11_deny 2 := ⟨(tb3 (i := 236) rfl), (tb1 (i := 1) rfl), by decide, by decide +kernel⟩
theorem imX11_deny : Cond.instanceMethod yX11_deny ∈ lw_tbl := (tb3 (i := 235) rfl)
theorem seX11_deny : Cond.selects RX11 yX11_deny yX11_deny ∈ lw_tbl := (tb0 (i := 17) rfl)
abbrev mX11_wordOf : kMi := (yX11_wordOf, cX11_wordOf, 1, (some (.object "java/lang/String")), 0, 0)
theorem mdX11_wordOf : kMd mX11_wordOf 1 := ⟨(tb3 (i := 163) rfl), (tb1 (i := 1) rfl), by decide, by decide +kernel⟩
theorem ssX11_wordOf : Cond.static yX11_wordOf ∈ lw_tbl := (tb3 (i := 162) rfl)
abbrev mX11_isVisibleByte : kMi := (yX11_isVisibleByte, cX11_isVisibleByte, 1, (some (.boolean)), 0, 0)
theorem mdX11_isVisibleByte : kMd mX11_isVisibleByte 1 := ⟨(tb3 (i := 53) rfl), (tb1 (i := 1) rfl), by decide, by decide +kernel⟩
theorem ssX11_isVisibleByte : Cond.static yX11_isVisibleByte ∈ lw_tbl := (tb3 (i := 52) rfl)
abbrev mX11_isUnreserved : kMi := (yX11_isUnreserved, cX11_isUnreserved, 1, (some (.boolean)), 0, 0)
theorem mdX11_isUnreserved : kMd mX11_isUnreserved 1 := ⟨(tb3 (i := 137) rfl), (tb1 (i := 1) rfl), by decide, by decide +kernel⟩
theorem ssX11_isUnreserved : Cond.static yX11_isUnreserved ∈ lw_tbl := (tb3 (i := 136) rfl)
abbrev mX11_hexDigit : kMi := (yX11_hexDigit, cX11_hexDigit, 1, (some (.int)), 0, 0)
theorem mdX11_hexDigit : kMd mX11_hexDigit 1 := ⟨(tb3 (i := 49) rfl), (tb1 (i := 1) rfl), by decide, by decide +kernel⟩
theorem ssX11_hexDigit : Cond.static yX11_hexDigit ∈ lw_tbl := (tb3 (i := 48) rfl)
abbrev mX12_init : kMi := (yX12_init, cX12_init, 1, none, 1, 20)
theorem mdX12_init : kMd mX12_init 0 := ⟨(tb6 (i := 42) rfl), (tb1 (i := 14) rfl), by decide, by decide +kernel⟩
theorem imX12_init : Cond.instanceMethod yX12_init ∈ lw_tbl := (tb6 (i := 41) rfl)
abbrev mX12_thrown : kMi := (yX12_thrown, cX12_thrown, 1, (some (.int)), 0, 0)
theorem mdX12_thrown : kMd mX12_thrown 0 := ⟨(tb7 (i := 35) rfl), (tb1 (i := 14) rfl), by decide, by decide +kernel⟩
theorem imX12_thrown : Cond.instanceMethod yX12_thrown ∈ lw_tbl := (tb7 (i := 33) rfl)
theorem seX12_thrown : Cond.selects RX12 yX12_thrown yX12_thrown ∈ lw_tbl := (tb7 (i := 34) rfl)
abbrev mX12_throwsIf : kMi := (yX12_throwsIf, cX12_throwsIf, 3, (some (.boolean)), 0, 0)
theorem mdX12_throwsIf : kMd mX12_throwsIf 2 := ⟨(tb7 (i := 65) rfl), (tb1 (i := 14) rfl), by decide, by decide +kernel⟩
theorem imX12_throwsIf : Cond.instanceMethod yX12_throwsIf ∈ lw_tbl := (tb7 (i := 64) rfl)
theorem seX12_throwsIf : Cond.selects RX12 yX12_throwsIf yX12_throwsIf ∈ lw_tbl := (tb0 (i := 38) rfl)
abbrev mX12_isLike : kMi := (yX12_isLike, cX12_isLike, 8, (some (.boolean)), 0, 0)
theorem mdX12_isLike : kMd mX12_isLike 6 := ⟨(tb7 (i := 61) rfl), (tb1 (i := 14) rfl), by decide, by decide +kernel⟩
theorem ssX12_isLike : Cond.static yX12_isLike ∈ lw_tbl := (tb7 (i := 60) rfl)
abbrev mX12_isText : kMi := (yX12_isText, cX12_isText, 6, (some (.boolean)), 5, 115)
theorem mdX12_isText : kMd mX12_isText 4 := ⟨(tb7 (i := 131) rfl), (tb1 (i := 14) rfl), by decide, by decide +kernel⟩
theorem ssX12_isText : Cond.static yX12_isText ∈ lw_tbl := (tb7 (i := 130) rfl)
abbrev mX12_isVisible : kMi := (yX12_isVisible, cX12_isVisible, 5, (some (.boolean)), 0, 0)
theorem mdX12_isVisible : kMd mX12_isVisible 3 := ⟨(tb7 (i := 58) rfl), (tb1 (i := 14) rfl), by decide, by decide +kernel⟩
theorem ssX12_isVisible : Cond.static yX12_isVisible ∈ lw_tbl := (tb7 (i := 57) rfl)
abbrev mX12_isLetterOrDigit : kMi := (yX12_isLetterOrDigit, cX12_isLetterOrDigit, 1, (some (.boolean)), 0, 0)
theorem mdX12_isLetterOrDigit : kMd mX12_isLetterOrDigit 1 := ⟨(tb7 (i := 160) rfl), (tb1 (i := 14) rfl), by decide, by decide +kernel⟩
theorem ssX12_isLetterOrDigit : Cond.static yX12_isLetterOrDigit ∈ lw_tbl := (tb7 (i := 159) rfl)
abbrev mX12_hex : kMi := (yX12_hex, cX12_hex, 1, (some (.int)), 0, 0)
theorem mdX12_hex : kMd mX12_hex 1 := ⟨(tb7 (i := 109) rfl), (tb1 (i := 14) rfl), by decide, by decide +kernel⟩
theorem ssX12_hex : Cond.static yX12_hex ∈ lw_tbl := (tb7 (i := 108) rfl)
abbrev mX12_sign : kMi := (yX12_sign, cX12_sign, 1, (some (.int)), 0, 0)
theorem mdX12_sign : kMd mX12_sign 1 := ⟨(tb7 (i := 235) rfl), (tb1 (i := 14) rfl), by decide, by decide +kernel⟩
theorem ssX12_sign : Cond.static yX12_sign ∈ lw_tbl := (tb7 (i := 234) rfl)
abbrev mX12_coded : kMi := (yX12_coded, cX12_coded, 7, (some (.int)), 1, 20)
theorem mdX12_coded : kMd mX12_coded 3 := ⟨(tb7 (i := 232) rfl), (tb1 (i := 14) rfl), by decide, by decide +kernel⟩
theorem ssX12_coded : Cond.static yX12_coded ∈ lw_tbl := (tb7 (i := 231) rfl)
abbrev mX12_known : kMi := (yX12_known, cX12_known, 3, (some (.int)), 6, 140)
theorem mdX12_known : kMd mX12_known 2 := ⟨(tb7 (i := 112) rfl), (tb1 (i := 14) rfl), by decide, by decide +kernel⟩
theorem ssX12_known : Cond.static yX12_known ∈ lw_tbl := (tb7 (i := 111) rfl)
abbrev mX12_word : kMi := (yX12_word, cX12_word, 1, (some (.object "java/lang/String")), 0, 0)
theorem mdX12_word : kMd mX12_word 1 := ⟨(tb7 (i := 115) rfl), (tb1 (i := 14) rfl), by decide, by decide +kernel⟩
theorem ssX12_word : Cond.static yX12_word ∈ lw_tbl := (tb7 (i := 114) rfl)
abbrev mX12_decode : kMi := (yX12_decode, cX12_decode, 6, (some (.int)), 1, 20)
theorem mdX12_decode : kMd mX12_decode 2 := ⟨(tb7 (i := 106) rfl), (tb1 (i := 14) rfl), by decide, by decide +kernel⟩
theorem imX12_decode : Cond.instanceMethod yX12_decode ∈ lw_tbl := (tb7 (i := 105) rfl)
theorem seX12_decode : Cond.selects RX12 yX12_decode yX12_decode ∈ lw_tbl := (tb0 (i := 41) rfl)
abbrev mX12_isForm : kMi := (yX12_isForm, cX12_isForm, 6, (some (.boolean)), 8, 189)
theorem mdX12_isForm : kMd mX12_isForm 1 := ⟨(tb7 (i := 98) rfl), (tb1 (i := 14) rfl), by decide, by decide +kernel⟩
theorem imX12_isForm : Cond.instanceMethod yX12_isForm ∈ lw_tbl := (tb7 (i := 97) rfl)
theorem seX12_isForm : Cond.selects RX12 yX12_isForm yX12_isForm ∈ lw_tbl := (tb0 (i := 39) rfl)
abbrev mX12_piece : kMi := (yX12_piece, cX12_piece, 8, (some (.int)), 7, 162)
theorem mdX12_piece : kMd mX12_piece 3 := ⟨(tb7 (i := 102) rfl), (tb1 (i := 14) rfl), by decide, by decide +kernel⟩
theorem imX12_piece : Cond.instanceMethod yX12_piece ∈ lw_tbl := (tb7 (i := 101) rfl)
theorem seX12_piece : Cond.selects RX12 yX12_piece yX12_piece ∈ lw_tbl := (tb0 (i := 40) rfl)
abbrev mX12_has : kMi := (yX12_has, cX12_has, 2, (some (.boolean)), 0, 0)
theorem mdX12_has : kMd mX12_has 1 := ⟨(tb7 (i := 141) rfl), (tb1 (i := 14) rfl), by decide, by decide +kernel⟩
theorem imX12_has : Cond.instanceMethod yX12_has ∈ lw_tbl := (tb7 (i := 140) rfl)
theorem seX12_has : Cond.selects RX12 yX12_has yX12_has ∈ lw_tbl := (tb0 (i := 43) rfl)
abbrev mX12_isValue : kMi := (yX12_isValue, cX12_isValue, 3, (some (.boolean)), 6, 140)
theorem mdX12_isValue : kMd mX12_isValue 2 := ⟨(tb7 (i := 153) rfl), (tb1 (i := 14) rfl), by decide, by decide +kernel⟩
theorem imX12_isValue : Cond.instanceMethod yX12_isValue ∈ lw_tbl := (tb7 (i := 152) rfl)
theorem seX12_isValue : Cond.selects RX12 yX12_isValue yX12_isValue ∈ lw_tbl := (tb0 (i := 46) rfl)
abbrev mX12_clientOf : kMi := (yX12_clientOf, cX12_clientOf, 3, (some (.int)), 1, 27)
theorem mdX12_clientOf : kMd mX12_clientOf 0 := ⟨(tb7 (i := 137) rfl), (tb1 (i := 14) rfl), by decide, by decide +kernel⟩
theorem imX12_clientOf : Cond.instanceMethod yX12_clientOf ∈ lw_tbl := (tb7 (i := 136) rfl)
theorem seX12_clientOf : Cond.selects RX12 yX12_clientOf yX12_clientOf ∈ lw_tbl := (tb0 (i := 42) rfl)
abbrev mX12_scopesOf : kMi := (yX12_scopesOf, cX12_scopesOf, 7, (some (.int)), 1, 27)
theorem mdX12_scopesOf : kMd mX12_scopesOf 0 := ⟨(tb7 (i := 169) rfl), (tb1 (i := 14) rfl), by decide, by decide +kernel⟩
theorem imX12_scopesOf : Cond.instanceMethod yX12_scopesOf ∈ lw_tbl := (tb7 (i := 168) rfl)
theorem seX12_scopesOf : Cond.selects RX12 yX12_scopesOf yX12_scopesOf ∈ lw_tbl := (tb0 (i := 49) rfl)
abbrev mX12_isUsed : kMi := (yX12_isUsed, cX12_isUsed, 5, (some (.boolean)), 1, 25)
theorem mdX12_isUsed : kMd mX12_isUsed 2 := ⟨(tb7 (i := 212) rfl), (tb1 (i := 14) rfl), by decide, by decide +kernel⟩
theorem imX12_isUsed : Cond.instanceMethod yX12_isUsed ∈ lw_tbl := (tb7 (i := 211) rfl)
theorem seX12_isUsed : Cond.selects RX12 yX12_isUsed yX12_isUsed ∈ lw_tbl := (tb0 (i := 55) rfl)
abbrev mX12_areSame : kMi := (yX12_areSame, cX12_areSame, 6, (some (.boolean)), 0, 0)
theorem mdX12_areSame : kMd mX12_areSame 4 := ⟨(tb7 (i := 215) rfl), (tb1 (i := 14) rfl), by decide, by decide +kernel⟩
theorem ssX12_areSame : Cond.static yX12_areSame ∈ lw_tbl := (tb7 (i := 214) rfl)
abbrev mX12_takes : kMi := (yX12_takes, cX12_takes, 8, (some (.int)), 2, 49)
theorem mdX12_takes : kMd mX12_takes 1 := ⟨(tb7 (i := 208) rfl), (tb1 (i := 14) rfl), by decide, by decide +kernel⟩
theorem imX12_takes : Cond.instanceMethod yX12_takes ∈ lw_tbl := (tb7 (i := 207) rfl)
theorem seX12_takes : Cond.selects RX12 yX12_takes yX12_takes ∈ lw_tbl := (tb0 (i := 54) rfl)
abbrev mX12_uses : kMi := (yX12_uses, cX12_uses, 3, none, 0, 0)
theorem mdX12_uses : kMd mX12_uses 1 := ⟨(tb7 (i := 219) rfl), (tb1 (i := 14) rfl), by decide, by decide +kernel⟩
theorem imX12_uses : Cond.instanceMethod yX12_uses ∈ lw_tbl := (tb7 (i := 218) rfl)
theorem seX12_uses : Cond.selects RX12 yX12_uses yX12_uses ∈ lw_tbl := (tb0 (i := 56) rfl)
abbrev mX12_handle : kMi := (yX12_handle, cX12_handle, 3, none, 2, 46)
theorem mdX12_handle : kMd mX12_handle 1 := ⟨(tb7 (i := 229) rfl), (tb1 (i := 14) rfl), by decide, by decide +kernel⟩
theorem imX12_handle : Cond.instanceMethod yX12_handle ∈ lw_tbl := (tb7 (i := 228) rfl)
theorem seX12_handle : Cond.selects RX12 yX12_handle yX12_handle ∈ lw_tbl := (tb0 (i := 58) rfl)
abbrev mX12_isHandle : kMi := (yX12_isHandle, cX12_isHandle, 5, (some (.boolean)), 3, 68)
theorem mdX12_isHandle : kMd mX12_isHandle 4 := ⟨(tb8 (i := 22) rfl), (tb1 (i := 14) rfl), by decide, by decide +kernel⟩
theorem imX12_isHandle : Cond.instanceMethod yX12_isHandle ∈ lw_tbl := (tb8 (i := 21) rfl)
theorem seX12_isHandle : Cond.selects RX12 yX12_isHandle yX12_isHandle ∈ lw_tbl := (tb0 (i := 63) rfl)
abbrev mX12_puts : kMi := (yX12_puts, cX12_puts, 2, none, 0, 0)
theorem mdX12_puts : kMd mX12_puts 1 := ⟨(tb7 (i := 177) rfl), (tb1 (i := 14) rfl), by decide, by decide +kernel⟩
theorem imX12_puts : Cond.instanceMethod yX12_puts ∈ lw_tbl := (tb7 (i := 176) rfl)
theorem seX12_puts : Cond.selects RX12 yX12_puts yX12_puts ∈ lw_tbl := (tb0 (i := 51) rfl)
abbrev mX12_says : kMi := (yX12_says, cX12_says, 3, none, 5, 115)
theorem mdX12_says : kMd mX12_says 1 := ⟨(tb7 (i := 182) rfl), (tb1 (i := 14) rfl), by decide, by decide +kernel⟩
theorem imX12_says : Cond.instanceMethod yX12_says ∈ lw_tbl := (tb7 (i := 181) rfl)
theorem seX12_says : Cond.selects RX12 yX12_says yX12_says ∈ lw_tbl := (tb0 (i := 52) rfl)
abbrev mX12_saysHandle : kMi := (yX12_saysHandle, cX12_saysHandle, 3, none, 3, 68)
theorem mdX12_saysHandle : kMd mX12_saysHandle 1 := ⟨(tb7 (i := 225) rfl), (tb1 (i := 14) rfl), by decide, by decide +kernel⟩
theorem imX12_saysHandle : Cond.instanceMethod yX12_saysHandle ∈ lw_tbl := (tb7 (i := 224) rfl)
theorem seX12_saysHandle : Cond.selects RX12 yX12_saysHandle yX12_saysHandle ∈ lw_tbl := (tb0 (i := 57) rfl)
abbrev mX12_errorWord : kMi := (yX12_errorWord, cX12_errorWord, 1, (some (.object "java/lang/String")), 0, 0)
theorem mdX12_errorWord : kMd mX12_errorWord 1 := ⟨(tb7 (i := 185) rfl), (tb1 (i := 14) rfl), by decide, by decide +kernel⟩
theorem ssX12_errorWord : Cond.static yX12_errorWord ∈ lw_tbl := (tb7 (i := 184) rfl)
abbrev mX12_ends : kMi := (yX12_ends, cX12_ends, 3, none, 0, 0)
theorem mdX12_ends : kMd mX12_ends 2 := ⟨(tb7 (i := 149) rfl), (tb1 (i := 14) rfl), by decide, by decide +kernel⟩
theorem imX12_ends : Cond.instanceMethod yX12_ends ∈ lw_tbl := (tb7 (i := 148) rfl)
theorem seX12_ends : Cond.selects RX12 yX12_ends yX12_ends ∈ lw_tbl := (tb0 (i := 45) rfl)
abbrev mX12_refuses : kMi := (yX12_refuses, cX12_refuses, 3, (some (.int)), 6, 137)
theorem mdX12_refuses : kMd mX12_refuses 2 := ⟨(tb8 (i := 3) rfl), (tb1 (i := 14) rfl), by decide, by decide +kernel⟩
theorem imX12_refuses : Cond.instanceMethod yX12_refuses ∈ lw_tbl := (tb8 (i := 2) rfl)
theorem seX12_refuses : Cond.selects RX12 yX12_refuses yX12_refuses ∈ lw_tbl := (tb0 (i := 59) rfl)
abbrev mX12_place : kMi := (yX12_place, cX12_place, 7, none, 1, 21)
theorem mdX12_place : kMd mX12_place 2 := ⟨(tb7 (i := 173) rfl), (tb1 (i := 14) rfl), by decide, by decide +kernel⟩
theorem imX12_place : Cond.instanceMethod yX12_place ∈ lw_tbl := (tb7 (i := 172) rfl)
theorem seX12_place : Cond.selects RX12 yX12_place yX12_place ∈ lw_tbl := (tb0 (i := 50) rfl)
abbrev mX12_state : kMi := (yX12_state, cX12_state, 6, none, 6, 137)
theorem mdX12_state : kMd mX12_state 3 := ⟨(tb7 (i := 199) rfl), (tb1 (i := 14) rfl), by decide, by decide +kernel⟩
theorem imX12_state : Cond.instanceMethod yX12_state ∈ lw_tbl := (tb7 (i := 198) rfl)
theorem seX12_state : Cond.selects RX12 yX12_state yX12_state ∈ lw_tbl := (tb0 (i := 53) rfl)
abbrev mX12_feed : kMi := (yX12_feed, cX12_feed, 7, (some (.int)), 0, 0)
theorem mdX12_feed : kMd mX12_feed 5 := ⟨(tb7 (i := 39) rfl), (tb1 (i := 14) rfl), by decide, by decide +kernel⟩
theorem imX12_feed : Cond.instanceMethod yX12_feed ∈ lw_tbl := (tb7 (i := 37) rfl)
theorem seX12_feed : Cond.selects RX12 yX12_feed yX12_feed ∈ lw_tbl := (tb7 (i := 38) rfl)
abbrev mX12_end : kMi := (yX12_end, cX12_end, 2, (some (.boolean)), 0, 0)
theorem mdX12_end : kMd mX12_end 1 := ⟨(tb7 (i := 43) rfl), (tb1 (i := 14) rfl), by decide, by decide +kernel⟩
theorem imX12_end : Cond.instanceMethod yX12_end ∈ lw_tbl := (tb7 (i := 41) rfl)
theorem seX12_end : Cond.selects RX12 yX12_end yX12_end ∈ lw_tbl := (tb7 (i := 42) rfl)
abbrev mX12_again : kMi := (yX12_again, cX12_again, 4, (some (.int)), 0, 0)
theorem mdX12_again : kMd mX12_again 2 := ⟨(tb7 (i := 47) rfl), (tb1 (i := 14) rfl), by decide, by decide +kernel⟩
theorem imX12_again : Cond.instanceMethod yX12_again ∈ lw_tbl := (tb7 (i := 45) rfl)
theorem seX12_again : Cond.selects RX12 yX12_again yX12_again ∈ lw_tbl := (tb7 (i := 46) rfl)
abbrev mX12_used : kMi := (yX12_used, cX12_used, 2, (some (.int)), 0, 0)
theorem mdX12_used : kMd mX12_used 0 := ⟨(tb7 (i := 55) rfl), (tb1 (i := 14) rfl), by decide, by decide +kernel⟩
theorem imX12_used : Cond.instanceMethod yX12_used ∈ lw_tbl := (tb7 (i := 54) rfl)
theorem seX12_used : Cond.selects RX12 yX12_used yX12_used ∈ lw_tbl := (tb0 (i := 37) rfl)
abbrev mX12_scope : kMi := (yX12_scope, cX12_scope, 4, (some (.int)), 1, 27)
theorem mdX12_scope : kMd mX12_scope 0 := ⟨(tb7 (i := 51) rfl), (tb1 (i := 14) rfl), by decide, by decide +kernel⟩
theorem imX12_scope : Cond.instanceMethod yX12_scope ∈ lw_tbl := (tb7 (i := 49) rfl)
theorem seX12_scope : Cond.selects RX12 yX12_scope yX12_scope ∈ lw_tbl := (tb7 (i := 50) rfl)
abbrev mX12_client : kMi := (yX12_client, cX12_client, 9, (some (.int)), 1, 27)
theorem mdX12_client : kMd mX12_client 3 := ⟨(tb7 (i := 69) rfl), (tb1 (i := 14) rfl), by decide, by decide +kernel⟩
theorem imX12_client : Cond.instanceMethod yX12_client ∈ lw_tbl := (tb7 (i := 67) rfl)
theorem seX12_client : Cond.selects RX12 yX12_client yX12_client ∈ lw_tbl := (tb7 (i := 68) rfl)
abbrev mX12_redirect : kMi := (yX12_redirect, cX12_redirect, 6, (some (.int)), 1, 24)
theorem mdX12_redirect : kMd mX12_redirect 1 := ⟨(tb7 (i := 73) rfl), (tb1 (i := 14) rfl), by decide, by decide +kernel⟩
theorem imX12_redirect : Cond.instanceMethod yX12_redirect ∈ lw_tbl := (tb7 (i := 71) rfl)
theorem seX12_redirect : Cond.selects RX12 yX12_redirect yX12_redirect ∈ lw_tbl := (tb7 (i := 72) rfl)
abbrev mX12_isLife : kMi := (yX12_isLife, cX12_isLife, 1, (some (.boolean)), 0, 0)
theorem mdX12_isLife : kMd mX12_isLife 1 := ⟨(tb7 (i := 80) rfl), (tb1 (i := 14) rfl), by decide, by decide +kernel⟩
theorem ssX12_isLife : Cond.static yX12_isLife ∈ lw_tbl := (tb7 (i := 79) rfl)
abbrev mX12_lives : kMi := (yX12_lives, cX12_lives, 4, none, 1, 22)
theorem mdX12_lives : kMd mX12_lives 3 := ⟨(tb7 (i := 77) rfl), (tb1 (i := 14) rfl), by decide, by decide +kernel⟩
theorem imX12_lives : Cond.instanceMethod yX12_lives ∈ lw_tbl := (tb7 (i := 75) rfl)
theorem seX12_lives : Cond.selects RX12 yX12_lives yX12_lives ∈ lw_tbl := (tb7 (i := 76) rfl)
abbrev mX12_dice : kMi := (yX12_dice, cX12_dice, 5, (some (.int)), 0, 0)
theorem mdX12_dice : kMd mX12_dice 4 := ⟨(tb7 (i := 85) rfl), (tb1 (i := 14) rfl), by decide, by decide +kernel⟩
theorem imX12_dice : Cond.instanceMethod yX12_dice ∈ lw_tbl := (tb7 (i := 83) rfl)
theorem seX12_dice : Cond.selects RX12 yX12_dice yX12_dice ∈ lw_tbl := (tb7 (i := 84) rfl)
abbrev mX12_tick : kMi := (yX12_tick, cX12_tick, 2, (some (.int)), 1, 22)
theorem mdX12_tick : kMd mX12_tick 1 := ⟨(tb7 (i := 89) rfl), (tb1 (i := 14) rfl), by decide, by decide +kernel⟩
theorem imX12_tick : Cond.instanceMethod yX12_tick ∈ lw_tbl := (tb7 (i := 87) rfl)
theorem seX12_tick : Cond.selects RX12 yX12_tick yX12_tick ∈ lw_tbl := (tb7 (i := 88) rfl)
abbrev mX12_isChallenge : kMi := (yX12_isChallenge, cX12_isChallenge, 4, (some (.boolean)), 1, 21)
theorem mdX12_isChallenge : kMd mX12_isChallenge 0 := ⟨(tb7 (i := 157) rfl), (tb1 (i := 14) rfl), by decide, by decide +kernel⟩
theorem imX12_isChallenge : Cond.instanceMethod yX12_isChallenge ∈ lw_tbl := (tb7 (i := 156) rfl)
theorem seX12_isChallenge : Cond.selects RX12 yX12_isChallenge yX12_isChallenge ∈ lw_tbl := (tb0 (i := 47) rfl)
abbrev mX12_redirectOf : kMi := (yX12_redirectOf, cX12_redirectOf, 4, (some (.int)), 1, 27)
theorem mdX12_redirectOf : kMd mX12_redirectOf 1 := ⟨(tb7 (i := 145) rfl), (tb1 (i := 14) rfl), by decide, by decide +kernel⟩
theorem imX12_redirectOf : Cond.instanceMethod yX12_redirectOf ∈ lw_tbl := (tb7 (i := 144) rfl)
theorem seX12_redirectOf : Cond.selects RX12 yX12_redirectOf yX12_redirectOf ∈ lw_tbl := (tb0 (i := 44) rfl)
abbrev mX12_asked : kMi := (yX12_asked, cX12_asked, 3, (some (.int)), 2, 53)
theorem mdX12_asked : kMd mX12_asked 1 := ⟨(tb7 (i := 165) rfl), (tb1 (i := 14) rfl), by decide, by decide +kernel⟩
theorem imX12_asked : Cond.instanceMethod yX12_asked ∈ lw_tbl := (tb7 (i := 164) rfl)
theorem seX12_asked : Cond.selects RX12 yX12_asked yX12_asked ∈ lw_tbl := (tb0 (i := 48) rfl)
abbrev mX12_authorize : kMi := (yX12_authorize, cX12_authorize, 6, (some (.int)), 9, 214)
theorem mdX12_authorize : kMd mX12_authorize 0 := ⟨(tb7 (i := 94) rfl), (tb1 (i := 14) rfl), by decide, by decide +kernel⟩
theorem imX12_authorize : Cond.instanceMethod yX12_authorize ∈ lw_tbl := (tb7 (i := 92) rfl)
theorem seX12_authorize : Cond.selects RX12 yX12_authorize yX12_authorize ∈ lw_tbl := (tb7 (i := 93) rfl)
abbrev mX12_consent : kMi := (yX12_consent, cX12_consent, 6, (some (.int)), 7, 162)
theorem mdX12_consent : kMd mX12_consent 4 := ⟨(tb7 (i := 204) rfl), (tb1 (i := 14) rfl), by decide, by decide +kernel⟩
theorem imX12_consent : Cond.instanceMethod yX12_consent ∈ lw_tbl := (tb7 (i := 202) rfl)
theorem seX12_consent : Cond.selects RX12 yX12_consent yX12_consent ∈ lw_tbl := (tb7 (i := 203) rfl)
abbrev mX12_asker : kMi := (yX12_asker, cX12_asker, 3, (some (.int)), 2, 49)
theorem mdX12_asker : kMd mX12_asker 0 := ⟨(tb8 (i := 9) rfl), (tb1 (i := 14) rfl), by decide, by decide +kernel⟩
theorem imX12_asker : Cond.instanceMethod yX12_asker ∈ lw_tbl := (tb8 (i := 8) rfl)
theorem seX12_asker : Cond.selects RX12 yX12_asker yX12_asker ∈ lw_tbl := (tb0 (i := 60) rfl)
abbrev mX12_token : kMi := (yX12_token, cX12_token, 2, (some (.int)), 9, 214)
theorem mdX12_token : kMd mX12_token 0 := ⟨(tb7 (i := 239) rfl), (tb1 (i := 14) rfl), by decide, by decide +kernel⟩
theorem imX12_token : Cond.instanceMethod yX12_token ∈ lw_tbl := (tb7 (i := 237) rfl)
theorem seX12_token : Cond.selects RX12 yX12_token yX12_token ∈ lw_tbl := (tb7 (i := 238) rfl)
abbrev mX12_isVerifier : kMi := (yX12_isVerifier, cX12_isVerifier, 5, (some (.boolean)), 1, 20)
theorem mdX12_isVerifier : kMd mX12_isVerifier 0 := ⟨(tb8 (i := 18) rfl), (tb1 (i := 14) rfl), by decide, by decide +kernel⟩
theorem imX12_isVerifier : Cond.instanceMethod yX12_isVerifier ∈ lw_tbl := (tb8 (i := 17) rfl)
theorem seX12_isVerifier : Cond.selects RX12 yX12_isVerifier yX12_isVerifier ∈ lw_tbl := (tb0 (i := 62) rfl)
abbrev mX12_isRedirectOf : kMi := (yX12_isRedirectOf, cX12_isRedirectOf, 3, (some (.boolean)), 1, 27)
theorem mdX12_isRedirectOf : kMd mX12_isRedirectOf 1 := ⟨(tb8 (i := 26) rfl), (tb1 (i := 14) rfl), by decide, by decide +kernel⟩
theorem imX12_isRedirectOf : Cond.instanceMethod yX12_isRedirectOf ∈ lw_tbl := (tb8 (i := 25) rfl)
theorem seX12_isRedirectOf : Cond.selects RX12 yX12_isRedirectOf yX12_isRedirectOf ∈ lw_tbl := (tb0 (i := 64) rfl)
abbrev mX12_isProved : kMi := (yX12_isProved, cX12_isProved, 3, (some (.boolean)), 3, 78)
theorem mdX12_isProved : kMd mX12_isProved 1 := ⟨(tb8 (i := 30) rfl), (tb1 (i := 14) rfl), by decide, by decide +kernel⟩
theorem imX12_isProved : Cond.instanceMethod yX12_isProved ∈ lw_tbl := (tb8 (i := 29) rfl)
theorem seX12_isProved : Cond.selects RX12 yX12_isProved yX12_isProved ∈ lw_tbl := (tb0 (i := 65) rfl)
abbrev mX12_redeems : kMi := (yX12_redeems, cX12_redeems, 4, (some (.int)), 7, 165)
theorem mdX12_redeems : kMd mX12_redeems 1 := ⟨(tb8 (i := 14) rfl), (tb1 (i := 14) rfl), by decide, by decide +kernel⟩
theorem imX12_redeems : Cond.instanceMethod yX12_redeems ∈ lw_tbl := (tb8 (i := 13) rfl)
theorem seX12_redeems : Cond.selects RX12 yX12_redeems yX12_redeems ∈ lw_tbl := (tb0 (i := 61) rfl)
abbrev mX12_gives : kMi := (yX12_gives, cX12_gives, 2, (some (.int)), 3, 76)
theorem mdX12_gives : kMd mX12_gives 1 := ⟨(tb8 (i := 49) rfl), (tb1 (i := 14) rfl), by decide, by decide +kernel⟩
theorem imX12_gives : Cond.instanceMethod yX12_gives ∈ lw_tbl := (tb8 (i := 48) rfl)
theorem seX12_gives : Cond.selects RX12 yX12_gives yX12_gives ∈ lw_tbl := (tb0 (i := 68) rfl)
abbrev mX12_comes : kMi := (yX12_comes, cX12_comes, 9, (some (.int)), 6, 137)
theorem mdX12_comes : kMd mX12_comes 4 := ⟨(tb8 (i := 53) rfl), (tb1 (i := 14) rfl), by decide, by decide +kernel⟩
theorem imX12_comes : Cond.instanceMethod yX12_comes ∈ lw_tbl := (tb8 (i := 52) rfl)
theorem seX12_comes : Cond.selects RX12 yX12_comes yX12_comes ∈ lw_tbl := (tb0 (i := 69) rfl)
abbrev mX12_refreshOf : kMi := (yX12_refreshOf, cX12_refreshOf, 3, (some (.int)), 4, 92)
theorem mdX12_refreshOf : kMd mX12_refreshOf 1 := ⟨(tb8 (i := 65) rfl), (tb1 (i := 14) rfl), by decide, by decide +kernel⟩
theorem imX12_refreshOf : Cond.instanceMethod yX12_refreshOf ∈ lw_tbl := (tb8 (i := 64) rfl)
theorem seX12_refreshOf : Cond.selects RX12 yX12_refreshOf yX12_refreshOf ∈ lw_tbl := (tb0 (i := 71) rfl)
abbrev mX12_turns : kMi := (yX12_turns, cX12_turns, 6, (some (.int)), 7, 165)
theorem mdX12_turns : kMd mX12_turns 1 := ⟨(tb8 (i := 61) rfl), (tb1 (i := 14) rfl), by decide, by decide +kernel⟩
theorem imX12_turns : Cond.instanceMethod yX12_turns ∈ lw_tbl := (tb8 (i := 60) rfl)
theorem seX12_turns : Cond.selects RX12 yX12_turns yX12_turns ∈ lw_tbl := (tb0 (i := 70) rfl)
abbrev mX12_revoke : kMi := (yX12_revoke, cX12_revoke, 4, (some (.int)), 9, 214)
theorem mdX12_revoke : kMd mX12_revoke 0 := ⟨(tb8 (i := 69) rfl), (tb1 (i := 14) rfl), by decide, by decide +kernel⟩
theorem imX12_revoke : Cond.instanceMethod yX12_revoke ∈ lw_tbl := (tb8 (i := 67) rfl)
theorem seX12_revoke : Cond.selects RX12 yX12_revoke yX12_revoke ∈ lw_tbl := (tb8 (i := 68) rfl)
abbrev mX12_isGood : kMi := (yX12_isGood, cX12_isGood, 2, (some (.boolean)), 0, 0)
theorem mdX12_isGood : kMd mX12_isGood 1 := ⟨(tb8 (i := 77) rfl), (tb1 (i := 14) rfl), by decide, by decide +kernel⟩
theorem imX12_isGood : Cond.instanceMethod yX12_isGood ∈ lw_tbl := (tb8 (i := 76) rfl)
theorem seX12_isGood : Cond.selects RX12 yX12_isGood yX12_isGood ∈ lw_tbl := (tb0 (i := 72) rfl)
abbrev mX12_check : kMi := (yX12_check, cX12_check, 5, (some (.int)), 4, 92)
theorem mdX12_check : kMd mX12_check 1 := ⟨(tb8 (i := 73) rfl), (tb1 (i := 14) rfl), by decide, by decide +kernel⟩
theorem imX12_check : Cond.instanceMethod yX12_check ∈ lw_tbl := (tb8 (i := 71) rfl)
theorem seX12_check : Cond.selects RX12 yX12_check yX12_check ∈ lw_tbl := (tb8 (i := 72) rfl)
abbrev mX12_rolled : kMi := (yX12_rolled, cX12_rolled, 2, (some (.int)), 0, 0)
theorem mdX12_rolled : kMd mX12_rolled 2 := ⟨(tb8 (i := 43) rfl), (tb1 (i := 14) rfl), by decide, by decide +kernel⟩
theorem ssX12_rolled : Cond.static yX12_rolled ∈ lw_tbl := (tb8 (i := 42) rfl)
abbrev mX12_sha : kMi := (yX12_sha, cX12_sha, 6, none, 2, 53)
theorem mdX12_sha : kMd mX12_sha 3 := ⟨(tb8 (i := 34) rfl), (tb1 (i := 14) rfl), by decide, by decide +kernel⟩
theorem imX12_sha : Cond.instanceMethod yX12_sha ∈ lw_tbl := (tb8 (i := 33) rfl)
theorem seX12_sha : Cond.selects RX12 yX12_sha yX12_sha ∈ lw_tbl := (tb0 (i := 66) rfl)
abbrev mX12_block : kMi := (yX12_block, cX12_block, 13, none, 1, 21)
theorem mdX12_block : kMd mX12_block 1 := ⟨(tb8 (i := 40) rfl), (tb1 (i := 14) rfl), by decide, by decide +kernel⟩
theorem imX12_block : Cond.instanceMethod yX12_block ∈ lw_tbl := (tb8 (i := 39) rfl)
theorem seX12_block : Cond.selects RX12 yX12_block yX12_block ∈ lw_tbl := (tb0 (i := 67) rfl)
abbrev mX12_status : kMi := (yX12_status, cX12_status, 1, (some (.int)), 0, 0)
theorem mdX12_status : kMd mX12_status 0 := ⟨(tb8 (i := 81) rfl), (tb1 (i := 14) rfl), by decide, by decide +kernel⟩
theorem imX12_status : Cond.instanceMethod yX12_status ∈ lw_tbl := (tb8 (i := 79) rfl)
theorem seX12_status : Cond.selects RX12 yX12_status yX12_status ∈ lw_tbl := (tb8 (i := 80) rfl)
abbrev mX12_error : kMi := (yX12_error, cX12_error, 1, (some (.int)), 0, 0)
theorem mdX12_error : kMd mX12_error 0 := ⟨(tb8 (i := 85) rfl), (tb1 (i := 14) rfl), by decide, by decide +kernel⟩
theorem imX12_error : Cond.instanceMethod yX12_error ∈ lw_tbl := (tb8 (i := 83) rfl)
theorem seX12_error : Cond.selects RX12 yX12_error yX12_error ∈ lw_tbl := (tb8 (i := 84) rfl)
abbrev mX12_out : kMi := (yX12_out, cX12_out, 2, (some (.int)), 0, 0)
theorem mdX12_out : kMd mX12_out 1 := ⟨(tb8 (i := 89) rfl), (tb1 (i := 14) rfl), by decide, by decide +kernel⟩
theorem imX12_out : Cond.instanceMethod yX12_out ∈ lw_tbl := (tb8 (i := 87) rfl)
theorem seX12_out : Cond.selects RX12 yX12_out yX12_out ∈ lw_tbl := (tb8 (i := 88) rfl)
abbrev mX12_outs : kMi := (yX12_outs, cX12_outs, 1, (some (.int)), 0, 0)
theorem mdX12_outs : kMd mX12_outs 0 := ⟨(tb8 (i := 93) rfl), (tb1 (i := 14) rfl), by decide, by decide +kernel⟩
theorem imX12_outs : Cond.instanceMethod yX12_outs ∈ lw_tbl := (tb8 (i := 91) rfl)
theorem seX12_outs : Cond.selects RX12 yX12_outs yX12_outs ∈ lw_tbl := (tb8 (i := 92) rfl)
abbrev mX12_code : kMi := (yX12_code, cX12_code, 3, (some (.int)), 1, 22)
theorem mdX12_code : kMd mX12_code 2 := ⟨(tb8 (i := 97) rfl), (tb1 (i := 14) rfl), by decide, by decide +kernel⟩
theorem imX12_code : Cond.instanceMethod yX12_code ∈ lw_tbl := (tb8 (i := 95) rfl)
theorem seX12_code : Cond.selects RX12 yX12_code yX12_code ∈ lw_tbl := (tb8 (i := 96) rfl)
abbrev mX12_family : kMi := (yX12_family, cX12_family, 5, (some (.int)), 1, 22)
theorem mdX12_family : kMd mX12_family 2 := ⟨(tb8 (i := 101) rfl), (tb1 (i := 14) rfl), by decide, by decide +kernel⟩
theorem imX12_family : Cond.instanceMethod yX12_family ∈ lw_tbl := (tb8 (i := 99) rfl)
theorem seX12_family : Cond.selects RX12 yX12_family yX12_family ∈ lw_tbl := (tb8 (i := 100) rfl)
abbrev mX12_count : kMi := (yX12_count, cX12_count, 4, (some (.int)), 0, 0)
theorem mdX12_count : kMd mX12_count 1 := ⟨(tb8 (i := 105) rfl), (tb1 (i := 14) rfl), by decide, by decide +kernel⟩
theorem imX12_count : Cond.instanceMethod yX12_count ∈ lw_tbl := (tb8 (i := 103) rfl)
theorem seX12_count : Cond.selects RX12 yX12_count yX12_count ∈ lw_tbl := (tb8 (i := 104) rfl)
abbrev mJ9_max_7cf53 : kMi := (yJ9_max_7cf53, cJ9_max_7cf53, 2, (some (.int)), 0, 0)
theorem mdJ9_max_7cf53 : kMd mJ9_max_7cf53 2 := ⟨(tb1 (i := 50) rfl), (tb1 (i := 3) rfl), by decide, by decide +kernel⟩
theorem ssJ9_max_7cf53 : Cond.static yJ9_max_7cf53 ∈ lw_tbl := (tb1 (i := 49) rfl)
abbrev mJ9_min_7cf53 : kMi := (yJ9_min_7cf53, cJ9_min_7cf53, 2, (some (.int)), 0, 0)
theorem mdJ9_min_7cf53 : kMd mJ9_min_7cf53 2 := ⟨(tb1 (i := 193) rfl), (tb1 (i := 3) rfl), by decide, by decide +kernel⟩
theorem ssJ9_min_7cf53 : Cond.static yJ9_min_7cf53 ∈ lw_tbl := (tb1 (i := 192) rfl)
abbrev mJ0_length_8abf5 : kMi := (yJ0_length_8abf5, cJ0_length_8abf5, 1, (some (.int)), 1, 20)
theorem mdJ0_length_8abf5 : kMd mJ0_length_8abf5 0 := ⟨(tb3 (i := 69) rfl), (tb1 (i := 25) rfl), by decide, by decide +kernel⟩
theorem imJ0_length_8abf5 : Cond.instanceMethod yJ0_length_8abf5 ∈ lw_tbl := (tb3 (i := 67) rfl)
theorem seJ0_length_8abf5 : Cond.selects RJ0 yJ0_length_8abf5 yJ0_length_8abf5 ∈ lw_tbl := (tb3 (i := 68) rfl)
abbrev mJ0_charAt_5068e : kMi := (yJ0_charAt_5068e, cJ0_charAt_5068e, 2, (some (.char)), 4, 94)
theorem mdJ0_charAt_5068e : kMd mJ0_charAt_5068e 1 := ⟨(tb2 (i := 177) rfl), (tb1 (i := 25) rfl), by decide, by decide +kernel⟩
theorem imJ0_charAt_5068e : Cond.instanceMethod yJ0_charAt_5068e ∈ lw_tbl := (tb2 (i := 175) rfl)
theorem seJ0_charAt_5068e : Cond.selects RJ0 yJ0_charAt_5068e yJ0_charAt_5068e ∈ lw_tbl := (tb2 (i := 176) rfl)
abbrev mJ0_coder_7d493 : kMi := (yJ0_coder_7d493, cJ0_coder_7d493, 1, (some (.byte)), 0, 0)
theorem mdJ0_coder_7d493 : kMd mJ0_coder_7d493 0 := ⟨(tb3 (i := 73) rfl), (tb1 (i := 25) rfl), by decide, by decide +kernel⟩
theorem imJ0_coder_7d493 : Cond.instanceMethod yJ0_coder_7d493 ∈ lw_tbl := (tb3 (i := 71) rfl)
theorem seJ0_coder_7d493 : Cond.selects RJ0 yJ0_coder_7d493 yJ0_coder_7d493 ∈ lw_tbl := (tb3 (i := 72) rfl)
abbrev mJ0_isLatin1_aae02 : kMi := (yJ0_isLatin1_aae02, cJ0_isLatin1_aae02, 1, (some (.boolean)), 0, 0)
theorem mdJ0_isLatin1_aae02 : kMd mJ0_isLatin1_aae02 0 := ⟨(tb2 (i := 181) rfl), (tb1 (i := 25) rfl), by decide, by decide +kernel⟩
theorem imJ0_isLatin1_aae02 : Cond.instanceMethod yJ0_isLatin1_aae02 ∈ lw_tbl := (tb2 (i := 179) rfl)
theorem seJ0_isLatin1_aae02 : Cond.selects RJ0 yJ0_isLatin1_aae02 yJ0_isLatin1_aae02 ∈ lw_tbl := (tb2 (i := 180) rfl)
abbrev mJ0_checkIndex_df160 : kMi := (yJ0_checkIndex_df160, cJ0_checkIndex_df160, 2, none, 2, 52)
theorem mdJ0_checkIndex_df160 : kMd mJ0_checkIndex_df160 2 := ⟨(tb2 (i := 189) rfl), (tb1 (i := 25) rfl), by decide, by decide +kernel⟩
theorem ssJ0_checkIndex_df160 : Cond.static yJ0_checkIndex_df160 ∈ lw_tbl := (tb2 (i := 188) rfl)
abbrev mJ1_charAt_3b067 : kMi := (yJ1_charAt_3b067, cJ1_charAt_3b067, 2, (some (.char)), 3, 73)
theorem mdJ1_charAt_3b067 : kMd mJ1_charAt_3b067 2 := ⟨(tb2 (i := 186) rfl), (tb1 (i := 26) rfl), by decide, by decide +kernel⟩
theorem ssJ1_charAt_3b067 : Cond.static yJ1_charAt_3b067 ∈ lw_tbl := (tb2 (i := 185) rfl)
abbrev mJ2_getChar_3b067 : kMi := (yJ2_getChar_3b067, cJ2_getChar_3b067, 2, (some (.char)), 1, 30)
theorem mdJ2_getChar_3b067 : kMd mJ2_getChar_3b067 2 := ⟨(tb2 (i := 207) rfl), (tb1 (i := 27) rfl), by decide, by decide +kernel⟩
theorem ssJ2_getChar_3b067 : Cond.static yJ2_getChar_3b067 ∈ lw_tbl := (tb2 (i := 206) rfl)
abbrev mJ2_length_9d52b : kMi := (yJ2_length_9d52b, cJ2_length_9d52b, 1, (some (.int)), 0, 0)
theorem mdJ2_length_9d52b : kMd mJ2_length_9d52b 1 := ⟨(tb2 (i := 203) rfl), (tb1 (i := 27) rfl), by decide, by decide +kernel⟩
theorem ssJ2_length_9d52b : Cond.static yJ2_length_9d52b ∈ lw_tbl := (tb2 (i := 202) rfl)
abbrev mJ2_charAt_3b067 : kMi := (yJ2_charAt_3b067, cJ2_charAt_3b067, 2, (some (.char)), 0, 0)
theorem mdJ2_charAt_3b067 : kMd mJ2_charAt_3b067 2 := ⟨(tb2 (i := 197) rfl), (tb1 (i := 27) rfl), by decide, by decide +kernel⟩
theorem ssJ2_charAt_3b067 : Cond.static yJ2_charAt_3b067 ∈ lw_tbl := (tb2 (i := 196) rfl)
abbrev mJ2_checkIndex_2214a : kMi := (yJ2_checkIndex_2214a, cJ2_checkIndex_2214a, 2, none, 3, 73)
theorem mdJ2_checkIndex_2214a : kMd mJ2_checkIndex_2214a 2 := ⟨(tb2 (i := 200) rfl), (tb1 (i := 27) rfl), by decide, by decide +kernel⟩
theorem ssJ2_checkIndex_2214a : Cond.static yJ2_checkIndex_2214a ∈ lw_tbl := (tb2 (i := 199) rfl)
abbrev mJxa1e45_init_da8c8 : kMi := (yJxa1e45_init_da8c8, cJxa1e45_init_da8c8, 1, none, 1, 20)
theorem mdJxa1e45_init_da8c8 : kMd mJxa1e45_init_da8c8 0 := ⟨(tb1 (i := 119) rfl), (tb1 (i := 6) rfl), by decide, by decide +kernel⟩
theorem imJxa1e45_init_da8c8 : Cond.instanceMethod yJxa1e45_init_da8c8 ∈ lw_tbl := (tb1 (i := 118) rfl)
abbrev mJxc12de_init_da8c8 : kMi := (yJxc12de_init_da8c8, cJxc12de_init_da8c8, 1, none, 2, 40)
theorem mdJxc12de_init_da8c8 : kMd mJxc12de_init_da8c8 0 := ⟨(tb1 (i := 116) rfl), (tb1 (i := 7) rfl), by decide, by decide +kernel⟩
theorem imJxc12de_init_da8c8 : Cond.instanceMethod yJxc12de_init_da8c8 ∈ lw_tbl := (tb1 (i := 115) rfl)
abbrev mJx4a65c_init_da8c8 : kMi := (yJx4a65c_init_da8c8, cJx4a65c_init_da8c8, 1, none, 3, 60)
theorem mdJx4a65c_init_da8c8 : kMd mJx4a65c_init_da8c8 0 := ⟨(tb1 (i := 113) rfl), (tb1 (i := 8) rfl), by decide, by decide +kernel⟩
theorem imJx4a65c_init_da8c8 : Cond.instanceMethod yJx4a65c_init_da8c8 ∈ lw_tbl := (tb1 (i := 112) rfl)
abbrev mJx4a65c_grow_92f84 : kMi := (yJx4a65c_grow_92f84, cJx4a65c_grow_92f84, 4, (some (.array (.object "java/lang/Object"))), 3, 84)
theorem mdJx4a65c_grow_92f84 : kMd mJx4a65c_grow_92f84 1 := ⟨(tb1 (i := 150) rfl), (tb1 (i := 8) rfl), by decide, by decide +kernel⟩
theorem imJx4a65c_grow_92f84 : Cond.instanceMethod yJx4a65c_grow_92f84 ∈ lw_tbl := (tb1 (i := 149) rfl)
theorem seJx4a65c_grow_92f84 : Cond.selects RJx4a65c yJx4a65c_grow_92f84 yJx4a65c_grow_92f84 ∈ lw_tbl := (tb0 (i := 2) rfl)
abbrev mJx4a65c_grow_d5877 : kMi := (yJx4a65c_grow_d5877, cJx4a65c_grow_d5877, 1, (some (.array (.object "java/lang/Object"))), 4, 107)
theorem mdJx4a65c_grow_d5877 : kMd mJx4a65c_grow_d5877 0 := ⟨(tb1 (i := 146) rfl), (tb1 (i := 8) rfl), by decide, by decide +kernel⟩
theorem imJx4a65c_grow_d5877 : Cond.instanceMethod yJx4a65c_grow_d5877 ∈ lw_tbl := (tb1 (i := 145) rfl)
theorem seJx4a65c_grow_d5877 : Cond.selects RJx4a65c yJx4a65c_grow_d5877 yJx4a65c_grow_d5877 ∈ lw_tbl := (tb0 (i := 1) rfl)
abbrev mJx4a65c_size_8abf5 : kMi := (yJx4a65c_size_8abf5, cJx4a65c_size_8abf5, 1, (some (.int)), 0, 0)
theorem mdJx4a65c_size_8abf5 : kMd mJx4a65c_size_8abf5 0 := ⟨(tb2 (i := 159) rfl), (tb1 (i := 8) rfl), by decide, by decide +kernel⟩
theorem imJx4a65c_size_8abf5 : Cond.instanceMethod yJx4a65c_size_8abf5 ∈ lw_tbl := (tb2 (i := 157) rfl)
theorem seJx4a65c_size_8abf5 : Cond.selects RJx4a65c yJx4a65c_size_8abf5 yJx4a65c_size_8abf5 ∈ lw_tbl := (tb2 (i := 158) rfl)
abbrev mJx4a65c_isEmpty_aae02 : kMi := (yJx4a65c_isEmpty_aae02, cJx4a65c_isEmpty_aae02, 1, (some (.boolean)), 0, 0)
theorem mdJx4a65c_isEmpty_aae02 : kMd mJx4a65c_isEmpty_aae02 0 := ⟨(tb4 (i := 113) rfl), (tb1 (i := 8) rfl), by decide, by decide +kernel⟩
theorem imJx4a65c_isEmpty_aae02 : Cond.instanceMethod yJx4a65c_isEmpty_aae02 ∈ lw_tbl := (tb4 (i := 111) rfl)
theorem seJx4a65c_isEmpty_aae02 : Cond.selects RJx4a65c yJx4a65c_isEmpty_aae02 yJx4a65c_isEmpty_aae02 ∈ lw_tbl := (tb4 (i := 112) rfl)
abbrev mJx4a65c_elementData_915e3 : kMi := (yJx4a65c_elementData_915e3, cJx4a65c_elementData_915e3, 2, (some (.object "java/lang/Object")), 0, 0)
theorem mdJx4a65c_elementData_915e3 : kMd mJx4a65c_elementData_915e3 1 := ⟨(tb3 (i := 27) rfl), (tb1 (i := 8) rfl), by decide, by decide +kernel⟩
theorem imJx4a65c_elementData_915e3 : Cond.instanceMethod yJx4a65c_elementData_915e3 ∈ lw_tbl := (tb3 (i := 25) rfl)
theorem seJx4a65c_elementData_915e3 : Cond.selects RJx4a65c yJx4a65c_elementData_915e3 yJx4a65c_elementData_915e3 ∈ lw_tbl := (tb3 (i := 26) rfl)
abbrev mJx4a65c_get_915e3 : kMi := (yJx4a65c_get_915e3, cJx4a65c_get_915e3, 2, (some (.object "java/lang/Object")), 3, 73)
theorem mdJx4a65c_get_915e3 : kMd mJx4a65c_get_915e3 1 := ⟨(tb3 (i := 19) rfl), (tb1 (i := 8) rfl), by decide, by decide +kernel⟩
theorem imJx4a65c_get_915e3 : Cond.instanceMethod yJx4a65c_get_915e3 ∈ lw_tbl := (tb3 (i := 17) rfl)
theorem seJx4a65c_get_915e3 : Cond.selects RJx4a65c yJx4a65c_get_915e3 yJx4a65c_get_915e3 ∈ lw_tbl := (tb3 (i := 18) rfl)
abbrev mJx4a65c_add_72be8 : kMi := (yJx4a65c_add_72be8, cJx4a65c_add_72be8, 4, none, 5, 127)
theorem mdJx4a65c_add_72be8 : kMd mJx4a65c_add_72be8 3 := ⟨(tb1 (i := 142) rfl), (tb1 (i := 8) rfl), by decide, by decide +kernel⟩
theorem imJx4a65c_add_72be8 : Cond.instanceMethod yJx4a65c_add_72be8 ∈ lw_tbl := (tb1 (i := 141) rfl)
theorem seJx4a65c_add_72be8 : Cond.selects RJx4a65c yJx4a65c_add_72be8 yJx4a65c_add_72be8 ∈ lw_tbl := (tb0 (i := 0) rfl)
abbrev mJx4a65c_add_9ea2d : kMi := (yJx4a65c_add_9ea2d, cJx4a65c_add_9ea2d, 2, (some (.boolean)), 6, 150)
theorem mdJx4a65c_add_9ea2d : kMd mJx4a65c_add_9ea2d 1 := ⟨(tb1 (i := 138) rfl), (tb1 (i := 8) rfl), by decide, by decide +kernel⟩
theorem imJx4a65c_add_9ea2d : Cond.instanceMethod yJx4a65c_add_9ea2d ∈ lw_tbl := (tb1 (i := 136) rfl)
theorem seJx4a65c_add_9ea2d : Cond.selects RJx4a65c yJx4a65c_add_9ea2d yJx4a65c_add_9ea2d ∈ lw_tbl := (tb1 (i := 137) rfl)
abbrev mJx4a65c_remove_915e3 : kMi := (yJx4a65c_remove_915e3, cJx4a65c_remove_915e3, 4, (some (.object "java/lang/Object")), 3, 73)
theorem mdJx4a65c_remove_915e3 : kMd mJx4a65c_remove_915e3 1 := ⟨(tb4 (i := 117) rfl), (tb1 (i := 8) rfl), by decide, by decide +kernel⟩
theorem imJx4a65c_remove_915e3 : Cond.instanceMethod yJx4a65c_remove_915e3 ∈ lw_tbl := (tb4 (i := 115) rfl)
theorem seJx4a65c_remove_915e3 : Cond.selects RJx4a65c yJx4a65c_remove_915e3 yJx4a65c_remove_915e3 ∈ lw_tbl := (tb4 (i := 116) rfl)
abbrev mJx4a65c_fastRemove_b59b0 : kMi := (yJx4a65c_fastRemove_b59b0, cJx4a65c_fastRemove_b59b0, 4, none, 1, 40)
theorem mdJx4a65c_fastRemove_b59b0 : kMd mJx4a65c_fastRemove_b59b0 2 := ⟨(tb4 (i := 121) rfl), (tb1 (i := 8) rfl), by decide, by decide +kernel⟩
theorem imJx4a65c_fastRemove_b59b0 : Cond.instanceMethod yJx4a65c_fastRemove_b59b0 ∈ lw_tbl := (tb4 (i := 120) rfl)
theorem seJx4a65c_fastRemove_b59b0 : Cond.selects RJx4a65c yJx4a65c_fastRemove_b59b0 yJx4a65c_fastRemove_b59b0 ∈ lw_tbl := (tb0 (i := 25) rfl)
abbrev mJ7_copyOf_1904c : kMi := (yJ7_copyOf_1904c, cJ7_copyOf_1904c, 2, (some (.array (.object "java/lang/Object"))), 2, 63)
theorem mdJ7_copyOf_1904c : kMd mJ7_copyOf_1904c 2 := ⟨(tb1 (i := 161) rfl), (tb1 (i := 10) rfl), by decide, by decide +kernel⟩
theorem ssJ7_copyOf_1904c : Cond.static yJ7_copyOf_1904c ∈ lw_tbl := (tb1 (i := 160) rfl)
abbrev mJ7_copyOf_6403c : kMi := (yJ7_copyOf_6403c, cJ7_copyOf_6403c, 4, (some (.array (.object "java/lang/Object"))), 1, 40)
theorem mdJ7_copyOf_6403c : kMd mJ7_copyOf_6403c 3 := ⟨(tb1 (i := 187) rfl), (tb1 (i := 10) rfl), by decide, by decide +kernel⟩
theorem ssJ7_copyOf_6403c : Cond.static yJ7_copyOf_6403c ∈ lw_tbl := (tb1 (i := 186) rfl)
abbrev mJ15_checkIndex_7cf53 : kMi := (yJ15_checkIndex_7cf53, cJ15_checkIndex_7cf53, 2, (some (.int)), 2, 52)
theorem mdJ15_checkIndex_7cf53 : kMd mJ15_checkIndex_7cf53 2 := ⟨(tb3 (i := 22) rfl), (tb1 (i := 15) rfl), by decide, by decide +kernel⟩
theorem ssJ15_checkIndex_7cf53 : Cond.static yJ15_checkIndex_7cf53 ∈ lw_tbl := (tb3 (i := 21) rfl)
abbrev mJ8_newLength_cabcc : kMi := (yJ8_newLength_cabcc, cJ8_newLength_cabcc, 4, (some (.int)), 1, 40)
theorem mdJ8_newLength_cabcc : kMd mJ8_newLength_cabcc 3 := ⟨(tb1 (i := 153) rfl), (tb1 (i := 9) rfl), by decide, by decide +kernel⟩
theorem ssJ8_newLength_cabcc : Cond.static yJ8_newLength_cabcc ∈ lw_tbl := (tb1 (i := 152) rfl)
abbrev mJ8_hugeLength_7cf53 : kMi := (yJ8_hugeLength_7cf53, cJ8_hugeLength_7cf53, 3, (some (.int)), 1, 30)
theorem mdJ8_hugeLength_7cf53 : kMd mJ8_hugeLength_7cf53 2 := ⟨(tb1 (i := 158) rfl), (tb1 (i := 9) rfl), by decide, by decide +kernel⟩
theorem ssJ8_hugeLength_7cf53 : Cond.static yJ8_hugeLength_7cf53 ∈ lw_tbl := (tb1 (i := 157) rfl)
abbrev mJ3_checkIndex_8e157 : kMi := (yJ3_checkIndex_8e157, cJ3_checkIndex_8e157, 3, (some (.int)), 1, 30)
theorem mdJ3_checkIndex_8e157 : kMd mJ3_checkIndex_8e157 3 := ⟨(tb2 (i := 194) rfl), (tb1 (i := 16) rfl), by decide, by decide +kernel⟩
theorem ssJ3_checkIndex_8e157 : Cond.static yJ3_checkIndex_8e157 ∈ lw_tbl := (tb2 (i := 193) rfl)
abbrev mL_scope : kMi := (yL_scope, cL_scope, 3, (some (.int)), 8, 192)
theorem ssL_scope : Cond.static yL_scope ∈ lw_tbl := (tb4 (i := 206) rfl)
abbrev mL_client : kMi := (yL_client, cL_client, 6, (some (.int)), 8, 195)
theorem ssL_client : Cond.static yL_client ∈ lw_tbl := (tb5 (i := 69) rfl)
abbrev mL_redirect : kMi := (yL_redirect, cL_redirect, 4, (some (.int)), 8, 194)
theorem ssL_redirect : Cond.static yL_redirect ∈ lw_tbl := (tb5 (i := 118) rfl)
abbrev mL_lives : kMi := (yL_lives, cL_lives, 5, (some (.int)), 7, 113)
theorem ssL_lives : Cond.static yL_lives ∈ lw_tbl := (tb5 (i := 147) rfl)
abbrev mL_tick : kMi := (yL_tick, cL_tick, 4, (some (.int)), 7, 111)
theorem ssL_tick : Cond.static yL_tick ∈ lw_tbl := (tb5 (i := 159) rfl)
abbrev mL_consent : kMi := (yL_consent, cL_consent, 7, (some (.int)), 10, 243)
theorem ssL_consent : Cond.static yL_consent ∈ lw_tbl := (tb5 (i := 168) rfl)
abbrev mL_check : kMi := (yL_check, cL_check, 4, (some (.int)), 7, 162)
theorem ssL_check : Cond.static yL_check ∈ lw_tbl := (tb6 (i := 1) rfl)
abbrev mL_code : kMi := (yL_code, cL_code, 5, (some (.int)), 7, 117)
theorem ssL_code : Cond.static yL_code ∈ lw_tbl := (tb6 (i := 13) rfl)
abbrev mL_family : kMi := (yL_family, cL_family, 5, (some (.int)), 7, 141)
theorem ssL_family : Cond.static yL_family ∈ lw_tbl := (tb6 (i := 26) rfl)
theorem lk_L_52 : kLk RL 52 yX11_init := Or.inl (tb1 (i := 36) rfl)
theorem lo_X11_1 : Cond.methodLink RX11 1 objectInit ∈ lw_tbl := (tb1 (i := 39) rfl)
theorem lk_X11_11 : kLk RX11 11 yX9_init := Or.inl (tb1 (i := 44) rfl)
theorem lo_X9_3 : Cond.methodLink RX9 3 objectInit ∈ lw_tbl := (tb1 (i := 47) rfl)
theorem lk_X9_18 : kLk RX9 18 yJ9_max_7cf53 := Or.inl (tb1 (i := 48) rfl)
theorem lk_X11_23 : kLk RX11 23 yX4_init := Or.inl (tb1 (i := 64) rfl)
theorem lo_X4_3 : Cond.methodLink RX4 3 objectInit ∈ lw_tbl := (tb1 (i := 67) rfl)
theorem lk_X4_11 : kLk RX4 11 yX9_init := Or.inl (tb1 (i := 69) rfl)
theorem lk_X4_20 : kLk RX4 20 yX9_init_ := Or.inl (tb1 (i := 70) rfl)
theorem lk_X4_30 : kLk RX4 30 yX3_init := Or.inl (tb1 (i := 76) rfl)
theorem lo_X3_1 : Cond.methodLink RX3 1 objectInit ∈ lw_tbl := (tb1 (i := 79) rfl)
theorem lk_X3_19 : kLk RX3 19 yX9_init_ := Or.inl (tb1 (i := 81) rfl)
theorem lk_X4_95 : kLk RX4 95 yJx4a65c_init_da8c8 := Or.inl (tb1 (i := 111) rfl)
theorem lk_Jx4a65c_1 : kLk RJx4a65c 1 yJxc12de_init_da8c8 := Or.inl (tb1 (i := 114) rfl)
theorem lk_Jxc12de_1 : kLk RJxc12de 1 yJxa1e45_init_da8c8 := Or.inl (tb1 (i := 117) rfl)
theorem lo_Jxa1e45_1 : Cond.methodLink RJxa1e45 1 objectInit ∈ lw_tbl := (tb1 (i := 120) rfl)
theorem lk_X4_100 : kLk RX4 100 yJx4a65c_add_9ea2d := Or.inl (tb1 (i := 135) rfl)
theorem lk_Jx4a65c_131 : kLk RJx4a65c 131 yJx4a65c_add_72be8 := Or.inl (tb1 (i := 139) rfl)
theorem lk_Jx4a65c_129 : kLk RJx4a65c 129 yJx4a65c_grow_d5877 := Or.inl (tb1 (i := 143) rfl)
theorem lk_Jx4a65c_69 : kLk RJx4a65c 69 yJx4a65c_grow_92f84 := Or.inl (tb1 (i := 147) rfl)
theorem lk_Jx4a65c_73 : kLk RJx4a65c 73 yJ8_newLength_cabcc := Or.inl (tb1 (i := 151) rfl)
theorem lk_J8_194 : kLk RJ8 194 yJ9_max_7cf53 := Or.inl (tb1 (i := 154) rfl)
theorem lk_J8_201 : kLk RJ8 201 yJ8_hugeLength_7cf53 := Or.inl (tb1 (i := 156) rfl)
theorem lk_Jx4a65c_66 : kLk RJx4a65c 66 yJ7_copyOf_1904c := Or.inl (tb1 (i := 159) rfl)
theorem lk_J7_300 : kLk RJ7 300 yJ7_copyOf_6403c := Or.inl (tb1 (i := 185) rfl)
theorem lk_J7_304 : kLk RJ7 304 yJ9_min_7cf53 := Or.inl (tb1 (i := 191) rfl)
theorem lk_Jx4a65c_79 : kLk RJx4a65c 79 yJ9_max_7cf53 := Or.inl (tb1 (i := 197) rfl)
theorem lk_X11_30 : kLk RX11 30 yX6_init := Or.inr ⟨"GrantServer", (tb2 (i := 23) rfl)⟩
theorem lo_X6_3 : Cond.methodLink RX6 3 objectInit ∈ lw_tbl := (tb2 (i := 26) rfl)
theorem lk_X6_11 : kLk RX6 11 yJx4a65c_init_da8c8 := Or.inl (tb2 (i := 28) rfl)
theorem lk_X11_37 : kLk RX11 37 yX8_init := Or.inr ⟨"GrantServer", (tb2 (i := 38) rfl)⟩
theorem lo_X8_3 : Cond.methodLink RX8 3 objectInit ∈ lw_tbl := (tb2 (i := 41) rfl)
theorem lk_X8_20 : kLk RX8 20 yX9_init := Or.inl (tb2 (i := 43) rfl)
theorem lk_X11_44 : kLk RX11 44 yJx4a65c_init_da8c8 := Or.inl (tb2 (i := 56) rfl)
theorem lk_L_56 : kLk RL 56 yX11_feed := Or.inl (tb2 (i := 112) rfl)
theorem lk_X11_86 : kLk RX11 86 yX9_size := Or.inl (tb2 (i := 116) rfl)
theorem lk_X11_90 : kLk RX11 90 yX9_addInt := Or.inl (tb2 (i := 120) rfl)
theorem lk_X9_28 : kLk RX9 28 yX9_add := Or.inl (tb2 (i := 124) rfl)
theorem lk_L_61 : kLk RL 61 yX11_end := Or.inl (tb2 (i := 128) rfl)
theorem lk_X11_93 : kLk RX11 93 yX9_cutTo := Or.inl (tb2 (i := 132) rfl)
theorem lk_L_66 : kLk RL 66 yX11_again := Or.inl (tb2 (i := 136) rfl)
theorem lk_X11_97 : kLk RX11 97 yX9_addPart := Or.inl (tb2 (i := 140) rfl)
theorem lk_X9_32 : kLk RX9 32 yX9_at := Or.inl (tb2 (i := 144) rfl)
theorem lk_L_91 : kLk RL 91 yX11_dice := Or.inl (tb2 (i := 148) rfl)
theorem lk_X11_177 : kLk RX11 177 yX6_addDie := Or.inl (tb2 (i := 152) rfl)
theorem lk_X6_21 : kLk RX6 21 yJx4a65c_size_8abf5 := Or.inl (tb2 (i := 156) rfl)
theorem lk_X6_27 : kLk RX6 27 yX5_init := Or.inl (tb2 (i := 162) rfl)
theorem lo_X5_3 : Cond.methodLink RX5 3 objectInit ∈ lw_tbl := (tb2 (i := 165) rfl)
theorem lk_X5_17 : kLk RX5 17 yX9_init := Or.inl (tb2 (i := 167) rfl)
theorem lk_X5_31 : kLk RX5 31 yX9_addBase64 := Or.inl (tb2 (i := 168) rfl)
theorem lk_X9_42 : kLk RX9 42 yJ0_charAt_5068e := Or.inl (tb2 (i := 174) rfl)
theorem lk_J0_492 : kLk RJ0 492 yJ0_isLatin1_aae02 := Or.inl (tb2 (i := 178) rfl)
theorem lk_J0_495 : kLk RJ0 495 yJ1_charAt_3b067 := Or.inl (tb2 (i := 184) rfl)
theorem lk_J1_9 : kLk RJ1 9 yJ0_checkIndex_df160 := Or.inl (tb2 (i := 187) rfl)
theorem lk_J0_1059 : kLk RJ0 1059 yJ3_checkIndex_8e157 := Or.inl (tb2 (i := 192) rfl)
theorem lk_J0_498 : kLk RJ0 498 yJ2_charAt_3b067 := Or.inl (tb2 (i := 195) rfl)
theorem lk_J2_67 : kLk RJ2 67 yJ2_checkIndex_2214a := Or.inl (tb2 (i := 198) rfl)
theorem lk_J2_48 : kLk RJ2 48 yJ2_length_9d52b := Or.inl (tb2 (i := 201) rfl)
theorem lk_J2_414 : kLk RJ2 414 yJ0_checkIndex_df160 := Or.inl (tb2 (i := 204) rfl)
theorem lk_J2_71 : kLk RJ2 71 yJ2_getChar_3b067 := Or.inl (tb2 (i := 205) rfl)
theorem lk_X6_30 : kLk RX6 30 yJx4a65c_add_9ea2d := Or.inl (tb2 (i := 230) rfl)
theorem lk_X11_181 : kLk RX11 181 yX6_waitingCount := Or.inl (tb2 (i := 231) rfl)
theorem lk_L_99 : kLk RL 99 yX11_authorize := Or.inl (tb2 (i := 235) rfl)
theorem lk_X11_187 : kLk RX11 187 yX11_readForm := Or.inl (tb2 (i := 239) rfl)
theorem lk_X11_387 : kLk RX11 387 yX4_read := Or.inl (tb3 (i := 3) rfl)
theorem lk_X4_104 : kLk RX4 104 yX4_forget := Or.inl (tb3 (i := 7) rfl)
theorem lk_X4_119 : kLk RX4 119 yX9_clear := Or.inl (tb3 (i := 11) rfl)
theorem lk_X4_122 : kLk RX4 122 yJx4a65c_size_8abf5 := Or.inl (tb3 (i := 15) rfl)
theorem lk_X4_123 : kLk RX4 123 yJx4a65c_get_915e3 := Or.inl (tb3 (i := 16) rfl)
theorem lk_Jx4a65c_118 : kLk RJx4a65c 118 yJ15_checkIndex_7cf53 := Or.inl (tb3 (i := 20) rfl)
theorem lk_J15_105 : kLk RJ15 105 yJ3_checkIndex_8e157 := Or.inl (tb3 (i := 23) rfl)
theorem lk_Jx4a65c_123 : kLk RJx4a65c 123 yJx4a65c_elementData_915e3 := Or.inl (tb3 (i := 24) rfl)
theorem lk_X4_127 : kLk RX4 127 yX3_forget := Or.inl (tb3 (i := 28) rfl)
theorem lk_X3_34 : kLk RX3 34 yX9_clear := Or.inl (tb3 (i := 32) rfl)
theorem lk_X4_107 : kLk RX4 107 yX9_size := Or.inl (tb3 (i := 33) rfl)
theorem lk_X4_111 : kLk RX4 111 yX9_at := Or.inl (tb3 (i := 34) rfl)
theorem lk_X4_115 : kLk RX4 115 yX4_readPiece := Or.inl (tb3 (i := 35) rfl)
theorem lk_X4_128 : kLk RX4 128 yX9_indexOf := Or.inl (tb3 (i := 39) rfl)
theorem lk_X4_132 : kLk RX4 132 yX4_decode := Or.inl (tb3 (i := 43) rfl)
theorem lk_X4_150 : kLk RX4 150 yX11_hexDigit := Or.inr ⟨"GrantServer", (tb3 (i := 47) rfl)⟩
theorem lk_X4_153 : kLk RX4 153 yX9_add := Or.inl (tb3 (i := 50) rfl)
theorem lk_X4_155 : kLk RX4 155 yX11_isVisibleByte := Or.inr ⟨"GrantServer", (tb3 (i := 51) rfl)⟩
theorem lk_X4_135 : kLk RX4 135 yX9_showEnd := Or.inl (tb3 (i := 54) rfl)
theorem lk_X4_139 : kLk RX4 139 yX4_fieldOf := Or.inl (tb3 (i := 58) rfl)
theorem lk_X4_162 : kLk RX4 162 yX9_spells := Or.inl (tb3 (i := 62) rfl)
theorem lk_X9_36 : kLk RX9 36 yJ0_length_8abf5 := Or.inl (tb3 (i := 66) rfl)
theorem lk_J0_335 : kLk RJ0 335 yJ0_coder_7d493 := Or.inl (tb3 (i := 70) rfl)
theorem lk_X11_109 : kLk RX11 109 yX9_clear := Or.inl (tb3 (i := 74) rfl)
theorem lk_X11_191 : kLk RX11 191 yX11_refuse := Or.inl (tb3 (i := 75) rfl)
theorem lk_X11_240 : kLk RX11 240 yX11_answer := Or.inl (tb3 (i := 79) rfl)
theorem lk_X11_145 : kLk RX11 145 yX11_clientOf := Or.inl (tb3 (i := 83) rfl)
theorem lk_X11_123 : kLk RX11 123 yJx4a65c_size_8abf5 := Or.inl (tb3 (i := 87) rfl)
theorem lk_X11_163 : kLk RX11 163 yJx4a65c_get_915e3 := Or.inl (tb3 (i := 88) rfl)
theorem lk_X11_411 : kLk RX11 411 yX9_same := Or.inl (tb3 (i := 90) rfl)
theorem lk_X9_66 : kLk RX9 66 yX9_isPart := Or.inl (tb3 (i := 94) rfl)
theorem lk_X11_207 : kLk RX11 207 yX0_redirectFor := Or.inl (tb3 (i := 98) rfl)
theorem lk_X0_49 : kLk RX0 49 yX9_size := Or.inl (tb3 (i := 102) rfl)
theorem lk_X0_53 : kLk RX0 53 yJx4a65c_size_8abf5 := Or.inl (tb3 (i := 103) rfl)
theorem lk_X0_54 : kLk RX0 54 yJx4a65c_get_915e3 := Or.inl (tb3 (i := 104) rfl)
theorem lk_X0_43 : kLk RX0 43 yX9_same := Or.inl (tb3 (i := 106) rfl)
theorem lk_X11_214 : kLk RX11 214 yX11_scopesTold := Or.inl (tb3 (i := 107) rfl)
theorem lk_X11_285 : kLk RX11 285 yX3_isThere := Or.inl (tb3 (i := 111) rfl)
theorem lk_X3_26 : kLk RX3 26 yX9_size := Or.inl (tb3 (i := 115) rfl)
theorem lk_X11_349 : kLk RX11 349 yX9_at := Or.inl (tb3 (i := 116) rfl)
theorem lk_X11_112 : kLk RX11 112 yX11_scopeOf := Or.inl (tb3 (i := 117) rfl)
theorem lk_X11_397 : kLk RX11 397 yX9_isPart := Or.inl (tb3 (i := 121) rfl)
theorem lk_X11_217 : kLk RX11 217 yX11_faultOfRequest := Or.inl (tb3 (i := 122) rfl)
theorem lk_X11_297 : kLk RX11 297 yX9_spells := Or.inl (tb3 (i := 127) rfl)
theorem lk_X11_426 : kLk RX11 426 yX11_isChallenge := Or.inl (tb3 (i := 128) rfl)
theorem lk_X11_434 : kLk RX11 434 yX9_isUnreservedAll := Or.inl (tb3 (i := 131) rfl)
theorem lk_X9_47 : kLk RX9 47 yX11_isUnreserved := Or.inr ⟨"GrantServer", (tb3 (i := 135) rfl)⟩
theorem lk_X11_393 : kLk RX11 393 yX9_has := Or.inl (tb3 (i := 138) rfl)
theorem lk_X9_73 : kLk RX9 73 yX9_indexOf := Or.inl (tb3 (i := 142) rfl)
theorem lk_X11_254 : kLk RX11 254 yX11_isWithin := Or.inl (tb3 (i := 144) rfl)
theorem lk_X11_224 : kLk RX11 224 yX11_sendError := Or.inl (tb3 (i := 147) rfl)
theorem lk_X11_437 : kLk RX11 437 yX11_startLocation := Or.inl (tb3 (i := 151) rfl)
theorem lk_X11_459 : kLk RX11 459 yX9_add := Or.inl (tb3 (i := 155) rfl)
theorem lk_X11_443 : kLk RX11 443 yX9_addWord := Or.inl (tb3 (i := 157) rfl)
theorem lk_X11_446 : kLk RX11 446 yX11_wordOf := Or.inl (tb3 (i := 161) rfl)
theorem lk_X11_450 : kLk RX11 450 yX11_endLocation := Or.inl (tb3 (i := 175) rfl)
theorem lk_X11_463 : kLk RX11 463 yX9_addEscaped := Or.inl (tb3 (i := 180) rfl)
theorem lk_X11_233 : kLk RX11 233 yX3_copy := Or.inl (tb3 (i := 187) rfl)
theorem lk_X3_30 : kLk RX3 30 yX9_copyOfPart := Or.inl (tb3 (i := 191) rfl)
theorem lk_X9_57 : kLk RX9 57 yJ9_min_7cf53 := Or.inl (tb3 (i := 196) rfl)
theorem lk_X9_60 : kLk RX9 60 yX9_init := Or.inl (tb3 (i := 197) rfl)
theorem lk_X9_62 : kLk RX9 62 yX9_addPart := Or.inl (tb3 (i := 198) rfl)
theorem lk_X11_237 : kLk RX11 237 yX7_init := Or.inl (tb3 (i := 199) rfl)
theorem lo_X7_1 : Cond.methodLink RX7 1 objectInit ∈ lw_tbl := (tb3 (i := 202) rfl)
theorem lk_X11_129 : kLk RX11 129 yJx4a65c_add_9ea2d := Or.inl (tb3 (i := 228) rfl)
theorem lk_L_107 : kLk RL 107 yX11_token := Or.inl (tb3 (i := 229) rfl)
theorem lk_X11_288 : kLk RX11 288 yX11_deny := Or.inl (tb3 (i := 233) rfl)
theorem lk_X11_291 : kLk RX11 291 yX11_whoAsks := Or.inl (tb3 (i := 239) rfl)
theorem lk_X11_417 : kLk RX11 417 yX0_isShownBy := Or.inl (tb4 (i := 3) rfl)
theorem lk_X0_34 : kLk RX0 34 yX3_isThere := Or.inl (tb4 (i := 7) rfl)
theorem lk_X11_301 : kLk RX11 301 yX11_redeem := Or.inl (tb4 (i := 9) rfl)
theorem lk_X11_471 : kLk RX11 471 yX11_isVerifier := Or.inl (tb4 (i := 13) rfl)
theorem lk_X11_474 : kLk RX11 474 yX11_codeOf := Or.inl (tb4 (i := 16) rfl)
theorem lk_X11_524 : kLk RX11 524 yX6_find := Or.inl (tb4 (i := 20) rfl)
theorem lk_X6_34 : kLk RX6 34 yJx4a65c_get_915e3 := Or.inl (tb4 (i := 24) rfl)
theorem lk_X6_71 : kLk RX6 71 yX9_same := Or.inl (tb4 (i := 25) rfl)
theorem lk_X11_481 : kLk RX11 481 yX8_signs := Or.inl (tb4 (i := 27) rfl)
theorem lk_X8_36 : kLk RX8 36 yX9_size := Or.inl (tb4 (i := 34) rfl)
theorem lk_X8_40 : kLk RX8 40 yX8_fillSchedule := Or.inl (tb4 (i := 35) rfl)
theorem lk_X8_54 : kLk RX8 54 yX8_padded := Or.inl (tb4 (i := 39) rfl)
theorem lk_X8_62 : kLk RX8 62 yX9_at := Or.inl (tb4 (i := 42) rfl)
theorem lk_X8_58 : kLk RX8 58 yX8_rotate := Or.inl (tb4 (i := 43) rfl)
theorem lk_X8_44 : kLk RX8 44 yX8_mixBlock := Or.inl (tb4 (i := 46) rfl)
theorem lk_X8_47 : kLk RX8 47 yX9_clear := Or.inl (tb4 (i := 52) rfl)
theorem lk_X8_50 : kLk RX8 50 yX9_addBase64 := Or.inl (tb4 (i := 53) rfl)
theorem lk_X11_490 : kLk RX11 490 yX11_canGiveTokens := Or.inl (tb4 (i := 54) rfl)
theorem lk_X11_260 : kLk RX11 260 yX6_canMake := Or.inl (tb4 (i := 58) rfl)
theorem lk_X6_38 : kLk RX6 38 yX6_isAhead := Or.inl (tb4 (i := 62) rfl)
theorem lk_X6_42 : kLk RX6 42 yX5_isOf := Or.inl (tb4 (i := 65) rfl)
theorem lk_X11_494 : kLk RX11 494 yX2_init := Or.inl (tb4 (i := 71) rfl)
theorem lo_X2_1 : Cond.methodLink RX2 1 objectInit ∈ lw_tbl := (tb4 (i := 74) rfl)
theorem lk_X11_497 : kLk RX11 497 yX11_giveTokens := Or.inl (tb4 (i := 101) rfl)
theorem lk_X11_455 : kLk RX11 455 yX6_make := Or.inl (tb4 (i := 106) rfl)
theorem lk_X6_46 : kLk RX6 46 yJx4a65c_isEmpty_aae02 := Or.inl (tb4 (i := 110) rfl)
theorem lk_X6_50 : kLk RX6 50 yJx4a65c_remove_915e3 := Or.inl (tb4 (i := 114) rfl)
theorem lk_Jx4a65c_144 : kLk RJx4a65c 144 yJx4a65c_fastRemove_b59b0 := Or.inl (tb4 (i := 118) rfl)
theorem lk_X6_64 : kLk RX6 64 yX9_size := Or.inl (tb4 (i := 123) rfl)
theorem lk_X6_67 : kLk RX6 67 yX9_addPart := Or.inl (tb4 (i := 124) rfl)
theorem lk_X11_507 : kLk RX11 507 yX10_init := Or.inl (tb4 (i := 127) rfl)
theorem lo_X10_1 : Cond.methodLink RX10 1 objectInit ∈ lw_tbl := (tb4 (i := 130) rfl)
theorem lk_X11_512 : kLk RX11 512 yX9_addNumber := Or.inl (tb4 (i := 149) rfl)
theorem lk_X11_519 : kLk RX11 519 yX11_addScopeWords := Or.inl (tb4 (i := 156) rfl)
theorem lk_X11_307 : kLk RX11 307 yX11_turn := Or.inl (tb4 (i := 161) rfl)
theorem lk_X11_313 : kLk RX11 313 yX11_refreshOf := Or.inl (tb4 (i := 165) rfl)
theorem lk_L_111 : kLk RL 111 yX11_revoke := Or.inl (tb4 (i := 169) rfl)
theorem lk_X11_334 : kLk RX11 334 yX11_accessOf := Or.inl (tb4 (i := 173) rfl)
theorem lk_L_118 : kLk RL 118 yX11_status := Or.inl (tb4 (i := 177) rfl)
theorem lk_L_122 : kLk RL 122 yX11_error := Or.inl (tb4 (i := 181) rfl)
theorem lk_L_126 : kLk RL 126 yX11_out := Or.inl (tb4 (i := 185) rfl)
theorem lk_L_130 : kLk RL 130 yX11_outs := Or.inl (tb4 (i := 189) rfl)
theorem lk_L_141 : kLk RL 141 yX11_count := Or.inl (tb4 (i := 193) rfl)
theorem lk_X11_381 : kLk RX11 381 yX11_openRequests := Or.inl (tb4 (i := 197) rfl)
theorem lk_X11_384 : kLk RX11 384 yX11_familiesTakenBack := Or.inl (tb4 (i := 201) rfl)
theorem lk_L_70 : kLk RL 70 yL_scope := Or.inl (tb4 (i := 205) rfl)
theorem lk_L_7 : kLk RL 7 yX11_scope := Or.inl (tb4 (i := 210) rfl)
theorem lk_X11_101 : kLk RX11 101 yX11_isScopeWord := Or.inl (tb4 (i := 214) rfl)
theorem lk_X11_390 : kLk RX11 390 yX9_isVisible := Or.inl (tb4 (i := 217) rfl)
theorem lk_X9_70 : kLk RX9 70 yX11_isVisibleByte := Or.inr ⟨"GrantServer", (tb4 (i := 221) rfl)⟩
theorem lk_X11_105 : kLk RX11 105 yX9_copyOfPart := Or.inl (tb4 (i := 222) rfl)
theorem lk_L_79 : kLk RL 79 yL_client := Or.inl (tb5 (i := 68) rfl)
theorem lk_L_17 : kLk RL 17 yX11_client := Or.inl (tb5 (i := 71) rfl)
theorem lk_X11_133 : kLk RX11 133 yX11_clientOnTape := Or.inl (tb5 (i := 75) rfl)
theorem lk_X11_404 : kLk RX11 404 yX9_indexOf := Or.inl (tb5 (i := 79) rfl)
theorem lk_X11_408 : kLk RX11 408 yX0_init := Or.inl (tb5 (i := 81) rfl)
theorem lo_X0_1 : Cond.methodLink RX0 1 objectInit ∈ lw_tbl := (tb5 (i := 84) rfl)
theorem lk_X0_9 : kLk RX0 9 yJx4a65c_init_da8c8 := Or.inl (tb5 (i := 86) rfl)
theorem lk_X11_137 : kLk RX11 137 yX11_areScopes := Or.inl (tb5 (i := 111) rfl)
theorem lk_L_83 : kLk RL 83 yL_redirect := Or.inl (tb5 (i := 117) rfl)
theorem lk_L_21 : kLk RL 21 yX11_redirect := Or.inl (tb5 (i := 121) rfl)
theorem lk_X11_153 : kLk RX11 153 yX11_isRedirect := Or.inl (tb5 (i := 125) rfl)
theorem lk_L_87 : kLk RL 87 yL_lives := Or.inl (tb5 (i := 146) rfl)
theorem lk_L_27 : kLk RL 27 yX11_lives := Or.inl (tb5 (i := 149) rfl)
theorem lk_X11_172 : kLk RX11 172 yX11_isLife := Or.inl (tb5 (i := 153) rfl)
theorem lk_L_96 : kLk RL 96 yL_tick := Or.inl (tb5 (i := 158) rfl)
theorem lk_L_31 : kLk RL 31 yX11_tick := Or.inl (tb5 (i := 161) rfl)
theorem lk_L_103 : kLk RL 103 yL_consent := Or.inl (tb5 (i := 167) rfl)
theorem lk_L_34 : kLk RL 34 yX11_consent := Or.inl (tb5 (i := 172) rfl)
theorem lk_X11_275 : kLk RX11 275 yX1_init := Or.inl (tb5 (i := 210) rfl)
theorem lo_X1_1 : Cond.methodLink RX1 1 objectInit ∈ lw_tbl := (tb5 (i := 213) rfl)
theorem lk_X11_278 : kLk RX11 278 yX11_sendCode := Or.inl (tb5 (i := 235) rfl)
theorem lk_L_115 : kLk RL 115 yL_check := Or.inl (tb6 (i := 0) rfl)
theorem lk_L_42 : kLk RL 42 yX11_check := Or.inl (tb6 (i := 3) rfl)
theorem lk_X11_342 : kLk RX11 342 yX10_isGood := Or.inl (tb6 (i := 8) rfl)
theorem lk_L_134 : kLk RL 134 yL_code := Or.inl (tb6 (i := 12) rfl)
theorem lk_L_45 : kLk RL 45 yX11_code := Or.inl (tb6 (i := 15) rfl)
theorem lk_X11_354 : kLk RX11 354 yX1_standing := Or.inl (tb6 (i := 20) rfl)
theorem lk_L_138 : kLk RL 138 yL_family := Or.inl (tb6 (i := 25) rfl)
theorem lk_L_49 : kLk RL 49 yX11_family := Or.inl (tb6 (i := 28) rfl)
theorem lk_X11_373 : kLk RX11 373 yX11_goodAccessTokens := Or.inl (tb6 (i := 33) rfl)
theorem lk_L_55 : kLk RL 55 yX12_init := Or.inl (tb6 (i := 40) rfl)
theorem lo_X12_1 : Cond.methodLink RX12 1 objectInit ∈ lw_tbl := (tb6 (i := 43) rfl)
theorem lk_L_76 : kLk RL 76 yX12_thrown := Or.inl (tb7 (i := 32) rfl)
theorem lk_L_60 : kLk RL 60 yX12_feed := Or.inl (tb7 (i := 36) rfl)
theorem lk_L_65 : kLk RL 65 yX12_end := Or.inl (tb7 (i := 40) rfl)
theorem lk_L_69 : kLk RL 69 yX12_again := Or.inl (tb7 (i := 44) rfl)
theorem lk_L_75 : kLk RL 75 yX12_scope := Or.inl (tb7 (i := 48) rfl)
theorem lk_X12_351 : kLk RX12 351 yX12_used := Or.inl (tb7 (i := 52) rfl)
theorem lk_X12_353 : kLk RX12 353 yX12_isVisible := Or.inl (tb7 (i := 56) rfl)
theorem lk_X12_264 : kLk RX12 264 yX12_isLike := Or.inl (tb7 (i := 59) rfl)
theorem lk_X12_357 : kLk RX12 357 yX12_throwsIf := Or.inl (tb7 (i := 62) rfl)
theorem lk_L_82 : kLk RL 82 yX12_client := Or.inl (tb7 (i := 66) rfl)
theorem lk_L_86 : kLk RL 86 yX12_redirect := Or.inl (tb7 (i := 70) rfl)
theorem lk_L_90 : kLk RL 90 yX12_lives := Or.inl (tb7 (i := 74) rfl)
theorem lk_X12_362 : kLk RX12 362 yX12_isLife := Or.inl (tb7 (i := 78) rfl)
theorem lk_L_95 : kLk RL 95 yX12_dice := Or.inl (tb7 (i := 82) rfl)
theorem lk_L_98 : kLk RL 98 yX12_tick := Or.inl (tb7 (i := 86) rfl)
theorem lk_L_102 : kLk RL 102 yX12_authorize := Or.inl (tb7 (i := 91) rfl)
theorem lk_X12_372 : kLk RX12 372 yX12_isForm := Or.inl (tb7 (i := 95) rfl)
theorem lk_X12_245 : kLk RX12 245 yX12_piece := Or.inl (tb7 (i := 99) rfl)
theorem lk_X12_249 : kLk RX12 249 yX12_decode := Or.inl (tb7 (i := 103) rfl)
theorem lk_X12_242 : kLk RX12 242 yX12_hex := Or.inl (tb7 (i := 107) rfl)
theorem lk_X12_253 : kLk RX12 253 yX12_known := Or.inl (tb7 (i := 110) rfl)
theorem lk_X12_205 : kLk RX12 205 yX12_word := Or.inl (tb7 (i := 113) rfl)
theorem lk_X12_209 : kLk RX12 209 yX12_isText := Or.inl (tb7 (i := 129) rfl)
theorem lk_X12_191 : kLk RX12 191 yJ0_length_8abf5 := Or.inl (tb7 (i := 132) rfl)
theorem lk_X12_197 : kLk RX12 197 yJ0_charAt_5068e := Or.inl (tb7 (i := 133) rfl)
theorem lk_X12_375 : kLk RX12 375 yX12_clientOf := Or.inl (tb7 (i := 134) rfl)
theorem lk_X12_260 : kLk RX12 260 yX12_has := Or.inl (tb7 (i := 138) rfl)
theorem lk_X12_378 : kLk RX12 378 yX12_redirectOf := Or.inl (tb7 (i := 142) rfl)
theorem lk_X12_328 : kLk RX12 328 yX12_ends := Or.inl (tb7 (i := 146) rfl)
theorem lk_X12_381 : kLk RX12 381 yX12_isValue := Or.inl (tb7 (i := 150) rfl)
theorem lk_X12_385 : kLk RX12 385 yX12_isChallenge := Or.inl (tb7 (i := 154) rfl)
theorem lk_X12_345 : kLk RX12 345 yX12_isLetterOrDigit := Or.inl (tb7 (i := 158) rfl)
theorem lk_X12_391 : kLk RX12 391 yX12_asked := Or.inl (tb7 (i := 162) rfl)
theorem lk_X12_369 : kLk RX12 369 yX12_scopesOf := Or.inl (tb7 (i := 166) rfl)
theorem lk_X12_397 : kLk RX12 397 yX12_place := Or.inl (tb7 (i := 170) rfl)
theorem lk_X12_299 : kLk RX12 299 yX12_puts := Or.inl (tb7 (i := 174) rfl)
theorem lk_X12_334 : kLk RX12 334 yX12_says := Or.inl (tb7 (i := 179) rfl)
theorem lk_X12_338 : kLk RX12 338 yX12_errorWord := Or.inl (tb7 (i := 183) rfl)
theorem lk_X12_402 : kLk RX12 402 yX12_state := Or.inl (tb7 (i := 196) rfl)
theorem lk_L_106 : kLk RL 106 yX12_consent := Or.inl (tb7 (i := 201) rfl)
theorem lk_X12_411 : kLk RX12 411 yX12_takes := Or.inl (tb7 (i := 205) rfl)
theorem lk_X12_281 : kLk RX12 281 yX12_isUsed := Or.inl (tb7 (i := 209) rfl)
theorem lk_X12_274 : kLk RX12 274 yX12_areSame := Or.inl (tb7 (i := 213) rfl)
theorem lk_X12_285 : kLk RX12 285 yX12_uses := Or.inl (tb7 (i := 216) rfl)
theorem lk_X12_418 : kLk RX12 418 yX12_saysHandle := Or.inl (tb7 (i := 222) rfl)
theorem lk_X12_293 : kLk RX12 293 yX12_handle := Or.inl (tb7 (i := 226) rfl)
theorem lk_X12_289 : kLk RX12 289 yX12_coded := Or.inl (tb7 (i := 230) rfl)
theorem lk_X12_201 : kLk RX12 201 yX12_sign := Or.inl (tb7 (i := 233) rfl)
theorem lk_L_110 : kLk RL 110 yX12_token := Or.inl (tb7 (i := 236) rfl)
theorem lk_X12_421 : kLk RX12 421 yX12_refuses := Or.inl (tb8 (i := 0) rfl)
theorem lk_X12_424 : kLk RX12 424 yX12_asker := Or.inl (tb8 (i := 6) rfl)
theorem lk_X12_429 : kLk RX12 429 yX12_redeems := Or.inl (tb8 (i := 11) rfl)
theorem lk_X12_438 : kLk RX12 438 yX12_isVerifier := Or.inl (tb8 (i := 15) rfl)
theorem lk_X12_441 : kLk RX12 441 yX12_isHandle := Or.inl (tb8 (i := 19) rfl)
theorem lk_X12_445 : kLk RX12 445 yX12_isRedirectOf := Or.inl (tb8 (i := 23) rfl)
theorem lk_X12_448 : kLk RX12 448 yX12_isProved := Or.inl (tb8 (i := 27) rfl)
theorem lk_X12_435 : kLk RX12 435 yX12_sha := Or.inl (tb8 (i := 31) rfl)
theorem lk_X12_485 : kLk RX12 485 yX12_block := Or.inl (tb8 (i := 37) rfl)
theorem lk_X12_488 : kLk RX12 488 yX12_rolled := Or.inl (tb8 (i := 41) rfl)
theorem lk_X12_451 : kLk RX12 451 yX12_gives := Or.inl (tb8 (i := 46) rfl)
theorem lk_X12_458 : kLk RX12 458 yX12_comes := Or.inl (tb8 (i := 50) rfl)
theorem lk_X12_432 : kLk RX12 432 yX12_turns := Or.inl (tb8 (i := 58) rfl)
theorem lk_X12_476 : kLk RX12 476 yX12_refreshOf := Or.inl (tb8 (i := 62) rfl)
theorem lk_L_114 : kLk RL 114 yX12_revoke := Or.inl (tb8 (i := 66) rfl)
theorem lk_L_117 : kLk RL 117 yX12_check := Or.inl (tb8 (i := 70) rfl)
theorem lk_X12_479 : kLk RX12 479 yX12_isGood := Or.inl (tb8 (i := 74) rfl)
theorem lk_L_121 : kLk RL 121 yX12_status := Or.inl (tb8 (i := 78) rfl)
theorem lk_L_125 : kLk RL 125 yX12_error := Or.inl (tb8 (i := 82) rfl)
theorem lk_L_129 : kLk RL 129 yX12_out := Or.inl (tb8 (i := 86) rfl)
theorem lk_L_133 : kLk RL 133 yX12_outs := Or.inl (tb8 (i := 90) rfl)
theorem lk_L_137 : kLk RL 137 yX12_code := Or.inl (tb8 (i := 94) rfl)
theorem lk_L_140 : kLk RL 140 yX12_family := Or.inl (tb8 (i := 98) rfl)
theorem lk_L_144 : kLk RL 144 yX12_count := Or.inl (tb8 (i := 102) rfl)
theorem oi_im : Cond.instanceMethod objectInit ∈ lw_tbl := (tb1 (i := 40) rfl)
theorem oi_co : Cond.code objectInit ⟨#[0xb1]⟩ 1 none ∈ lw_tbl := (tb1 (i := 41) rfl)
theorem ay_0 : Cond.arrayClass (kty 0) ∈ lw_tbl := (tb1 (i := 61) rfl)
theorem co_J8_200 : Cond.constant RJ8 200 (2147483639) ∈ lw_tbl := (tb1 (i := 155) rfl)
theorem ay_1 : Cond.arrayClass (kty 1) ∈ lw_tbl := (tb2 (i := 54) rfl)
theorem co_X9_53 : Cond.constantLong RX9 53 (4294967295) ∈ lw_tbl := (tb2 (i := 172) rfl)
theorem co_X9_46 : Cond.constant RX9 46 (1000000) ∈ lw_tbl := (tb4 (i := 153) rfl)
theorem co_X11_396 : Cond.constant RX11 396 (1000000) ∈ lw_tbl := (tb5 (i := 156) rfl)
theorem co_X11_184 : Cond.constant RX11 184 (100000) ∈ lw_tbl := (tb5 (i := 165) rfl)
theorem co_X12_85 : Cond.constant RX12 85 (400000) ∈ lw_tbl := (tb6 (i := 44) rfl)
theorem ay_2 : Cond.arrayClass (kty 2) ∈ lw_tbl := (tb7 (i := 31) rfl)
theorem co_X12_361 : Cond.constant RX12 361 (1000000) ∈ lw_tbl := (tb7 (i := 81) rfl)
theorem co_X12_365 : Cond.constant RX12 365 (100000) ∈ lw_tbl := (tb7 (i := 90) rfl)
theorem ay_3 : Cond.arrayClass (kty 3) ∈ lw_tbl := (tb8 (i := 106) rfl)
theorem xm_in : Cond.initialized "java/lang/Math" ∈ lw_tbl := (tb1 (i := 3) rfl)
theorem cl_L_8 : Cond.classLink RL 8 RX11 ∈ lw_tbl := (tb1 (i := 34) rfl)
theorem cl_X11_7 : Cond.classLink RX11 7 RX9 ∈ lw_tbl := (tb1 (i := 42) rfl)
theorem xmax_X9_18 : Cond.methodLink RX9 18 Lib.Math.max.name ∈ lw_tbl := (tb1 (i := 48) rfl)
theorem xm_max_st : Cond.static Lib.Math.max.name ∈ lw_tbl := (tb1 (i := 49) rfl)
theorem xm_max_co : Cond.code Lib.Math.max.name Lib.Math.max.code 2 (some .int) ∈ lw_tbl := (tb1 (i := 50) rfl)
theorem cl_X11_21 : Cond.classLink RX11 21 RX4 ∈ lw_tbl := (tb1 (i := 62) rfl)
theorem cl_X4_9 : Cond.classLink RX4 9 RX9 ∈ lw_tbl := (tb1 (i := 68) rfl)
theorem cl_X4_26 : Cond.classLink RX4 26 RX3 ∈ lw_tbl := (tb1 (i := 73) rfl)
theorem sr_X4_28 : Cond.stringRef RX4 28 "response_type" ∈ lw_tbl := (tb1 (i := 75) rfl)
theorem cl_X3_17 : Cond.classLink RX3 17 RX9 ∈ lw_tbl := (tb1 (i := 80) rfl)
theorem sr_X4_37 : Cond.stringRef RX4 37 "client_id" ∈ lw_tbl := (tb1 (i := 97) rfl)
theorem sr_X4_42 : Cond.stringRef RX4 42 "redirect_uri" ∈ lw_tbl := (tb1 (i := 98) rfl)
theorem sr_X4_47 : Cond.stringRef RX4 47 "scope" ∈ lw_tbl := (tb1 (i := 99) rfl)
theorem sr_X4_51 : Cond.stringRef RX4 51 "state" ∈ lw_tbl := (tb1 (i := 100) rfl)
theorem sr_X4_55 : Cond.stringRef RX4 55 "code_challenge" ∈ lw_tbl := (tb1 (i := 101) rfl)
theorem sr_X4_60 : Cond.stringRef RX4 60 "code_challenge_method" ∈ lw_tbl := (tb1 (i := 102) rfl)
theorem sr_X4_65 : Cond.stringRef RX4 65 "grant_type" ∈ lw_tbl := (tb1 (i := 103) rfl)
theorem sr_X4_70 : Cond.stringRef RX4 70 "code" ∈ lw_tbl := (tb1 (i := 104) rfl)
theorem sr_X4_74 : Cond.stringRef RX4 74 "code_verifier" ∈ lw_tbl := (tb1 (i := 105) rfl)
theorem sr_X4_79 : Cond.stringRef RX4 79 "client_secret" ∈ lw_tbl := (tb1 (i := 106) rfl)
theorem sr_X4_84 : Cond.stringRef RX4 84 "refresh_token" ∈ lw_tbl := (tb1 (i := 107) rfl)
theorem sr_X4_89 : Cond.stringRef RX4 89 "token" ∈ lw_tbl := (tb1 (i := 108) rfl)
theorem cl_X4_93 : Cond.classLink RX4 93 RJx4a65c ∈ lw_tbl := (tb1 (i := 109) rfl)
theorem fw_Jx4a65c_39 : Cond.fieldLink RJx4a65c 39 "java/util/ArrayList" "DEFAULTCAPACITY_EMPTY_ELEMENTDATA" "[Ljava/lang/Object;" ∈ lw_tbl := (tb1 (i := 121) rfl)
theorem xmax_J8_194 : Cond.methodLink RJ8 194 Lib.Math.max.name ∈ lw_tbl := (tb1 (i := 154) rfl)
theorem lg_J7_86 : Cond.methodLink RJ7 86 ⟨"java/lang/Object", "getClass", "()Ljava/lang/Class;"⟩ ∈ lw_tbl := (tb1 (i := 162) rfl)
abbrev yGC : MethodName := ⟨"java/lang/Object", "getClass", "()Ljava/lang/Class;"⟩
theorem gc_nat : Cond.native yGC ∈ lw_tbl := (tb1 (i := 184) rfl)
theorem gc_de : Cond.declares yGC ∈ lw_tbl := (tb8 (i := 118) rfl)
theorem gc_im : Cond.instanceMethod yGC ∈ lw_tbl := (tb1 (i := 163) rfl)
theorem gc_se : Cond.selects "[Ljava/lang/Object;" yGC yGC ∈ lw_tbl := (tb8 (i := 117) rfl)
theorem cl_J7_110 : Cond.classLink RJ7 110 "[Ljava/lang/Object;" ∈ lw_tbl := (tb1 (i := 188) rfl)
theorem ao_O : Cond.arrayOver (.object "java/lang/Object") ∈ lw_tbl := (tb1 (i := 189) rfl)
theorem cl_J7_2 : Cond.classLink RJ7 2 "java/lang/Object" ∈ lw_tbl := (tb1 (i := 190) rfl)
theorem xmin_J7_304 : Cond.methodLink RJ7 304 Lib.Math.min.name ∈ lw_tbl := (tb1 (i := 191) rfl)
theorem xm_min_st : Cond.static Lib.Math.min.name ∈ lw_tbl := (tb1 (i := 192) rfl)
theorem xm_min_co : Cond.code Lib.Math.min.name Lib.Math.min.code 2 (some .int) ∈ lw_tbl := (tb1 (i := 193) rfl)
theorem la_J7_150 : Cond.methodLink RJ7 150 arraycopyName ∈ lw_tbl := (tb1 (i := 194) rfl)
theorem ac_nat : Cond.native arraycopyName ∈ lw_tbl := (tb1 (i := 196) rfl)
theorem ac_st : Cond.static arraycopyName ∈ lw_tbl := (tb1 (i := 195) rfl)
theorem ac_in : Cond.initialized "java/lang/System" ∈ lw_tbl := (tb1 (i := 11) rfl)
theorem xmax_Jx4a65c_79 : Cond.methodLink RJx4a65c 79 Lib.Math.max.name ∈ lw_tbl := (tb1 (i := 197) rfl)
theorem cl_Jx4a65c_7 : Cond.classLink RJx4a65c 7 "java/lang/Object" ∈ lw_tbl := (tb1 (i := 198) rfl)
theorem cl_X11_28 : Cond.classLink RX11 28 RX6 ∈ lw_tbl := (tb2 (i := 21) rfl)
theorem cl_X6_9 : Cond.classLink RX6 9 RJx4a65c ∈ lw_tbl := (tb2 (i := 27) rfl)
theorem cl_X11_35 : Cond.classLink RX11 35 RX8 ∈ lw_tbl := (tb2 (i := 36) rfl)
theorem cl_X8_18 : Cond.classLink RX8 18 RX9 ∈ lw_tbl := (tb2 (i := 42) rfl)
theorem cl_X11_42 : Cond.classLink RX11 42 RJx4a65c ∈ lw_tbl := (tb2 (i := 55) rfl)
theorem cl_X6_25 : Cond.classLink RX6 25 RX5 ∈ lw_tbl := (tb2 (i := 160) rfl)
theorem cl_X5_15 : Cond.classLink RX5 15 RX9 ∈ lw_tbl := (tb2 (i := 166) rfl)
theorem sr_X9_55 : Cond.stringRef RX9 55 "ABCDEFGHIJKLMNOPQRSTUVWXYZabcdefghijklmnopqrstuvwxyz0123456789-_" ∈ lw_tbl := (tb2 (i := 173) rfl)
theorem lm_X9_42 : Cond.methodLink RX9 42 yJ0_charAt_5068e ∈ lw_tbl := (tb2 (i := 174) rfl)
theorem lm_J0_492 : Cond.methodLink RJ0 492 yJ0_isLatin1_aae02 ∈ lw_tbl := (tb2 (i := 178) rfl)
theorem fw_J0_38 : Cond.fieldLink RJ0 38 "java/lang/String" "COMPACT_STRINGS" "Z" ∈ lw_tbl := (tb2 (i := 182) rfl)
theorem lm_J1_9 : Cond.methodLink RJ1 9 yJ0_checkIndex_df160 ∈ lw_tbl := (tb2 (i := 187) rfl)
theorem fw_J0_1053 : Cond.fieldLink RJ0 1053 "jdk/internal/util/Preconditions" "SIOOBE_FORMATTER" "Ljava/util/function/BiFunction;" ∈ lw_tbl := (tb2 (i := 190) rfl)
theorem lm_J2_414 : Cond.methodLink RJ2 414 yJ0_checkIndex_df160 ∈ lw_tbl := (tb2 (i := 204) rfl)
theorem fw_J2_44 : Cond.fieldLink RJ2 44 "java/lang/StringUTF16" "$assertionsDisabled" "Z" ∈ lw_tbl := (tb2 (i := 208) rfl)
theorem fw_J2_59 : Cond.fieldLink RJ2 59 "java/lang/StringUTF16" "HI_BYTE_SHIFT" "I" ∈ lw_tbl := (tb2 (i := 210) rfl)
theorem fw_J2_63 : Cond.fieldLink RJ2 63 "java/lang/StringUTF16" "LO_BYTE_SHIFT" "I" ∈ lw_tbl := (tb2 (i := 212) rfl)
theorem lm_X9_36 : Cond.methodLink RX9 36 yJ0_length_8abf5 ∈ lw_tbl := (tb3 (i := 66) rfl)
theorem lm_J0_335 : Cond.methodLink RJ0 335 yJ0_coder_7d493 ∈ lw_tbl := (tb3 (i := 70) rfl)
theorem cl_X11_141 : Cond.classLink RX11 141 RX0 ∈ lw_tbl := (tb3 (i := 89) rfl)
theorem cl_X0_44 : Cond.classLink RX0 44 RX9 ∈ lw_tbl := (tb3 (i := 105) rfl)
theorem sr_X11_424 : Cond.stringRef RX11 424 "code" ∈ lw_tbl := (tb3 (i := 126) rfl)
theorem sr_X11_432 : Cond.stringRef RX11 432 "S256" ∈ lw_tbl := (tb3 (i := 143) rfl)
theorem sr_X11_441 : Cond.stringRef RX11 441 "error=" ∈ lw_tbl := (tb3 (i := 156) rfl)
theorem sr_X11_530 : Cond.stringRef RX11 530 "invalid_request" ∈ lw_tbl := (tb3 (i := 164) rfl)
theorem sr_X11_532 : Cond.stringRef RX11 532 "access_denied" ∈ lw_tbl := (tb3 (i := 165) rfl)
theorem sr_X11_534 : Cond.stringRef RX11 534 "unsupported_response_type" ∈ lw_tbl := (tb3 (i := 166) rfl)
theorem sr_X11_536 : Cond.stringRef RX11 536 "invalid_scope" ∈ lw_tbl := (tb3 (i := 167) rfl)
theorem sr_X11_538 : Cond.stringRef RX11 538 "invalid_client" ∈ lw_tbl := (tb3 (i := 168) rfl)
theorem sr_X11_540 : Cond.stringRef RX11 540 "invalid_grant" ∈ lw_tbl := (tb3 (i := 169) rfl)
theorem sr_X11_542 : Cond.stringRef RX11 542 "unsupported_grant_type" ∈ lw_tbl := (tb3 (i := 170) rfl)
theorem sr_X11_544 : Cond.stringRef RX11 544 "invalid_token" ∈ lw_tbl := (tb3 (i := 171) rfl)
theorem sr_X11_546 : Cond.stringRef RX11 546 "insufficient_scope" ∈ lw_tbl := (tb3 (i := 172) rfl)
theorem sr_X11_548 : Cond.stringRef RX11 548 "temporarily_unavailable" ∈ lw_tbl := (tb3 (i := 173) rfl)
theorem sr_X11_550 : Cond.stringRef RX11 550 "" ∈ lw_tbl := (tb3 (i := 174) rfl)
theorem sr_X11_461 : Cond.stringRef RX11 461 "&state=" ∈ lw_tbl := (tb3 (i := 179) rfl)
theorem sr_X9_51 : Cond.stringRef RX9 51 "0123456789ABCDEF" ∈ lw_tbl := (tb3 (i := 184) rfl)
theorem cl_X11_228 : Cond.classLink RX11 228 RX7 ∈ lw_tbl := (tb3 (i := 185) rfl)
theorem cl_X9_10 : Cond.classLink RX9 10 RX9 ∈ lw_tbl := (tb3 (i := 195) rfl)
theorem xmin_X9_57 : Cond.methodLink RX9 57 Lib.Math.min.name ∈ lw_tbl := (tb3 (i := 196) rfl)
theorem sr_X11_528 : Cond.stringRef RX11 528 "{\"error\":\"" ∈ lw_tbl := (tb3 (i := 237) rfl)
theorem sr_X11_522 : Cond.stringRef RX11 522 "\"}" ∈ lw_tbl := (tb3 (i := 238) rfl)
theorem sr_X11_295 : Cond.stringRef RX11 295 "authorization_code" ∈ lw_tbl := (tb4 (i := 8) rfl)
theorem cl_X11_273 : Cond.classLink RX11 273 RX1 ∈ lw_tbl := (tb4 (i := 26) rfl)
theorem fw_X8_27 : Cond.fieldLink RX8 27 "GrantServer$Sha256" "START" "[I" ∈ lw_tbl := (tb4 (i := 31) rfl)
theorem la_X8_30 : Cond.methodLink RX8 30 arraycopyName ∈ lw_tbl := (tb4 (i := 33) rfl)
theorem fw_X8_66 : Cond.fieldLink RX8 66 "GrantServer$Sha256" "ROUNDS" "[I" ∈ lw_tbl := (tb4 (i := 50) rfl)
theorem cl_X11_324 : Cond.classLink RX11 324 RX2 ∈ lw_tbl := (tb4 (i := 69) rfl)
theorem sr_X11_505 : Cond.stringRef RX11 505 "{\"access_token\":\"" ∈ lw_tbl := (tb4 (i := 105) rfl)
theorem la_Jx4a65c_112 : Cond.methodLink RJx4a65c 112 arraycopyName ∈ lw_tbl := (tb4 (i := 122) rfl)
theorem cl_X11_318 : Cond.classLink RX11 318 RX10 ∈ lw_tbl := (tb4 (i := 125) rfl)
theorem sr_X11_510 : Cond.stringRef RX11 510 "\",\"token_type\":\"Bearer\",\"expires_in\":" ∈ lw_tbl := (tb4 (i := 148) rfl)
theorem sr_X11_515 : Cond.stringRef RX11 515 ",\"refresh_token\":\"" ∈ lw_tbl := (tb4 (i := 154) rfl)
theorem sr_X11_517 : Cond.stringRef RX11 517 ",\"scope\":\"" ∈ lw_tbl := (tb4 (i := 155) rfl)
theorem sr_X11_305 : Cond.stringRef RX11 305 "refresh_token" ∈ lw_tbl := (tb4 (i := 160) rfl)
theorem cl_L_13 : Cond.classLink RL 13 "java/lang/IllegalArgumentException" ∈ lw_tbl := (tb4 (i := 208) rfl)
theorem cl_L_15 : Cond.classLink RL 15 "java/lang/UnsupportedOperationException" ∈ lw_tbl := (tb4 (i := 209) rfl)
theorem cl_X11_116 : Cond.classLink RX11 116 "java/lang/IllegalArgumentException" ∈ lw_tbl := (tb4 (i := 223) rfl)
theorem sr_X11_118 : Cond.stringRef RX11 118 "no WORD, or one of a SCOPE" ∈ lw_tbl := (tb5 (i := 26) rfl)
theorem cl_X11_124 : Cond.classLink RX11 124 "java/lang/UnsupportedOperationException" ∈ lw_tbl := (tb5 (i := 52) rfl)
theorem sr_X11_126 : Cond.stringRef RX11 126 "there are 8 SCOPES" ∈ lw_tbl := (tb5 (i := 61) rfl)
theorem cl_X0_7 : Cond.classLink RX0 7 RJx4a65c ∈ lw_tbl := (tb5 (i := 85) rfl)
theorem sr_X11_149 : Cond.stringRef RX11 149 "no ID and SECRET, no SCOPES, or the ID of a CLIENT" ∈ lw_tbl := (tb5 (i := 115) rfl)
theorem sr_X11_151 : Cond.stringRef RX11 151 "there are 8 CLIENTS" ∈ lw_tbl := (tb5 (i := 116) rfl)
theorem cl_L_25 : Cond.classLink RL 25 "java/lang/IndexOutOfBoundsException" ∈ lw_tbl := (tb5 (i := 120) rfl)
theorem cl_X11_156 : Cond.classLink RX11 156 "java/lang/IndexOutOfBoundsException" ∈ lw_tbl := (tb5 (i := 128) rfl)
theorem sr_X11_158 : Cond.stringRef RX11 158 "no such CLIENT" ∈ lw_tbl := (tb5 (i := 137) rfl)
theorem sr_X11_161 : Cond.stringRef RX11 161 "no REDIRECT" ∈ lw_tbl := (tb5 (i := 144) rfl)
theorem sr_X11_170 : Cond.stringRef RX11 170 "the CLIENT has 3 REDIRECTS" ∈ lw_tbl := (tb5 (i := 145) rfl)
theorem sr_X11_175 : Cond.stringRef RX11 175 "a LIFE is 1 to 1000000" ∈ lw_tbl := (tb5 (i := 157) rfl)
theorem sr_X11_185 : Cond.stringRef RX11 185 "NOW goes on by 0 to 100000" ∈ lw_tbl := (tb5 (i := 166) rfl)
theorem cl_L_38 : Cond.classLink RL 38 "java/util/NoSuchElementException" ∈ lw_tbl := (tb5 (i := 170) rfl)
theorem cl_L_40 : Cond.classLink RL 40 "java/lang/IllegalStateException" ∈ lw_tbl := (tb5 (i := 171) rfl)
theorem cl_X11_248 : Cond.classLink RX11 248 "java/util/NoSuchElementException" ∈ lw_tbl := (tb5 (i := 176) rfl)
theorem sr_X11_250 : Cond.stringRef RX11 250 "no such REQUEST, or it is not open" ∈ lw_tbl := (tb5 (i := 185) rfl)
theorem sr_X11_258 : Cond.stringRef RX11 258 "yes to none, or to one that the REQUEST has not" ∈ lw_tbl := (tb5 (i := 192) rfl)
theorem cl_X11_263 : Cond.classLink RX11 263 "java/lang/IllegalStateException" ∈ lw_tbl := (tb5 (i := 193) rfl)
theorem sr_X11_265 : Cond.stringRef RX11 265 "no HANDLE, or there are 200 CODES" ∈ lw_tbl := (tb5 (i := 202) rfl)
theorem sr_X11_453 : Cond.stringRef RX11 453 "code=" ∈ lw_tbl := (tb5 (i := 239) rfl)
theorem sr_X11_340 : Cond.stringRef RX11 340 "no such SCOPE" ∈ lw_tbl := (tb6 (i := 7) rfl)
theorem sr_X11_352 : Cond.stringRef RX11 352 "no such CODE" ∈ lw_tbl := (tb6 (i := 19) rfl)
theorem sr_X11_368 : Cond.stringRef RX11 368 "no such what of a CODE" ∈ lw_tbl := (tb6 (i := 24) rfl)
theorem sr_X11_370 : Cond.stringRef RX11 370 "no such FAMILY" ∈ lw_tbl := (tb6 (i := 32) rfl)
theorem sr_X11_379 : Cond.stringRef RX11 379 "no such what of a FAMILY" ∈ lw_tbl := (tb6 (i := 37) rfl)
theorem cl_L_53 : Cond.classLink RL 53 RX12 ∈ lw_tbl := (tb6 (i := 38) rfl)
theorem sr_X12_213 : Cond.stringRef RX12 213 "response_type" ∈ lw_tbl := (tb7 (i := 116) rfl)
theorem sr_X12_215 : Cond.stringRef RX12 215 "client_id" ∈ lw_tbl := (tb7 (i := 117) rfl)
theorem sr_X12_217 : Cond.stringRef RX12 217 "redirect_uri" ∈ lw_tbl := (tb7 (i := 118) rfl)
theorem sr_X12_219 : Cond.stringRef RX12 219 "scope" ∈ lw_tbl := (tb7 (i := 119) rfl)
theorem sr_X12_221 : Cond.stringRef RX12 221 "state" ∈ lw_tbl := (tb7 (i := 120) rfl)
theorem sr_X12_223 : Cond.stringRef RX12 223 "code_challenge" ∈ lw_tbl := (tb7 (i := 121) rfl)
theorem sr_X12_225 : Cond.stringRef RX12 225 "code_challenge_method" ∈ lw_tbl := (tb7 (i := 122) rfl)
theorem sr_X12_227 : Cond.stringRef RX12 227 "grant_type" ∈ lw_tbl := (tb7 (i := 123) rfl)
theorem sr_X12_229 : Cond.stringRef RX12 229 "code" ∈ lw_tbl := (tb7 (i := 124) rfl)
theorem sr_X12_231 : Cond.stringRef RX12 231 "code_verifier" ∈ lw_tbl := (tb7 (i := 125) rfl)
theorem sr_X12_233 : Cond.stringRef RX12 233 "client_secret" ∈ lw_tbl := (tb7 (i := 126) rfl)
theorem sr_X12_235 : Cond.stringRef RX12 235 "refresh_token" ∈ lw_tbl := (tb7 (i := 127) rfl)
theorem sr_X12_237 : Cond.stringRef RX12 237 "token" ∈ lw_tbl := (tb7 (i := 128) rfl)
theorem lm_X12_191 : Cond.methodLink RX12 191 yJ0_length_8abf5 ∈ lw_tbl := (tb7 (i := 132) rfl)
theorem lm_X12_197 : Cond.methodLink RX12 197 yJ0_charAt_5068e ∈ lw_tbl := (tb7 (i := 133) rfl)
theorem sr_X12_389 : Cond.stringRef RX12 389 "S256" ∈ lw_tbl := (tb7 (i := 161) rfl)
theorem sr_X12_400 : Cond.stringRef RX12 400 "error=" ∈ lw_tbl := (tb7 (i := 178) rfl)
theorem sr_X12_302 : Cond.stringRef RX12 302 "invalid_request" ∈ lw_tbl := (tb7 (i := 186) rfl)
theorem sr_X12_304 : Cond.stringRef RX12 304 "access_denied" ∈ lw_tbl := (tb7 (i := 187) rfl)
theorem sr_X12_306 : Cond.stringRef RX12 306 "unsupported_response_type" ∈ lw_tbl := (tb7 (i := 188) rfl)
theorem sr_X12_308 : Cond.stringRef RX12 308 "invalid_scope" ∈ lw_tbl := (tb7 (i := 189) rfl)
theorem sr_X12_310 : Cond.stringRef RX12 310 "invalid_client" ∈ lw_tbl := (tb7 (i := 190) rfl)
theorem sr_X12_312 : Cond.stringRef RX12 312 "invalid_grant" ∈ lw_tbl := (tb7 (i := 191) rfl)
theorem sr_X12_314 : Cond.stringRef RX12 314 "unsupported_grant_type" ∈ lw_tbl := (tb7 (i := 192) rfl)
theorem sr_X12_316 : Cond.stringRef RX12 316 "invalid_token" ∈ lw_tbl := (tb7 (i := 193) rfl)
theorem sr_X12_318 : Cond.stringRef RX12 318 "insufficient_scope" ∈ lw_tbl := (tb7 (i := 194) rfl)
theorem sr_X12_320 : Cond.stringRef RX12 320 "temporarily_unavailable" ∈ lw_tbl := (tb7 (i := 195) rfl)
theorem sr_X12_343 : Cond.stringRef RX12 343 "&state=" ∈ lw_tbl := (tb7 (i := 200) rfl)
theorem sr_X12_414 : Cond.stringRef RX12 414 "code=" ∈ lw_tbl := (tb7 (i := 220) rfl)
theorem sr_X12_416 : Cond.stringRef RX12 416 "error=access_denied" ∈ lw_tbl := (tb7 (i := 221) rfl)
theorem sr_X12_332 : Cond.stringRef RX12 332 "{\"error\":\"" ∈ lw_tbl := (tb8 (i := 4) rfl)
theorem sr_X12_341 : Cond.stringRef RX12 341 "\"}" ∈ lw_tbl := (tb8 (i := 5) rfl)
theorem sr_X12_427 : Cond.stringRef RX12 427 "authorization_code" ∈ lw_tbl := (tb8 (i := 10) rfl)
theorem fw_X12_482 : Cond.fieldLink RX12 482 "GrantServerModel" "STARTS" "[I" ∈ lw_tbl := (tb8 (i := 35) rfl)
theorem fw_X12_491 : Cond.fieldLink RX12 491 "GrantServerModel" "ROUNDS" "[I" ∈ lw_tbl := (tb8 (i := 44) rfl)
theorem sr_X12_468 : Cond.stringRef RX12 468 "{\"access_token\":\"" ∈ lw_tbl := (tb8 (i := 54) rfl)
theorem sr_X12_470 : Cond.stringRef RX12 470 "\",\"token_type\":\"Bearer\",\"expires_in\":" ∈ lw_tbl := (tb8 (i := 55) rfl)
theorem sr_X12_472 : Cond.stringRef RX12 472 ",\"refresh_token\":\"" ∈ lw_tbl := (tb8 (i := 56) rfl)
theorem sr_X12_474 : Cond.stringRef RX12 474 ",\"scope\":\"" ∈ lw_tbl := (tb8 (i := 57) rfl)
theorem cs_4 : Cond.castable RX3 RX3 ∈ lw_tbl := (tb8 (i := 108) rfl)
theorem cs_1 : Cond.castable RX0 RX0 ∈ lw_tbl := (tb8 (i := 109) rfl)
theorem cs_10 : Cond.castable RX9 RX9 ∈ lw_tbl := (tb8 (i := 110) rfl)
theorem cs_6 : Cond.castable RX5 RX5 ∈ lw_tbl := (tb8 (i := 111) rfl)
theorem cs_2 : Cond.castable RX1 RX1 ∈ lw_tbl := (tb8 (i := 112) rfl)
theorem cs_11 : Cond.castable RX10 RX10 ∈ lw_tbl := (tb8 (i := 113) rfl)
theorem cs_8 : Cond.castable RX7 RX7 ∈ lw_tbl := (tb8 (i := 114) rfl)
theorem cs_3 : Cond.castable RX2 RX2 ∈ lw_tbl := (tb8 (i := 115) rfl)
theorem ca_12 : Cond.castable RX11 "java/lang/Object" ∈ lw_tbl := (tb8 (i := 119) rfl)
theorem ca_10 : Cond.castable RX9 "java/lang/Object" ∈ lw_tbl := (tb8 (i := 120) rfl)
theorem ca_5 : Cond.castable RX4 "java/lang/Object" ∈ lw_tbl := (tb8 (i := 121) rfl)
theorem ca_4 : Cond.castable RX3 "java/lang/Object" ∈ lw_tbl := (tb8 (i := 122) rfl)
theorem ca_7 : Cond.castable RX6 "java/lang/Object" ∈ lw_tbl := (tb8 (i := 123) rfl)
theorem ca_9 : Cond.castable RX8 "java/lang/Object" ∈ lw_tbl := (tb8 (i := 124) rfl)
theorem ca_13 : Cond.castable RX12 "java/lang/Object" ∈ lw_tbl := (tb8 (i := 125) rfl)
theorem ca_1 : Cond.castable RX0 "java/lang/Object" ∈ lw_tbl := (tb8 (i := 126) rfl)
theorem ca_6 : Cond.castable RX5 "java/lang/Object" ∈ lw_tbl := (tb8 (i := 127) rfl)
theorem ca_8 : Cond.castable RX7 "java/lang/Object" ∈ lw_tbl := (tb8 (i := 128) rfl)
theorem ca_2 : Cond.castable RX1 "java/lang/Object" ∈ lw_tbl := (tb8 (i := 129) rfl)
theorem ca_3 : Cond.castable RX2 "java/lang/Object" ∈ lw_tbl := (tb8 (i := 130) rfl)
theorem ca_11 : Cond.castable RX10 "java/lang/Object" ∈ lw_tbl := (tb8 (i := 131) rfl)
theorem fw_J0_15 : Cond.fieldLink RJ0 15 "java/lang/String" "coder" "B" ∈ lw_tbl := (tb8 (i := 133) rfl)
theorem fw_J0_9 : Cond.fieldLink RJ0 9 "java/lang/String" "value" "[B" ∈ lw_tbl := (tb8 (i := 134) rfl)
theorem pn_X11 : plainName RX11 = true := by decide +kernel
theorem pn_X0 : plainName RX0 = true := by decide +kernel
theorem pn_X1 : plainName RX1 = true := by decide +kernel
theorem pn_X2 : plainName RX2 = true := by decide +kernel
theorem pn_X3 : plainName RX3 = true := by decide +kernel
theorem pn_X4 : plainName RX4 = true := by decide +kernel
theorem pn_X5 : plainName RX5 = true := by decide +kernel
theorem pn_X6 : plainName RX6 = true := by decide +kernel
theorem pn_X7 : plainName RX7 = true := by decide +kernel
theorem pn_X8 : plainName RX8 = true := by decide +kernel
theorem pn_X9 : plainName RX9 = true := by decide +kernel
theorem pn_X10 : plainName RX10 = true := by decide +kernel
theorem pn_L : plainName RL = true := by decide +kernel
theorem pn_X12 : plainName RX12 = true := by decide +kernel
theorem pn_J0 : plainName RJ0 = true := by decide +kernel
theorem pn_J1 : plainName RJ1 = true := by decide +kernel
theorem pn_J2 : plainName RJ2 = true := by decide +kernel
theorem pn_Jxa1e45 : plainName RJxa1e45 = true := by decide +kernel
theorem pn_Jxc12de : plainName RJxc12de = true := by decide +kernel
theorem pn_Jx4a65c : plainName RJx4a65c = true := by decide +kernel
theorem pn_J7 : plainName RJ7 = true := by decide +kernel
theorem pn_J15 : plainName RJ15 = true := by decide +kernel
theorem pn_J8 : plainName RJ8 = true := by decide +kernel
theorem pn_J3 : plainName RJ3 = true := by decide +kernel
